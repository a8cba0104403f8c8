/-! printed rows that this part uses -/
theorem dX17_raises_0 : decode cX17_raises 0 = .ok (.aload_n 0, 1) := by decide +kernel
theorem dX17_raises_1 : decode cX17_raises 1 = .ok (.iload_n 1, 1) := by decide +kernel
theorem dX17_raises_2 : decode cX17_raises 2 = .ok (.putfield 25, 3) := by decide +kernel
theorem dX17_raises_5 : decode cX17_raises 5 = .ok (.iconst 0, 1) := by decide +kernel
theorem dX17_raises_6 : decode cX17_raises 6 = .ok (.ireturn, 1) := by decide +kernel
theorem dX17_medals__20 : decode cX17_medals_ 20 = .ok (.iconst 0, 1) := by decide +kernel
theorem dX17_medals__21 : decode cX17_medals_ 21 = .ok (.goto 4, 3) := by decide +kernel
theorem dX17_medals__39 : decode cX17_medals_ 39 = .ok (.aload_n 0, 1) := by decide +kernel
theorem dX17_medals__40 : decode cX17_medals_ 40 = .ok (.invokevirtual 366, 3) := by decide +kernel
theorem dX17_medals__43 : decode cX17_medals_ 43 = .ok (.iload_n 1, 1) := by decide +kernel
theorem dX17_medals__44 : decode cX17_medals_ 44 = .ok (.aaload, 1) := by decide +kernel
theorem dX17_medals__45 : decode cX17_medals_ 45 = .ok (.iload_n 2, 1) := by decide +kernel
theorem dX17_medals__46 : decode cX17_medals_ 46 = .ok (.iaload, 1) := by decide +kernel
theorem dX17_isAhead__0 : decode cX17_isAhead_ 0 = .ok (.iconst 0, 1) := by decide +kernel
theorem dX17_isAhead__1 : decode cX17_isAhead_ 1 = .ok (.istore 4, 2) := by decide +kernel
theorem dX17_isAhead__3 : decode cX17_isAhead_ 3 = .ok (.iload_n 3, 1) := by decide +kernel
theorem dX17_isAhead__4 : decode cX17_isAhead_ 4 = .ok (.ifCond .eq 7, 3) := by decide +kernel
theorem dX17_isAhead__7 : decode cX17_isAhead_ 7 = .ok (.iconst 0, 1) := by decide +kernel
theorem dX17_isAhead__8 : decode cX17_isAhead_ 8 = .ok (.goto 4, 3) := by decide +kernel
theorem dX17_isAhead__11 : decode cX17_isAhead_ 11 = .ok (.iconst 1, 1) := by decide +kernel
theorem dX17_isAhead__12 : decode cX17_isAhead_ 12 = .ok (.istore 5, 2) := by decide +kernel
theorem dX17_isAhead__14 : decode cX17_isAhead_ 14 = .ok (.iload 5, 2) := by decide +kernel
theorem dX17_isAhead__16 : decode cX17_isAhead_ 16 = .ok (.iconst 3, 1) := by decide +kernel
theorem dX17_isAhead__17 : decode cX17_isAhead_ 17 = .ok (.if_icmp .gt 31, 3) := by decide +kernel
theorem dX17_isAhead__20 : decode cX17_isAhead_ 20 = .ok (.iload 4, 2) := by decide +kernel
theorem dX17_isAhead__22 : decode cX17_isAhead_ 22 = .ok (.ifCond .ne 26, 3) := by decide +kernel
theorem dX17_isAhead__25 : decode cX17_isAhead_ 25 = .ok (.aload_n 0, 1) := by decide +kernel
theorem dX17_isAhead__26 : decode cX17_isAhead_ 26 = .ok (.iload_n 1, 1) := by decide +kernel
theorem dX17_isAhead__27 : decode cX17_isAhead_ 27 = .ok (.aaload, 1) := by decide +kernel
theorem dX17_isAhead__28 : decode cX17_isAhead_ 28 = .ok (.iload 5, 2) := by decide +kernel
theorem dX17_isAhead__30 : decode cX17_isAhead_ 30 = .ok (.iaload, 1) := by decide +kernel
theorem dX17_isAhead__31 : decode cX17_isAhead_ 31 = .ok (.aload_n 0, 1) := by decide +kernel
theorem dX17_isAhead__32 : decode cX17_isAhead_ 32 = .ok (.iload_n 2, 1) := by decide +kernel
theorem dX17_isAhead__33 : decode cX17_isAhead_ 33 = .ok (.aaload, 1) := by decide +kernel
theorem dX17_isAhead__34 : decode cX17_isAhead_ 34 = .ok (.iload 5, 2) := by decide +kernel
theorem dX17_isAhead__36 : decode cX17_isAhead_ 36 = .ok (.iaload, 1) := by decide +kernel
theorem dX17_isAhead__37 : decode cX17_isAhead_ 37 = .ok (.invokestatic 269, 3) := by decide +kernel
theorem dX17_isAhead__40 : decode cX17_isAhead_ 40 = .ok (.istore 4, 2) := by decide +kernel
theorem dX17_isAhead__42 : decode cX17_isAhead_ 42 = .ok (.iinc 5 1, 3) := by decide +kernel
theorem dX17_isAhead__45 : decode cX17_isAhead_ 45 = .ok (.goto (-31), 3) := by decide +kernel
theorem dX17_isAhead__48 : decode cX17_isAhead_ 48 = .ok (.iload 4, 2) := by decide +kernel
theorem dX17_isAhead__50 : decode cX17_isAhead_ 50 = .ok (.ifCond .gt 13, 3) := by decide +kernel
theorem dX17_isAhead__53 : decode cX17_isAhead_ 53 = .ok (.iload 4, 2) := by decide +kernel
theorem dX17_isAhead__55 : decode cX17_isAhead_ 55 = .ok (.ifCond .ne 12, 3) := by decide +kernel
theorem dX17_isAhead__58 : decode cX17_isAhead_ 58 = .ok (.iload_n 1, 1) := by decide +kernel
theorem dX17_isAhead__59 : decode cX17_isAhead_ 59 = .ok (.iload_n 2, 1) := by decide +kernel
theorem dX17_isAhead__60 : decode cX17_isAhead_ 60 = .ok (.if_icmp .ge 7, 3) := by decide +kernel
theorem dX17_isAhead__63 : decode cX17_isAhead_ 63 = .ok (.iconst 1, 1) := by decide +kernel
theorem dX17_isAhead__64 : decode cX17_isAhead_ 64 = .ok (.goto 4, 3) := by decide +kernel
theorem dX17_isAhead__67 : decode cX17_isAhead_ 67 = .ok (.iconst 0, 1) := by decide +kernel
theorem dX17_isAhead__68 : decode cX17_isAhead_ 68 = .ok (.ireturn, 1) := by decide +kernel
theorem dX17_inTable_0 : decode cX17_inTable 0 = .ok (.aload_n 0, 1) := by decide +kernel
theorem dX17_inTable_1 : decode cX17_inTable 1 = .ok (.iload_n 1, 1) := by decide +kernel
theorem dX17_inTable_2 : decode cX17_inTable 2 = .ok (.iconst 0, 1) := by decide +kernel
theorem dX17_inTable_3 : decode cX17_inTable 3 = .ok (.bipush 7, 2) := by decide +kernel
theorem dX17_inTable_5 : decode cX17_inTable 5 = .ok (.invokestatic 29, 3) := by decide +kernel
theorem dX17_inTable_8 : decode cX17_inTable 8 = .ok (.ifCond .eq 7, 3) := by decide +kernel
theorem dX17_inTable_11 : decode cX17_inTable 11 = .ok (.iconst 0, 1) := by decide +kernel
theorem dX17_inTable_12 : decode cX17_inTable 12 = .ok (.goto 4, 3) := by decide +kernel
theorem dX17_inTable_15 : decode cX17_inTable 15 = .ok (.iconst 1, 1) := by decide +kernel
theorem dX17_inTable_16 : decode cX17_inTable 16 = .ok (.putfield 25, 3) := by decide +kernel
theorem dX17_inTable_19 : decode cX17_inTable 19 = .ok (.aload_n 0, 1) := by decide +kernel
theorem dX17_inTable_20 : decode cX17_inTable 20 = .ok (.invokevirtual 366, 3) := by decide +kernel
theorem dX17_inTable_23 : decode cX17_inTable 23 = .ok (.astore_n 3, 1) := by decide +kernel
theorem dX17_inTable_24 : decode cX17_inTable 24 = .ok (.iconst 0, 1) := by decide +kernel
theorem dX17_inTable_25 : decode cX17_inTable 25 = .ok (.istore 4, 2) := by decide +kernel
theorem dX17_inTable_27 : decode cX17_inTable 27 = .ok (.iload 4, 2) := by decide +kernel
theorem dX17_inTable_29 : decode cX17_inTable 29 = .ok (.bipush 8, 2) := by decide +kernel
theorem dX17_inTable_31 : decode cX17_inTable 31 = .ok (.if_icmp .ge 73, 3) := by decide +kernel
theorem dX17_inTable_34 : decode cX17_inTable 34 = .ok (.aload_n 0, 1) := by decide +kernel
theorem dX17_inTable_35 : decode cX17_inTable 35 = .ok (.getfield 25, 3) := by decide +kernel
theorem dX17_inTable_38 : decode cX17_inTable 38 = .ok (.ifCond .ne 66, 3) := by decide +kernel
theorem dX17_inTable_41 : decode cX17_inTable 41 = .ok (.iconst 0, 1) := by decide +kernel
theorem dX17_inTable_42 : decode cX17_inTable 42 = .ok (.istore 5, 2) := by decide +kernel
theorem dX17_inTable_44 : decode cX17_inTable 44 = .ok (.iconst 0, 1) := by decide +kernel
theorem dX17_inTable_45 : decode cX17_inTable 45 = .ok (.istore 6, 2) := by decide +kernel
theorem dX17_inTable_47 : decode cX17_inTable 47 = .ok (.iload 6, 2) := by decide +kernel
theorem dX17_inTable_49 : decode cX17_inTable 49 = .ok (.bipush 8, 2) := by decide +kernel
theorem dX17_inTable_51 : decode cX17_inTable 51 = .ok (.if_icmp .ge 38, 3) := by decide +kernel
theorem dX17_inTable_54 : decode cX17_inTable 54 = .ok (.iload 5, 2) := by decide +kernel
theorem dX17_inTable_56 : decode cX17_inTable 56 = .ok (.iload 6, 2) := by decide +kernel
theorem dX17_inTable_58 : decode cX17_inTable 58 = .ok (.iload 4, 2) := by decide +kernel
theorem dX17_inTable_60 : decode cX17_inTable 60 = .ok (.if_icmp .eq 19, 3) := by decide +kernel
theorem dX17_inTable_63 : decode cX17_inTable 63 = .ok (.aload_n 3, 1) := by decide +kernel
theorem dX17_inTable_64 : decode cX17_inTable 64 = .ok (.iload 6, 2) := by decide +kernel
theorem dX17_inTable_66 : decode cX17_inTable 66 = .ok (.iload 4, 2) := by decide +kernel
theorem dX17_inTable_68 : decode cX17_inTable 68 = .ok (.iload_n 2, 1) := by decide +kernel
theorem dX17_inTable_69 : decode cX17_inTable 69 = .ok (.invokestatic 370, 3) := by decide +kernel
theorem dX17_inTable_72 : decode cX17_inTable 72 = .ok (.ifCond .eq 7, 3) := by decide +kernel
theorem dX17_inTable_75 : decode cX17_inTable 75 = .ok (.iconst 1, 1) := by decide +kernel
theorem dX17_inTable_76 : decode cX17_inTable 76 = .ok (.goto 4, 3) := by decide +kernel
theorem dX17_inTable_79 : decode cX17_inTable 79 = .ok (.iconst 0, 1) := by decide +kernel
theorem dX17_inTable_80 : decode cX17_inTable 80 = .ok (.iadd, 1) := by decide +kernel
theorem dX17_inTable_81 : decode cX17_inTable 81 = .ok (.istore 5, 2) := by decide +kernel
theorem dX17_inTable_83 : decode cX17_inTable 83 = .ok (.iinc 6 1, 3) := by decide +kernel
theorem dX17_inTable_86 : decode cX17_inTable 86 = .ok (.goto (-39), 3) := by decide +kernel
theorem dX17_inTable_89 : decode cX17_inTable 89 = .ok (.iload 5, 2) := by decide +kernel
theorem dX17_inTable_91 : decode cX17_inTable 91 = .ok (.iload_n 1, 1) := by decide +kernel
theorem dX17_inTable_92 : decode cX17_inTable 92 = .ok (.if_icmp .ne 6, 3) := by decide +kernel
theorem dX17_inTable_95 : decode cX17_inTable 95 = .ok (.iload 4, 2) := by decide +kernel
theorem dX17_inTable_97 : decode cX17_inTable 97 = .ok (.ireturn, 1) := by decide +kernel
theorem dX17_inTable_98 : decode cX17_inTable 98 = .ok (.iinc 4 1, 3) := by decide +kernel
theorem dX17_inTable_101 : decode cX17_inTable 101 = .ok (.goto (-74), 3) := by decide +kernel
theorem dX17_inTable_104 : decode cX17_inTable 104 = .ok (.iconst 0, 1) := by decide +kernel
theorem dX17_inTable_105 : decode cX17_inTable 105 = .ok (.ireturn, 1) := by decide +kernel
theorem dX17_shareBits_0 : decode cX17_shareBits 0 = .ok (.iload_n 1, 1) := by decide +kernel
theorem dX17_shareBits_1 : decode cX17_shareBits 1 = .ok (.iconst 0, 1) := by decide +kernel
theorem dX17_shareBits_2 : decode cX17_shareBits 2 = .ok (.bipush 7, 2) := by decide +kernel
theorem dX17_shareBits_4 : decode cX17_shareBits 4 = .ok (.invokestatic 29, 3) := by decide +kernel
theorem dX17_shareBits_7 : decode cX17_shareBits 7 = .ok (.ifCond .ne 9, 3) := by decide +kernel
theorem dX17_shareBits_10 : decode cX17_shareBits 10 = .ok (.aload_n 0, 1) := by decide +kernel
theorem dX17_shareBits_11 : decode cX17_shareBits 11 = .ok (.iconst 1, 1) := by decide +kernel
theorem dX17_shareBits_12 : decode cX17_shareBits 12 = .ok (.invokevirtual 316, 3) := by decide +kernel
theorem dX17_shareBits_15 : decode cX17_shareBits 15 = .ok (.ireturn, 1) := by decide +kernel
theorem dX17_shareBits_16 : decode cX17_shareBits 16 = .ok (.aload_n 0, 1) := by decide +kernel
theorem dX17_shareBits_17 : decode cX17_shareBits 17 = .ok (.invokevirtual 366, 3) := by decide +kernel
theorem dX17_shareBits_20 : decode cX17_shareBits 20 = .ok (.astore_n 2, 1) := by decide +kernel
theorem dX17_shareBits_21 : decode cX17_shareBits 21 = .ok (.iconst 0, 1) := by decide +kernel
theorem dX17_shareBits_22 : decode cX17_shareBits 22 = .ok (.istore_n 3, 1) := by decide +kernel
theorem dX17_shareBits_23 : decode cX17_shareBits 23 = .ok (.aload_n 2, 1) := by decide +kernel
theorem dX17_shareBits_24 : decode cX17_shareBits 24 = .ok (.astore 4, 2) := by decide +kernel
theorem dX17_shareBits_26 : decode cX17_shareBits 26 = .ok (.aload 4, 2) := by decide +kernel
theorem dX17_shareBits_28 : decode cX17_shareBits 28 = .ok (.arraylength, 1) := by decide +kernel
theorem dX17_shareBits_29 : decode cX17_shareBits 29 = .ok (.istore 5, 2) := by decide +kernel
theorem dX17_shareBits_31 : decode cX17_shareBits 31 = .ok (.iconst 0, 1) := by decide +kernel
theorem dX17_shareBits_32 : decode cX17_shareBits 32 = .ok (.istore 6, 2) := by decide +kernel
theorem dX17_shareBits_34 : decode cX17_shareBits 34 = .ok (.iload 6, 2) := by decide +kernel
theorem dX17_shareBits_36 : decode cX17_shareBits 36 = .ok (.iload 5, 2) := by decide +kernel
theorem dX17_shareBits_38 : decode cX17_shareBits 38 = .ok (.if_icmp .ge 23, 3) := by decide +kernel
theorem dX17_shareBits_41 : decode cX17_shareBits 41 = .ok (.aload 4, 2) := by decide +kernel
theorem dX17_shareBits_43 : decode cX17_shareBits 43 = .ok (.iload 6, 2) := by decide +kernel
theorem dX17_shareBits_45 : decode cX17_shareBits 45 = .ok (.aaload, 1) := by decide +kernel
theorem dX17_shareBits_46 : decode cX17_shareBits 46 = .ok (.astore 7, 2) := by decide +kernel
theorem dX17_shareBits_48 : decode cX17_shareBits 48 = .ok (.iload_n 3, 1) := by decide +kernel
theorem dX17_shareBits_49 : decode cX17_shareBits 49 = .ok (.aload 7, 2) := by decide +kernel
theorem dX17_shareBits_51 : decode cX17_shareBits 51 = .ok (.iconst 0, 1) := by decide +kernel
theorem dX17_shareBits_52 : decode cX17_shareBits 52 = .ok (.iaload, 1) := by decide +kernel
theorem dX17_shareBits_53 : decode cX17_shareBits 53 = .ok (.iadd, 1) := by decide +kernel
theorem dX17_shareBits_54 : decode cX17_shareBits 54 = .ok (.istore_n 3, 1) := by decide +kernel
theorem dX17_shareBits_55 : decode cX17_shareBits 55 = .ok (.iinc 6 1, 3) := by decide +kernel
theorem dX17_shareBits_58 : decode cX17_shareBits 58 = .ok (.goto (-24), 3) := by decide +kernel
theorem dX17_shareBits_61 : decode cX17_shareBits 61 = .ok (.aload_n 0, 1) := by decide +kernel
theorem dX17_shareBits_62 : decode cX17_shareBits 62 = .ok (.iload_n 3, 1) := by decide +kernel
theorem dX17_shareBits_63 : decode cX17_shareBits 63 = .ok (.ifCond .ne 7, 3) := by decide +kernel
theorem dX17_shareBits_66 : decode cX17_shareBits 66 = .ok (.iconst 2, 1) := by decide +kernel
theorem dX17_shareBits_67 : decode cX17_shareBits 67 = .ok (.goto 4, 3) := by decide +kernel
theorem dX17_shareBits_71 : decode cX17_shareBits 71 = .ok (.putfield 25, 3) := by decide +kernel
theorem dX17_shareBits_74 : decode cX17_shareBits 74 = .ok (.aload_n 0, 1) := by decide +kernel
theorem dX17_shareBits_75 : decode cX17_shareBits 75 = .ok (.getfield 25, 3) := by decide +kernel
theorem dX17_shareBits_78 : decode cX17_shareBits 78 = .ok (.ifCond .le 7, 3) := by decide +kernel
theorem dX17_shareBits_81 : decode cX17_shareBits 81 = .ok (.iconst 0, 1) := by decide +kernel
theorem dX17_shareBits_82 : decode cX17_shareBits 82 = .ok (.goto 15, 3) := by decide +kernel
theorem dX17_shareBits_97 : decode cX17_shareBits 97 = .ok (.ireturn, 1) := by decide +kernel
theorem dJ6_compare_7cf53_0 : decode cJ6_compare_7cf53 0 = .ok (.iload_n 0, 1) := by decide +kernel
theorem dJ6_compare_7cf53_1 : decode cJ6_compare_7cf53 1 = .ok (.iload_n 1, 1) := by decide +kernel
theorem dJ6_compare_7cf53_2 : decode cJ6_compare_7cf53 2 = .ok (.if_icmp .ge 7, 3) := by decide +kernel
theorem dJ6_compare_7cf53_9 : decode cJ6_compare_7cf53 9 = .ok (.iload_n 0, 1) := by decide +kernel
theorem dJ6_compare_7cf53_10 : decode cJ6_compare_7cf53 10 = .ok (.iload_n 1, 1) := by decide +kernel
theorem dJ6_compare_7cf53_11 : decode cJ6_compare_7cf53 11 = .ok (.if_icmp .ne 7, 3) := by decide +kernel
theorem dJ6_compare_7cf53_14 : decode cJ6_compare_7cf53 14 = .ok (.iconst 0, 1) := by decide +kernel
theorem dJ6_compare_7cf53_15 : decode cJ6_compare_7cf53 15 = .ok (.goto 4, 3) := by decide +kernel
theorem dJ6_compare_7cf53_19 : decode cJ6_compare_7cf53 19 = .ok (.ireturn, 1) := by decide +kernel
def zX17_medals__ws : List Cond := .code yX17_medals_ cX17_medals_ 3 (some .int) :: ([.methodLink RX17 29 yX17_in, .static yX17_in, .initialized RX17, .fieldLink RX17 25 "HeatStadiumModel" "thrown" "I", .methodLink RX17 366 yX17_medals, .instanceMethod yX17_medals, .selects RX17 yX17_medals yX17_medals] ++ (zX17_in_ws ++ (wsX170 ++ (zX17_medals_ws ++ ([])))))
theorem zX17_medals__ws_good : zX17_medals__ws.all goodWord = true := by decide +kernel
set_option maxHeartbeats 4000000 in
set_option maxRecDepth 100000 in
/-- the reference: medals: 0 -/
theorem cm_medals_ok (l : Launch) (hst : l.stackTraces = false) (D : va_G) (sz : Nat) (mo b0 b1 b2 b3 dz : Nat) (th : Int32) (x1 x2 : Int32) (h : zin x1 0 7 = 1) (h2 : zin x2 0 3 = 1) : Met l yX17_medals_ zX17_medals__ws (zR 4 12 60) (zPreX (zM dz) [.ref mo, .int x1, .int x2] D [(mo, .inr (23, [.int th, .ref b0, .ref b1, .ref b2, .ref b3, .int 0, .int 0, .long 0])), (b2, .inr (5, [.int 0, .ref dz, .int 0]))] [] (va_A [(mo, .inr (23, [.int th, .ref b0, .ref b1, .ref b2, .ref b3, .int 0, .int 0, .long 0])), (b2, .inr (5, [.int 0, .ref dz, .int 0]))] sz) sz) (va_Qi (S := Unit) (fun r _ => r = 0) (fun _ t => zAt D [(mo, .inr (23, [.int 0, .ref b0, .ref b1, .ref b2, .ref b3, .int 0, .int 0, .long 0]))] [] (va_A [(mo, .inr (23, [.int th, .ref b0, .ref b1, .ref b2, .ref b3, .int 0, .int 0, .long 0])), (b2, .inr (5, [.int 0, .ref dz, .int 0]))] sz) t) (va_A [(mo, .inr (23, [.int th, .ref b0, .ref b1, .ref b2, .ref b3, .int 0, .int 0, .long 0])), (b2, .inr (5, [.int 0, .ref dz, .int 0]))] sz)) 12 60 (va_A [(mo, .inr (23, [.int th, .ref b0, .ref b1, .ref b2, .ref b3, .int 0, .int 0, .long 0])), (b2, .inr (5, [.int 0, .ref dz, .int 0]))] sz) := by
  obtain ⟨i, hi, rfl⟩ := zin_7 h
  obtain ⟨j, hj, rfl⟩ := zin_3 h2
  refine Met.ofW (cc := cX17_medals_) (maxL := 3) (ret := (some .int)) (by decide) rfl ?_
  intro p e s m args below meth c s₁ B hml hv
  obtain ⟨rfl, hsz, hP, hK, hD0, hz, hm⟩ := hv
  have hx := B.exec
  have hb := B.bytes
  have hr := B.returns
  have hts := atoms_spec (ws := zX17_medals__ws) B.pre
  have hown : s.vm.findClass RX17 = some m.cls := findClass_of_methodNamed B.named
  have hlocks := B.notSynchronized
  subst hsz
  have hD := hD0.self (sz := s.heap.size)
  generalize hAe : va_A [(mo, .inr (23, [.int th, .ref b0, .ref b1, .ref b2, .ref b3, .int 0, .int 0, .long 0])), (b2, .inr (5, [.int 0, .ref dz, .int 0]))] s.heap.size = A at hD hz hm ⊢
  have hA : ∀ q : Nat, s.heap.size ≤ q → A q := fun q h => by rw [← hAe]; exact Or.inr h
  have hS : va_S A s.heap s.heap [] := va_S.rf
  have hP : va_P D vwCl [(mo, .inr (23, [.int th, .ref b0, .ref b1, .ref b2, .ref b3, .int 0, .int 0, .long 0])), (b2, .inr (5, [.int 0, .ref dz, .int 0]))] s.heap := hP
  have hl := lv_entry ([.ref mo, .int (nI i), .int (nI j)]) (n := 3) (Nat.le_of_ble_eq_true rfl)
  rw [lg_entry_eq]
  generalize (lg_sl ([.ref mo, .int (nI i), .int (nI j)]) ++ List.replicate (3 - (lg_sl ([.ref mo, .int (nI i), .int (nI j)])).length) Slot.unset).toArray = ls at hl ⊢
  have hl : lv_has ls 3 [(0, .ref mo), (1, .int (nI i)), (2, .int (nI j))] := hl
  refine lv_aload_n hx hb dX17_medals__0 rfl (lv_at hl 0 rfl) ?_
  refine lv_iload_n hx hb dX17_medals__1 rfl (lv_at hl 1 rfl) ?_
  refine lv_iconst (v := 0) hx hb dX17_medals__2 (by decide) ?_
  refine lv_bipush (v := 7) hx hb dX17_medals__3 (by decide) ?_
  have hPc := hP.sub (ws' := []) [] rfl
  have hDc := hD.sub (ws' := []) [] (by decide) rfl
  have hKc := hK.sub (tys' := []) [] rfl
  have hFc : ∀ q : Nat, s.heap.size ≤ q → A q := fun q h => hA q (Nat.le_trans hS.1 h)
  refine va_calli (va_runS (As := [.int (nI i), .int 0, .int 7]) (rest := [.ref mo]) ⟨hx, hb, hml, hown, hts⟩ (c_in l hst D s.heap.size (nI i) 0 7) (cwS 3 hts (goodIn_app (goodIn_of _ (by decide +kernel)) (goodIn_sub (fun _ h => List.mem_cons_of_mem _ (List.mem_append_right _ (List.mem_append_left _ h))) zX17_in_ws_good)) rfl rfl rfl (by decide +kernel) ⟨Nat.le_of_ble_eq_true rfl, Nat.le_of_ble_eq_true rfl⟩) ⟨zPre.blind, zPre.mk hPc hKc hDc hz hS (fun q h => hFc q h)⟩ rfl rfl hl.1 rfl (lv_room (Nat.le_of_ble_eq_true rfl)) dX17_medals__5 ⟨Nat.le_of_ble_eq_true rfl, Nat.le_of_ble_eq_true rfl⟩) hS (fun q _ h => hFc q h) (fun q h => hFc q h) (fun r9 u t H1 locs ht9 hvm hw hB hz1 hk1 hS => ?_)
  refine W.widen (k := 0) (n := 0) (by omega) (by omega) ?_
  have hP := zKeep hP hk1
  generalize H1 = H at hP hS ⊢
  have hP : va_P D vwCl [(mo, .inr (23, [.int th, .ref b0, .ref b1, .ref b2, .ref b3, .int 0, .int 0, .long 0])), (b2, .inr (5, [.int 0, .ref dz, .int 0]))] H := hP
  obtain rfl : r9 = 1 := hw.trans h
  refine lv_if_eq (tgt := 24) hx hb dX17_medals__8 (by decide) (fun c => absurd c (by decide)) (fun _ => ?_)
  refine lv_iload_n hx hb dX17_medals__11 rfl (lv_at hl 2 rfl) ?_
  refine lv_iconst (v := 0) hx hb dX17_medals__12 (by decide) ?_
  refine lv_iconst (v := 3) hx hb dX17_medals__13 (by decide) ?_
  have hPc := hP.sub (ws' := []) [] rfl
  have hDc := hD.sub (ws' := []) [] (by decide) rfl
  have hKc := hK.sub (tys' := []) [] rfl
  have hFc : ∀ q : Nat, H.size ≤ q → A q := fun q h => hA q (Nat.le_trans hS.1 h)
  refine va_calli (va_runS (As := [.int (nI j), .int 0, .int 3]) (rest := [.ref mo]) ⟨hx, hb, hml, hown, hts⟩ (c_in l hst D H.size (nI j) 0 3) (cwS 3 hts (goodIn_app (goodIn_of _ (by decide +kernel)) (goodIn_sub (fun _ h => List.mem_cons_of_mem _ (List.mem_append_right _ (List.mem_append_left _ h))) zX17_in_ws_good)) rfl rfl rfl (by decide +kernel) ⟨Nat.le_of_ble_eq_true rfl, Nat.le_of_ble_eq_true rfl⟩) ⟨zPre.blind, zPre.mk hPc hKc hDc hz hS (fun q h => hFc q h)⟩ rfl rfl hl.1 rfl (lv_room (Nat.le_of_ble_eq_true rfl)) dX17_medals__14 ⟨Nat.le_of_ble_eq_true rfl, Nat.le_of_ble_eq_true rfl⟩) hS (fun q _ h => hFc q h) (fun q h => hFc q h) (fun r9 u t H1 locs ht9 hvm hw hB hz1 hk1 hS => ?_)
  refine W.widen (k := 0) (n := 0) (by omega) (by omega) ?_
  have hP := zKeep hP hk1
  generalize H1 = H at hP hS ⊢
  have hP : va_P D vwCl [(mo, .inr (23, [.int th, .ref b0, .ref b1, .ref b2, .ref b3, .int 0, .int 0, .long 0])), (b2, .inr (5, [.int 0, .ref dz, .int 0]))] H := hP
  obtain rfl : r9 = 1 := hw.trans h2
  refine lv_if_eq (tgt := 24) hx hb dX17_medals__17 (by decide) (fun c => absurd c (by decide)) (fun _ => ?_)
  refine lv_iconst (v := 0) hx hb dX17_medals__20 (by decide) ?_
  refine lv_goto (tgt := 25) hx hb dX17_medals__21 (by decide) ?_
  refine va_put (D := D) (ci := 23) (v := .int 0) (ty := .int) (C := RX17) (T := TX17) (N := 8) hx hb hts (by decide +kernel) tyX17 tyX17_ok nmX17 hown hK hP hD hS 0 rfl rfl 0 (by decide) (hts (.fieldLink RX17 25 "HeatStadiumModel" "thrown" "I") (by decide +kernel)) (fun _ h9 => h9) rfl (by decide +kernel) rfl rfl (Nat.le_of_ble_eq_true rfl) dX17_medals__25 (fun H locs hP hD hS => ?_)
  have hP : va_P D vwCl [(mo, .inr (23, [.int 0, .ref b0, .ref b1, .ref b2, .ref b3, .int 0, .int 0, .long 0])), (b2, .inr (5, [.int 0, .ref dz, .int 0]))] H := hP
  have hD : va_D A [(mo, .inr (23, [.int 0, .ref b0, .ref b1, .ref b2, .ref b3, .int 0, .int 0, .long 0])), (b2, .inr (5, [.int 0, .ref dz, .int 0]))] := hD
  refine lv_aload_n hx hb dX17_medals__28 rfl (lv_at hl 0 rfl) ?_
  refine va_get (D := D) (ci := 23) (v := .int 0) (C := RX17) (T := TX17) (N := 8) hx hb hts (by decide +kernel) hown hK hP 0 rfl rfl 0 (by decide) (hts (.fieldLink RX17 25 "HeatStadiumModel" "thrown" "I") (by decide +kernel)) (fun _ h9 => h9) rfl dX17_medals__29 ?_
  refine lv_if_le (tgt := 39) hx hb dX17_medals__32 (by decide) (fun _ => ?_) (fun c => absurd (by decide) c)
  refine lv_aload_n hx hb dX17_medals__39 rfl (lv_at hl 0 rfl) ?_
  have hPc := hP.sub (ws' := [(mo, .inr (23, [.int 0, .ref b0, .ref b1, .ref b2, .ref b3, .int 0, .int 0, .long 0])), (b2, .inr (5, [.int 0, .ref dz, .int 0]))]) [0, 1] rfl
  have hDc := hD.sub (ws' := [(mo, .inr (23, [.int 0, .ref b0, .ref b1, .ref b2, .ref b3, .int 0, .int 0, .long 0])), (b2, .inr (5, [.int 0, .ref dz, .int 0]))]) [0, 1] (by decide) rfl
  have hKc := hK.sub (tys' := []) [] rfl
  have hFc := va_free (wc := [(mo, .inr (23, [.int 0, .ref b0, .ref b1, .ref b2, .ref b3, .int 0, .int 0, .long 0])), (b2, .inr (5, [.int 0, .ref dz, .int 0]))]) hD hS hA [0, 1] rfl
  refine va_callq (va_runV (As := []) (rest := []) ⟨hx, hb, hml, hown, hts⟩ (cm_grid l hst D H.size mo b0 b1 b2 b3 dz 0) (cwV 0 hts (goodIn_app (goodIn_of _ (by decide +kernel)) (goodIn_sub (fun _ h => List.mem_cons_of_mem _ (List.mem_append_right _ (List.mem_append_right _ (List.mem_append_right _ (List.mem_append_left _ h))))) zX17_medals_ws_good)) rfl rfl rfl (by decide +kernel) ⟨Nat.le_of_ble_eq_true rfl, Nat.le_of_ble_eq_true rfl⟩) ⟨zPreX.blind (zM_ok dz), va_recv hKc hPc (ci := 23) (q0 := 0) rfl rfl, zPreX.mk (zM_ok dz) (hm) hPc hKc hDc hz hS (fun q h => hFc q h)⟩ rfl rfl hl.1 rfl (lv_room (Nat.le_of_ble_eq_true rfl)) dX17_medals__40 ⟨Nat.le_of_ble_eq_true rfl, Nat.le_of_ble_eq_true rfl⟩) hS (fun q _ h => hFc q h) (fun q h => hFc q h) (fun r9 u t H1 locs ht9 hvm hw hB hz1 hk1 hS => ?_)
  refine W.widen (k := 12) (n := 60) (by omega) (by omega) ?_
  obtain ⟨g, og, LR, cG, cI⟩ := u
  obtain ⟨hg, hP1, hK1, hD1⟩ := hB
  rw [ht9] at hP1
  have hK1 := va_K.moved hvm.symm hK1
  have hg : ∀ i, i < 8 → ∃ y, og i = some y ∧ y ∈ LR := hg
  obtain ⟨hP, hD⟩ := va_join (wr := []) (w1 := [(mo, .inr (23, [.int 0, .ref b0, .ref b1, .ref b2, .ref b3, .int 0, .int 0, .long 0])), (b2, .inr (5, [.int 0, .ref dz, .int 0])), (g, .inl (cG, 8, .inr (.inr (.inr (.inr og)))))] ++ va_pl LR (zrow cI)) hP hD [0, 1] [] rfl rfl (by decide) (by decide) hk1 hFc hP1 hD1
  have hK := (hK.sub (tys' := []) [] rfl).app hK1
  generalize H1 = H at hP hS ⊢
  have hP : va_P D vwCl ([(mo, .inr (23, [.int 0, .ref b0, .ref b1, .ref b2, .ref b3, .int 0, .int 0, .long 0])), (b2, .inr (5, [.int 0, .ref dz, .int 0])), (g, .inl (cG, 8, .inr (.inr (.inr (.inr og)))))] ++ va_pl LR (zrow cI)) H := hP
  have hD : va_D A ([(mo, .inr (23, [.int 0, .ref b0, .ref b1, .ref b2, .ref b3, .int 0, .int 0, .long 0])), (b2, .inr (5, [.int 0, .ref dz, .int 0])), (g, .inl (cG, 8, .inr (.inr (.inr (.inr og)))))] ++ va_pl LR (zrow cI)) := hD
  have hK : va_K D vwCl [(cG, .array .int), (cI, .int)] s := hK
  subst hw
  refine lv_iload_n hx hb dX17_medals__43 rfl (lv_at hl 1 rfl) ?_
  obtain ⟨y1, ey1, my1⟩ := hg i hi
  obtain ⟨ky1, hy1⟩ := va_pl_get (X := [(mo, .inr (23, [.int 0, .ref b0, .ref b1, .ref b2, .ref b3, .int 0, .int 0, .long 0])), (b2, .inr (5, [.int 0, .ref dz, .int 0])), (g, .inl (cG, 8, .inr (.inr (.inr (.inr og)))))]) (f := zrow cI) my1
  refine zaldg hx hb hK hP 2 0 rfl rfl (vp_in_nI hi (by decide)) dX17_medals__44 ?_
  rw [show (nI i).toNatClampNeg = i from nI_clamp (by omega), ey1]
  refine lv_iload_n hx hb dX17_medals__45 rfl (lv_at hl 2 rfl) ?_
  refine va_iald hx hb hK hP ky1 1 hy1 rfl (vp_in_nI hj (by decide)) dX17_medals__46 ?_
  have hP9 := hP.sub (ws' := [(mo, .inr (23, [.int 0, .ref b0, .ref b1, .ref b2, .ref b3, .int 0, .int 0, .long 0]))]) [0] rfl
  have hD9 := hD.sub (ws' := [(mo, .inr (23, [.int 0, .ref b0, .ref b1, .ref b2, .ref b3, .int 0, .int 0, .long 0]))]) [0] (by decide) rfl
  have hK9 := hK.sub (tys' := []) [] rfl
  rw [← hAe] at hD9
  refine W.widen (k := 12) (n := 60) (by omega) (by omega) ?_
  subst hAe
  exact W.iret (v := 0) hx hb hr (fun t ht9 hW => ⟨⟨0, (), rfl, rfl, ⟨by rw [ht9]; exact hP9, va_K.moved hW.alike hK9, hD9⟩⟩, hS.F ht9⟩) hS.2.2 dX17_medals__47

def zJ6_compare_7cf53_ws : List Cond := .code yJ6_compare_7cf53 cJ6_compare_7cf53 2 (some .int) :: ([] ++ [])
theorem zJ6_compare_7cf53_ws_good : zJ6_compare_7cf53_ws.all goodWord = true := by decide +kernel
set_option maxHeartbeats 4000000 in
set_option maxRecDepth 100000 in
/-- compare(0, 0) -/
theorem c_compare (l : Launch) (hst : l.stackTraces = false) (D : va_G) (sz : Nat) : Met l yJ6_compare_7cf53 zJ6_compare_7cf53_ws (zR 0 0 0) (zPre [.int 0, .int 0] D [] [] (fun q : Nat => sz ≤ q) sz) (va_Qi (S := Unit) (fun r _ => r = 0) (fun _ _ => True) (fun q : Nat => sz ≤ q)) 0 0 (fun q : Nat => sz ≤ q) := by
  refine Met.ofW (cc := cJ6_compare_7cf53) (maxL := 2) (ret := (some .int)) (by decide) rfl ?_
  intro p e s m args below meth c s₁ B hml hv
  obtain ⟨rfl, hsz, hP, hK, hD0, hz⟩ := hv
  have hx := B.exec
  have hb := B.bytes
  have hr := B.returns
  have hts := atoms_spec (ws := zJ6_compare_7cf53_ws) B.pre
  have hown : s.vm.findClass RJ6 = some m.cls := findClass_of_methodNamed B.named
  have hlocks := B.notSynchronized
  subst hsz
  obtain ⟨A, hAe⟩ : ∃ A : Nat → Prop, A = (fun q : Nat => s.heap.size ≤ q) := ⟨_, rfl⟩
  rw [← hAe] at hz ⊢
  have hA : ∀ q : Nat, s.heap.size ≤ q → A q := fun q h => by rw [hAe]; exact h
  have hD := hD0
  have hS : va_S A s.heap s.heap [] := va_S.rf
  have hP : va_P D vwCl [] s.heap := hP
  have hl := lv_entry ([.int 0, .int 0]) (n := 2) (Nat.le_of_ble_eq_true rfl)
  rw [lg_entry_eq]
  generalize (lg_sl ([.int 0, .int 0]) ++ List.replicate (2 - (lg_sl ([.int 0, .int 0])).length) Slot.unset).toArray = ls at hl ⊢
  have hl : lv_has ls 2 [(0, .int 0), (1, .int 0)] := hl
  refine lv_iload_n hx hb dJ6_compare_7cf53_0 rfl (lv_at hl 0 rfl) ?_
  refine lv_iload_n hx hb dJ6_compare_7cf53_1 rfl (lv_at hl 1 rfl) ?_
  refine lv_icmp_ge (tgt := 9) hx hb dJ6_compare_7cf53_2 (by decide) (fun _ => ?_) (fun c => absurd (by decide) c)
  refine lv_iload_n hx hb dJ6_compare_7cf53_9 rfl (lv_at hl 0 rfl) ?_
  refine lv_iload_n hx hb dJ6_compare_7cf53_10 rfl (lv_at hl 1 rfl) ?_
  refine lv_icmp_ne (tgt := 18) hx hb dJ6_compare_7cf53_11 (by decide) (fun c => absurd (by decide) c) (fun _ => ?_)
  refine lv_iconst (v := 0) hx hb dJ6_compare_7cf53_14 (by decide) ?_
  refine lv_goto (tgt := 19) hx hb dJ6_compare_7cf53_15 (by decide) ?_
  refine W.widen (k := 0) (n := 0) (by omega) (by omega) ?_
  exact W.iret (v := 0) hx hb hr (fun t ht9 hW => ⟨⟨0, (), rfl, rfl, trivial⟩, hS.F ht9⟩) hS.2.2 dJ6_compare_7cf53_19

def zX17_isAhead__ws : List Cond := .code yX17_isAhead_ cX17_isAhead_ 6 (some .boolean) :: ([.methodLink RX17 269 yJ6_compare_7cf53, .static yJ6_compare_7cf53, .initialized RJ6] ++ (zJ6_compare_7cf53_ws ++ ([])))
theorem zX17_isAhead__ws_good : zX17_isAhead__ws.all goodWord = true := by decide +kernel
set_option maxHeartbeats 4000000 in
set_option maxRecDepth 100000 in
/-- the reference: isAhead in a table of nothing -/
theorem cm_isAhead (l : Launch) (hst : l.stackTraces = false) (D : va_G) (sz : Nat) (g : Nat) (og : Nat → Option Nat) (LR : List Nat) (cG cI : ClassId) (i j : Nat) (x3 : Int32) (hg : ∀ i, i < 8 → ∃ y, og i = some y ∧ y ∈ LR) (hi : i < 8) (hj : j < 8) : Met l yX17_isAhead_ zX17_isAhead__ws (zR 1 0 0) (zPre [.ref g, .int (nI i), .int (nI j), .int x3] D ([(g, .inl (cG, 8, .inr (.inr (.inr (.inr og)))))] ++ va_pl LR (zrow cI)) [(cG, .array .int), (cI, .int)] (fun q : Nat => sz ≤ q) sz) (va_Qi (S := Unit) (fun r _ => r = if nI i < nI j then 1 else 0) (fun _ _ => True) (fun q : Nat => sz ≤ q)) 0 0 (fun q : Nat => sz ≤ q) := by
  refine Met.ofW (cc := cX17_isAhead_) (maxL := 6) (ret := (some .boolean)) (by decide) rfl ?_
  intro p e s m args below meth c s₁ B hml hv
  obtain ⟨rfl, hsz, hP, hK, hD0, hz⟩ := hv
  have hx := B.exec
  have hb := B.bytes
  have hr := B.returns
  have hts := atoms_spec (ws := zX17_isAhead__ws) B.pre
  have hown : s.vm.findClass RX17 = some m.cls := findClass_of_methodNamed B.named
  have hlocks := B.notSynchronized
  subst hsz
  obtain ⟨A, hAe⟩ : ∃ A : Nat → Prop, A = (fun q : Nat => s.heap.size ≤ q) := ⟨_, rfl⟩
  rw [← hAe] at hz ⊢
  have hA : ∀ q : Nat, s.heap.size ≤ q → A q := fun q h => by rw [hAe]; exact h
  have hD := hD0
  have hS : va_S A s.heap s.heap [] := va_S.rf
  have hP : va_P D vwCl ([(g, .inl (cG, 8, .inr (.inr (.inr (.inr og)))))] ++ va_pl LR (zrow cI)) s.heap := hP
  have hl := lv_entry ([.ref g, .int (nI i), .int (nI j), .int x3]) (n := 6) (Nat.le_of_ble_eq_true rfl)
  rw [lg_entry_eq]
  generalize (lg_sl ([.ref g, .int (nI i), .int (nI j), .int x3]) ++ List.replicate (6 - (lg_sl ([.ref g, .int (nI i), .int (nI j), .int x3])).length) Slot.unset).toArray = ls at hl ⊢
  have hl : lv_has ls 6 [(0, .ref g), (1, .int (nI i)), (2, .int (nI j)), (3, .int x3)] := hl
  refine lv_iconst (v := 0) hx hb dX17_isAhead__0 (by decide) ?_
  refine lv_istore (lv' := [(4, .int 0), (0, .ref g), (1, .int (nI i)), (2, .int (nI j)), (3, .int x3)]) hx hb dX17_isAhead__1 hl (by decide) rfl (fun ls hl => ?_)
  refine lv_iload_n hx hb dX17_isAhead__3 rfl (lv_at hl 4 rfl) ?_
  refine lv_if_eq (tgt := 11) hx hb dX17_isAhead__4 (by decide) (fun c1 => ?_) (fun c1 => ?_)
  · refine lv_iconst (v := 1) hx hb dX17_isAhead__11 (by decide) ?_
    refine lv_istore (lv' := [(5, .int 1), (4, .int 0), (0, .ref g), (1, .int (nI i)), (2, .int (nI j)), (3, .int x3)]) hx hb dX17_isAhead__12 hl (by decide) rfl (fun ls hl => ?_)
    refine lv_iload hx hb dX17_isAhead__14 (lv_at hl 0 rfl) ?_
    refine lv_iconst (v := 3) hx hb dX17_isAhead__16 (by decide) ?_
    refine lv_icmp_gt (tgt := 48) hx hb dX17_isAhead__17 (by decide) (fun c => absurd c (by decide)) (fun _ => ?_)
    refine lv_iload hx hb dX17_isAhead__20 (lv_at hl 1 rfl) ?_
    refine lv_if_ne (tgt := 48) hx hb dX17_isAhead__22 (by decide) (fun c => absurd (by decide) c) (fun _ => ?_)
    refine lv_aload_n hx hb dX17_isAhead__25 rfl (lv_at hl 2 rfl) ?_
    refine lv_iload_n hx hb dX17_isAhead__26 rfl (lv_at hl 3 rfl) ?_
    obtain ⟨y2, ey2, my2⟩ := hg i hi
    obtain ⟨ky2, hy2⟩ := va_pl_get (X := [(g, .inl (cG, 8, .inr (.inr (.inr (.inr og)))))]) (f := zrow cI) my2
    refine zaldg hx hb hK hP 0 0 rfl rfl (vp_in_nI hi (by decide)) dX17_isAhead__27 ?_
    rw [show (nI i).toNatClampNeg = i from nI_clamp (by omega), ey2]
    refine lv_iload hx hb dX17_isAhead__28 (lv_at hl 0 rfl) ?_
    refine va_iald hx hb hK hP ky2 1 hy2 rfl (show vp_in 1 4 by unfold vp_in; decide) dX17_isAhead__30 ?_
    refine lv_aload_n hx hb dX17_isAhead__31 rfl (lv_at hl 2 rfl) ?_
    refine lv_iload_n hx hb dX17_isAhead__32 rfl (lv_at hl 4 rfl) ?_
    obtain ⟨y3, ey3, my3⟩ := hg j hj
    obtain ⟨ky3, hy3⟩ := va_pl_get (X := [(g, .inl (cG, 8, .inr (.inr (.inr (.inr og)))))]) (f := zrow cI) my3
    refine zaldg hx hb hK hP 0 0 rfl rfl (vp_in_nI hj (by decide)) dX17_isAhead__33 ?_
    rw [show (nI j).toNatClampNeg = j from nI_clamp (by omega), ey3]
    refine lv_iload hx hb dX17_isAhead__34 (lv_at hl 0 rfl) ?_
    refine va_iald hx hb hK hP ky3 1 hy3 rfl (show vp_in 1 4 by unfold vp_in; decide) dX17_isAhead__36 ?_
    have hPc := hP.sub (ws' := []) [] rfl
    have hDc := hD.sub (ws' := []) [] (by decide) rfl
    have hKc := hK.sub (tys' := []) [] rfl
    have hFc : ∀ q : Nat, s.heap.size ≤ q → A q := fun q h => hA q (Nat.le_trans hS.1 h)
    refine va_calli (va_runS (As := [.int 0, .int 0]) (rest := []) ⟨hx, hb, hml, hown, hts⟩ (c_compare l hst D s.heap.size) (va_cwS 2 hts (goodIn_app (goodIn_of _ (by decide +kernel)) (goodIn_sub (fun _ h => List.mem_cons_of_mem _ (List.mem_append_right _ (List.mem_append_left _ h))) zJ6_compare_7cf53_ws_good)) rfl rfl rfl (by decide +kernel) ⟨Nat.le_of_ble_eq_true rfl, Nat.le_of_ble_eq_true rfl⟩) ⟨zPre.blind, zPre.mk hPc hKc hDc hz hS (fun q h => hFc q h)⟩ rfl rfl hl.1 rfl (lv_room (Nat.le_of_ble_eq_true rfl)) dX17_isAhead__37 ⟨Nat.le_of_ble_eq_true rfl, Nat.le_of_ble_eq_true rfl⟩) hS (fun q _ h => hFc q h) (fun q h => hFc q h) (fun r9 u t H1 locs ht9 hvm hw hB hz1 hk1 hS => ?_)
    refine W.widen (k := 0) (n := 0) (by omega) (by omega) ?_
    have hP := zKeep hP hk1
    generalize H1 = H at hP hS ⊢
    have hP : va_P D vwCl ([(g, .inl (cG, 8, .inr (.inr (.inr (.inr og)))))] ++ va_pl LR (zrow cI)) H := hP
    subst hw
    refine lv_istore (lv' := [(4, .int 0), (5, .int 1), (0, .ref g), (1, .int (nI i)), (2, .int (nI j)), (3, .int x3)]) hx hb dX17_isAhead__40 hl (by decide) rfl (fun ls hl => ?_)
    refine lv_iinc (v := 2) (lv' := [(5, .int 2), (4, .int 0), (0, .ref g), (1, .int (nI i)), (2, .int (nI j)), (3, .int x3)]) hx hb dX17_isAhead__42 hl (k := 1) rfl (by decide) (by decide) rfl (fun ls hl => ?_)
    refine lv_goto (tgt := 14) hx hb dX17_isAhead__45 (by decide) ?_
    refine lv_iload hx hb dX17_isAhead__14 (lv_at hl 0 rfl) ?_
    refine lv_iconst (v := 3) hx hb dX17_isAhead__16 (by decide) ?_
    refine lv_icmp_gt (tgt := 48) hx hb dX17_isAhead__17 (by decide) (fun c => absurd c (by decide)) (fun _ => ?_)
    refine lv_iload hx hb dX17_isAhead__20 (lv_at hl 1 rfl) ?_
    refine lv_if_ne (tgt := 48) hx hb dX17_isAhead__22 (by decide) (fun c => absurd (by decide) c) (fun _ => ?_)
    refine lv_aload_n hx hb dX17_isAhead__25 rfl (lv_at hl 2 rfl) ?_
    refine lv_iload_n hx hb dX17_isAhead__26 rfl (lv_at hl 3 rfl) ?_
    obtain ⟨y4, ey4, my4⟩ := hg i hi
    obtain ⟨ky4, hy4⟩ := va_pl_get (X := [(g, .inl (cG, 8, .inr (.inr (.inr (.inr og)))))]) (f := zrow cI) my4
    refine zaldg hx hb hK hP 0 0 rfl rfl (vp_in_nI hi (by decide)) dX17_isAhead__27 ?_
    rw [show (nI i).toNatClampNeg = i from nI_clamp (by omega), ey4]
    refine lv_iload hx hb dX17_isAhead__28 (lv_at hl 0 rfl) ?_
    refine va_iald hx hb hK hP ky4 1 hy4 rfl (show vp_in 2 4 by unfold vp_in; decide) dX17_isAhead__30 ?_
    refine lv_aload_n hx hb dX17_isAhead__31 rfl (lv_at hl 2 rfl) ?_
    refine lv_iload_n hx hb dX17_isAhead__32 rfl (lv_at hl 4 rfl) ?_
    obtain ⟨y5, ey5, my5⟩ := hg j hj
    obtain ⟨ky5, hy5⟩ := va_pl_get (X := [(g, .inl (cG, 8, .inr (.inr (.inr (.inr og)))))]) (f := zrow cI) my5
    refine zaldg hx hb hK hP 0 0 rfl rfl (vp_in_nI hj (by decide)) dX17_isAhead__33 ?_
    rw [show (nI j).toNatClampNeg = j from nI_clamp (by omega), ey5]
    refine lv_iload hx hb dX17_isAhead__34 (lv_at hl 0 rfl) ?_
    refine va_iald hx hb hK hP ky5 1 hy5 rfl (show vp_in 2 4 by unfold vp_in; decide) dX17_isAhead__36 ?_
    have hPc := hP.sub (ws' := []) [] rfl
    have hDc := hD.sub (ws' := []) [] (by decide) rfl
    have hKc := hK.sub (tys' := []) [] rfl
    have hFc : ∀ q : Nat, H.size ≤ q → A q := fun q h => hA q (Nat.le_trans hS.1 h)
    refine va_calli (va_runS (As := [.int 0, .int 0]) (rest := []) ⟨hx, hb, hml, hown, hts⟩ (c_compare l hst D H.size) (va_cwS 2 hts (goodIn_app (goodIn_of _ (by decide +kernel)) (goodIn_sub (fun _ h => List.mem_cons_of_mem _ (List.mem_append_right _ (List.mem_append_left _ h))) zJ6_compare_7cf53_ws_good)) rfl rfl rfl (by decide +kernel) ⟨Nat.le_of_ble_eq_true rfl, Nat.le_of_ble_eq_true rfl⟩) ⟨zPre.blind, zPre.mk hPc hKc hDc hz hS (fun q h => hFc q h)⟩ rfl rfl hl.1 rfl (lv_room (Nat.le_of_ble_eq_true rfl)) dX17_isAhead__37 ⟨Nat.le_of_ble_eq_true rfl, Nat.le_of_ble_eq_true rfl⟩) hS (fun q _ h => hFc q h) (fun q h => hFc q h) (fun r9 u t H1 locs ht9 hvm hw hB hz1 hk1 hS => ?_)
    refine W.widen (k := 0) (n := 0) (by omega) (by omega) ?_
    have hP := zKeep hP hk1
    generalize H1 = H at hP hS ⊢
    have hP : va_P D vwCl ([(g, .inl (cG, 8, .inr (.inr (.inr (.inr og)))))] ++ va_pl LR (zrow cI)) H := hP
    subst hw
    refine lv_istore (lv' := [(4, .int 0), (5, .int 2), (0, .ref g), (1, .int (nI i)), (2, .int (nI j)), (3, .int x3)]) hx hb dX17_isAhead__40 hl (by decide) rfl (fun ls hl => ?_)
    refine lv_iinc (v := 3) (lv' := [(5, .int 3), (4, .int 0), (0, .ref g), (1, .int (nI i)), (2, .int (nI j)), (3, .int x3)]) hx hb dX17_isAhead__42 hl (k := 1) rfl (by decide) (by decide) rfl (fun ls hl => ?_)
    refine lv_goto (tgt := 14) hx hb dX17_isAhead__45 (by decide) ?_
    refine lv_iload hx hb dX17_isAhead__14 (lv_at hl 0 rfl) ?_
    refine lv_iconst (v := 3) hx hb dX17_isAhead__16 (by decide) ?_
    refine lv_icmp_gt (tgt := 48) hx hb dX17_isAhead__17 (by decide) (fun c => absurd c (by decide)) (fun _ => ?_)
    refine lv_iload hx hb dX17_isAhead__20 (lv_at hl 1 rfl) ?_
    refine lv_if_ne (tgt := 48) hx hb dX17_isAhead__22 (by decide) (fun c => absurd (by decide) c) (fun _ => ?_)
    refine lv_aload_n hx hb dX17_isAhead__25 rfl (lv_at hl 2 rfl) ?_
    refine lv_iload_n hx hb dX17_isAhead__26 rfl (lv_at hl 3 rfl) ?_
    obtain ⟨y6, ey6, my6⟩ := hg i hi
    obtain ⟨ky6, hy6⟩ := va_pl_get (X := [(g, .inl (cG, 8, .inr (.inr (.inr (.inr og)))))]) (f := zrow cI) my6
    refine zaldg hx hb hK hP 0 0 rfl rfl (vp_in_nI hi (by decide)) dX17_isAhead__27 ?_
    rw [show (nI i).toNatClampNeg = i from nI_clamp (by omega), ey6]
    refine lv_iload hx hb dX17_isAhead__28 (lv_at hl 0 rfl) ?_
    refine va_iald hx hb hK hP ky6 1 hy6 rfl (show vp_in 3 4 by unfold vp_in; decide) dX17_isAhead__30 ?_
    refine lv_aload_n hx hb dX17_isAhead__31 rfl (lv_at hl 2 rfl) ?_
    refine lv_iload_n hx hb dX17_isAhead__32 rfl (lv_at hl 4 rfl) ?_
    obtain ⟨y7, ey7, my7⟩ := hg j hj
    obtain ⟨ky7, hy7⟩ := va_pl_get (X := [(g, .inl (cG, 8, .inr (.inr (.inr (.inr og)))))]) (f := zrow cI) my7
    refine zaldg hx hb hK hP 0 0 rfl rfl (vp_in_nI hj (by decide)) dX17_isAhead__33 ?_
    rw [show (nI j).toNatClampNeg = j from nI_clamp (by omega), ey7]
    refine lv_iload hx hb dX17_isAhead__34 (lv_at hl 0 rfl) ?_
    refine va_iald hx hb hK hP ky7 1 hy7 rfl (show vp_in 3 4 by unfold vp_in; decide) dX17_isAhead__36 ?_
    have hPc := hP.sub (ws' := []) [] rfl
    have hDc := hD.sub (ws' := []) [] (by decide) rfl
    have hKc := hK.sub (tys' := []) [] rfl
    have hFc : ∀ q : Nat, H.size ≤ q → A q := fun q h => hA q (Nat.le_trans hS.1 h)
    refine va_calli (va_runS (As := [.int 0, .int 0]) (rest := []) ⟨hx, hb, hml, hown, hts⟩ (c_compare l hst D H.size) (va_cwS 2 hts (goodIn_app (goodIn_of _ (by decide +kernel)) (goodIn_sub (fun _ h => List.mem_cons_of_mem _ (List.mem_append_right _ (List.mem_append_left _ h))) zJ6_compare_7cf53_ws_good)) rfl rfl rfl (by decide +kernel) ⟨Nat.le_of_ble_eq_true rfl, Nat.le_of_ble_eq_true rfl⟩) ⟨zPre.blind, zPre.mk hPc hKc hDc hz hS (fun q h => hFc q h)⟩ rfl rfl hl.1 rfl (lv_room (Nat.le_of_ble_eq_true rfl)) dX17_isAhead__37 ⟨Nat.le_of_ble_eq_true rfl, Nat.le_of_ble_eq_true rfl⟩) hS (fun q _ h => hFc q h) (fun q h => hFc q h) (fun r9 u t H1 locs ht9 hvm hw hB hz1 hk1 hS => ?_)
    refine W.widen (k := 0) (n := 0) (by omega) (by omega) ?_
    have hP := zKeep hP hk1
    generalize H1 = H at hP hS ⊢
    have hP : va_P D vwCl ([(g, .inl (cG, 8, .inr (.inr (.inr (.inr og)))))] ++ va_pl LR (zrow cI)) H := hP
    subst hw
    refine lv_istore (lv' := [(4, .int 0), (5, .int 3), (0, .ref g), (1, .int (nI i)), (2, .int (nI j)), (3, .int x3)]) hx hb dX17_isAhead__40 hl (by decide) rfl (fun ls hl => ?_)
    refine lv_iinc (v := 4) (lv' := [(5, .int 4), (4, .int 0), (0, .ref g), (1, .int (nI i)), (2, .int (nI j)), (3, .int x3)]) hx hb dX17_isAhead__42 hl (k := 1) rfl (by decide) (by decide) rfl (fun ls hl => ?_)
    refine lv_goto (tgt := 14) hx hb dX17_isAhead__45 (by decide) ?_
    refine lv_iload hx hb dX17_isAhead__14 (lv_at hl 0 rfl) ?_
    refine lv_iconst (v := 3) hx hb dX17_isAhead__16 (by decide) ?_
    refine lv_icmp_gt (tgt := 48) hx hb dX17_isAhead__17 (by decide) (fun _ => ?_) (fun c => absurd (by decide) c)
    refine lv_iload hx hb dX17_isAhead__48 (lv_at hl 1 rfl) ?_
    refine lv_if_gt (tgt := 63) hx hb dX17_isAhead__50 (by decide) (fun c => absurd c (by decide)) (fun _ => ?_)
    refine lv_iload hx hb dX17_isAhead__53 (lv_at hl 1 rfl) ?_
    refine lv_if_ne (tgt := 67) hx hb dX17_isAhead__55 (by decide) (fun c => absurd (by decide) c) (fun _ => ?_)
    refine lv_iload_n hx hb dX17_isAhead__58 rfl (lv_at hl 3 rfl) ?_
    refine lv_iload_n hx hb dX17_isAhead__59 rfl (lv_at hl 4 rfl) ?_
    refine lv_icmp_ge (tgt := 67) hx hb dX17_isAhead__60 (by decide) (fun c8 => ?_) (fun c8 => ?_)
    · refine lv_iconst (v := 0) hx hb dX17_isAhead__67 (by decide) ?_
      refine W.widen (k := 0) (n := 0) (by omega) (by omega) ?_
      exact W.zret (v := 0) hx hb hr rfl (fun t ht9 hW => ⟨⟨0, (), rfl, (if_neg (Int32.not_lt.mpr c8)).symm, trivial⟩, hS.F ht9⟩) hS.2.2 dX17_isAhead__68
    · refine lv_iconst (v := 1) hx hb dX17_isAhead__63 (by decide) ?_
      refine lv_goto (tgt := 68) hx hb dX17_isAhead__64 (by decide) ?_
      refine W.widen (k := 0) (n := 0) (by omega) (by omega) ?_
      exact W.zret (v := 1) hx hb hr rfl (fun t ht9 hW => ⟨⟨1, (), rfl, (if_pos (Int32.not_le.mp c8)).symm, trivial⟩, hS.F ht9⟩) hS.2.2 dX17_isAhead__68
  · refine lv_iconst (v := 0) hx hb dX17_isAhead__7 (by decide) ?_
    refine lv_goto (tgt := 12) hx hb dX17_isAhead__8 (by decide) ?_
    refine lv_istore (lv' := [(5, .int 0), (4, .int 0), (0, .ref g), (1, .int (nI i)), (2, .int (nI j)), (3, .int x3)]) hx hb dX17_isAhead__12 hl (by decide) rfl (fun ls hl => ?_)
    refine lv_iload hx hb dX17_isAhead__14 (lv_at hl 0 rfl) ?_
    refine lv_iconst (v := 3) hx hb dX17_isAhead__16 (by decide) ?_
    refine lv_icmp_gt (tgt := 48) hx hb dX17_isAhead__17 (by decide) (fun c => absurd c (by decide)) (fun _ => ?_)
    refine lv_iload hx hb dX17_isAhead__20 (lv_at hl 1 rfl) ?_
    refine lv_if_ne (tgt := 48) hx hb dX17_isAhead__22 (by decide) (fun c => absurd (by decide) c) (fun _ => ?_)
    refine lv_aload_n hx hb dX17_isAhead__25 rfl (lv_at hl 2 rfl) ?_
    refine lv_iload_n hx hb dX17_isAhead__26 rfl (lv_at hl 3 rfl) ?_
    obtain ⟨y9, ey9, my9⟩ := hg i hi
    obtain ⟨ky9, hy9⟩ := va_pl_get (X := [(g, .inl (cG, 8, .inr (.inr (.inr (.inr og)))))]) (f := zrow cI) my9
    refine zaldg hx hb hK hP 0 0 rfl rfl (vp_in_nI hi (by decide)) dX17_isAhead__27 ?_
    rw [show (nI i).toNatClampNeg = i from nI_clamp (by omega), ey9]
    refine lv_iload hx hb dX17_isAhead__28 (lv_at hl 0 rfl) ?_
    refine va_iald hx hb hK hP ky9 1 hy9 rfl (show vp_in 0 4 by unfold vp_in; decide) dX17_isAhead__30 ?_
    refine lv_aload_n hx hb dX17_isAhead__31 rfl (lv_at hl 2 rfl) ?_
    refine lv_iload_n hx hb dX17_isAhead__32 rfl (lv_at hl 4 rfl) ?_
    obtain ⟨y10, ey10, my10⟩ := hg j hj
    obtain ⟨ky10, hy10⟩ := va_pl_get (X := [(g, .inl (cG, 8, .inr (.inr (.inr (.inr og)))))]) (f := zrow cI) my10
    refine zaldg hx hb hK hP 0 0 rfl rfl (vp_in_nI hj (by decide)) dX17_isAhead__33 ?_
    rw [show (nI j).toNatClampNeg = j from nI_clamp (by omega), ey10]
    refine lv_iload hx hb dX17_isAhead__34 (lv_at hl 0 rfl) ?_
    refine va_iald hx hb hK hP ky10 1 hy10 rfl (show vp_in 0 4 by unfold vp_in; decide) dX17_isAhead__36 ?_
    have hPc := hP.sub (ws' := []) [] rfl
    have hDc := hD.sub (ws' := []) [] (by decide) rfl
    have hKc := hK.sub (tys' := []) [] rfl
    have hFc : ∀ q : Nat, s.heap.size ≤ q → A q := fun q h => hA q (Nat.le_trans hS.1 h)
    refine va_calli (va_runS (As := [.int 0, .int 0]) (rest := []) ⟨hx, hb, hml, hown, hts⟩ (c_compare l hst D s.heap.size) (va_cwS 2 hts (goodIn_app (goodIn_of _ (by decide +kernel)) (goodIn_sub (fun _ h => List.mem_cons_of_mem _ (List.mem_append_right _ (List.mem_append_left _ h))) zJ6_compare_7cf53_ws_good)) rfl rfl rfl (by decide +kernel) ⟨Nat.le_of_ble_eq_true rfl, Nat.le_of_ble_eq_true rfl⟩) ⟨zPre.blind, zPre.mk hPc hKc hDc hz hS (fun q h => hFc q h)⟩ rfl rfl hl.1 rfl (lv_room (Nat.le_of_ble_eq_true rfl)) dX17_isAhead__37 ⟨Nat.le_of_ble_eq_true rfl, Nat.le_of_ble_eq_true rfl⟩) hS (fun q _ h => hFc q h) (fun q h => hFc q h) (fun r9 u t H1 locs ht9 hvm hw hB hz1 hk1 hS => ?_)
    refine W.widen (k := 0) (n := 0) (by omega) (by omega) ?_
    have hP := zKeep hP hk1
    generalize H1 = H at hP hS ⊢
    have hP : va_P D vwCl ([(g, .inl (cG, 8, .inr (.inr (.inr (.inr og)))))] ++ va_pl LR (zrow cI)) H := hP
    subst hw
    refine lv_istore (lv' := [(4, .int 0), (5, .int 0), (0, .ref g), (1, .int (nI i)), (2, .int (nI j)), (3, .int x3)]) hx hb dX17_isAhead__40 hl (by decide) rfl (fun ls hl => ?_)
    refine lv_iinc (v := 1) (lv' := [(5, .int 1), (4, .int 0), (0, .ref g), (1, .int (nI i)), (2, .int (nI j)), (3, .int x3)]) hx hb dX17_isAhead__42 hl (k := 1) rfl (by decide) (by decide) rfl (fun ls hl => ?_)
    refine lv_goto (tgt := 14) hx hb dX17_isAhead__45 (by decide) ?_
    refine lv_iload hx hb dX17_isAhead__14 (lv_at hl 0 rfl) ?_
    refine lv_iconst (v := 3) hx hb dX17_isAhead__16 (by decide) ?_
    refine lv_icmp_gt (tgt := 48) hx hb dX17_isAhead__17 (by decide) (fun c => absurd c (by decide)) (fun _ => ?_)
    refine lv_iload hx hb dX17_isAhead__20 (lv_at hl 1 rfl) ?_
    refine lv_if_ne (tgt := 48) hx hb dX17_isAhead__22 (by decide) (fun c => absurd (by decide) c) (fun _ => ?_)
    refine lv_aload_n hx hb dX17_isAhead__25 rfl (lv_at hl 2 rfl) ?_
    refine lv_iload_n hx hb dX17_isAhead__26 rfl (lv_at hl 3 rfl) ?_
    obtain ⟨y11, ey11, my11⟩ := hg i hi
    obtain ⟨ky11, hy11⟩ := va_pl_get (X := [(g, .inl (cG, 8, .inr (.inr (.inr (.inr og)))))]) (f := zrow cI) my11
    refine zaldg hx hb hK hP 0 0 rfl rfl (vp_in_nI hi (by decide)) dX17_isAhead__27 ?_
    rw [show (nI i).toNatClampNeg = i from nI_clamp (by omega), ey11]
    refine lv_iload hx hb dX17_isAhead__28 (lv_at hl 0 rfl) ?_
    refine va_iald hx hb hK hP ky11 1 hy11 rfl (show vp_in 1 4 by unfold vp_in; decide) dX17_isAhead__30 ?_
    refine lv_aload_n hx hb dX17_isAhead__31 rfl (lv_at hl 2 rfl) ?_
    refine lv_iload_n hx hb dX17_isAhead__32 rfl (lv_at hl 4 rfl) ?_
    obtain ⟨y12, ey12, my12⟩ := hg j hj
    obtain ⟨ky12, hy12⟩ := va_pl_get (X := [(g, .inl (cG, 8, .inr (.inr (.inr (.inr og)))))]) (f := zrow cI) my12
    refine zaldg hx hb hK hP 0 0 rfl rfl (vp_in_nI hj (by decide)) dX17_isAhead__33 ?_
    rw [show (nI j).toNatClampNeg = j from nI_clamp (by omega), ey12]
    refine lv_iload hx hb dX17_isAhead__34 (lv_at hl 0 rfl) ?_
    refine va_iald hx hb hK hP ky12 1 hy12 rfl (show vp_in 1 4 by unfold vp_in; decide) dX17_isAhead__36 ?_
    have hPc := hP.sub (ws' := []) [] rfl
    have hDc := hD.sub (ws' := []) [] (by decide) rfl
    have hKc := hK.sub (tys' := []) [] rfl
    have hFc : ∀ q : Nat, H.size ≤ q → A q := fun q h => hA q (Nat.le_trans hS.1 h)
    refine va_calli (va_runS (As := [.int 0, .int 0]) (rest := []) ⟨hx, hb, hml, hown, hts⟩ (c_compare l hst D H.size) (va_cwS 2 hts (goodIn_app (goodIn_of _ (by decide +kernel)) (goodIn_sub (fun _ h => List.mem_cons_of_mem _ (List.mem_append_right _ (List.mem_append_left _ h))) zJ6_compare_7cf53_ws_good)) rfl rfl rfl (by decide +kernel) ⟨Nat.le_of_ble_eq_true rfl, Nat.le_of_ble_eq_true rfl⟩) ⟨zPre.blind, zPre.mk hPc hKc hDc hz hS (fun q h => hFc q h)⟩ rfl rfl hl.1 rfl (lv_room (Nat.le_of_ble_eq_true rfl)) dX17_isAhead__37 ⟨Nat.le_of_ble_eq_true rfl, Nat.le_of_ble_eq_true rfl⟩) hS (fun q _ h => hFc q h) (fun q h => hFc q h) (fun r9 u t H1 locs ht9 hvm hw hB hz1 hk1 hS => ?_)
    refine W.widen (k := 0) (n := 0) (by omega) (by omega) ?_
    have hP := zKeep hP hk1
    generalize H1 = H at hP hS ⊢
    have hP : va_P D vwCl ([(g, .inl (cG, 8, .inr (.inr (.inr (.inr og)))))] ++ va_pl LR (zrow cI)) H := hP
    subst hw
    refine lv_istore (lv' := [(4, .int 0), (5, .int 1), (0, .ref g), (1, .int (nI i)), (2, .int (nI j)), (3, .int x3)]) hx hb dX17_isAhead__40 hl (by decide) rfl (fun ls hl => ?_)
    refine lv_iinc (v := 2) (lv' := [(5, .int 2), (4, .int 0), (0, .ref g), (1, .int (nI i)), (2, .int (nI j)), (3, .int x3)]) hx hb dX17_isAhead__42 hl (k := 1) rfl (by decide) (by decide) rfl (fun ls hl => ?_)
    refine lv_goto (tgt := 14) hx hb dX17_isAhead__45 (by decide) ?_
    refine lv_iload hx hb dX17_isAhead__14 (lv_at hl 0 rfl) ?_
    refine lv_iconst (v := 3) hx hb dX17_isAhead__16 (by decide) ?_
    refine lv_icmp_gt (tgt := 48) hx hb dX17_isAhead__17 (by decide) (fun c => absurd c (by decide)) (fun _ => ?_)
    refine lv_iload hx hb dX17_isAhead__20 (lv_at hl 1 rfl) ?_
    refine lv_if_ne (tgt := 48) hx hb dX17_isAhead__22 (by decide) (fun c => absurd (by decide) c) (fun _ => ?_)
    refine lv_aload_n hx hb dX17_isAhead__25 rfl (lv_at hl 2 rfl) ?_
    refine lv_iload_n hx hb dX17_isAhead__26 rfl (lv_at hl 3 rfl) ?_
    obtain ⟨y13, ey13, my13⟩ := hg i hi
    obtain ⟨ky13, hy13⟩ := va_pl_get (X := [(g, .inl (cG, 8, .inr (.inr (.inr (.inr og)))))]) (f := zrow cI) my13
    refine zaldg hx hb hK hP 0 0 rfl rfl (vp_in_nI hi (by decide)) dX17_isAhead__27 ?_
    rw [show (nI i).toNatClampNeg = i from nI_clamp (by omega), ey13]
    refine lv_iload hx hb dX17_isAhead__28 (lv_at hl 0 rfl) ?_
    refine va_iald hx hb hK hP ky13 1 hy13 rfl (show vp_in 2 4 by unfold vp_in; decide) dX17_isAhead__30 ?_
    refine lv_aload_n hx hb dX17_isAhead__31 rfl (lv_at hl 2 rfl) ?_
    refine lv_iload_n hx hb dX17_isAhead__32 rfl (lv_at hl 4 rfl) ?_
    obtain ⟨y14, ey14, my14⟩ := hg j hj
    obtain ⟨ky14, hy14⟩ := va_pl_get (X := [(g, .inl (cG, 8, .inr (.inr (.inr (.inr og)))))]) (f := zrow cI) my14
    refine zaldg hx hb hK hP 0 0 rfl rfl (vp_in_nI hj (by decide)) dX17_isAhead__33 ?_
    rw [show (nI j).toNatClampNeg = j from nI_clamp (by omega), ey14]
    refine lv_iload hx hb dX17_isAhead__34 (lv_at hl 0 rfl) ?_
    refine va_iald hx hb hK hP ky14 1 hy14 rfl (show vp_in 2 4 by unfold vp_in; decide) dX17_isAhead__36 ?_
    have hPc := hP.sub (ws' := []) [] rfl
    have hDc := hD.sub (ws' := []) [] (by decide) rfl
    have hKc := hK.sub (tys' := []) [] rfl
    have hFc : ∀ q : Nat, H.size ≤ q → A q := fun q h => hA q (Nat.le_trans hS.1 h)
    refine va_calli (va_runS (As := [.int 0, .int 0]) (rest := []) ⟨hx, hb, hml, hown, hts⟩ (c_compare l hst D H.size) (va_cwS 2 hts (goodIn_app (goodIn_of _ (by decide +kernel)) (goodIn_sub (fun _ h => List.mem_cons_of_mem _ (List.mem_append_right _ (List.mem_append_left _ h))) zJ6_compare_7cf53_ws_good)) rfl rfl rfl (by decide +kernel) ⟨Nat.le_of_ble_eq_true rfl, Nat.le_of_ble_eq_true rfl⟩) ⟨zPre.blind, zPre.mk hPc hKc hDc hz hS (fun q h => hFc q h)⟩ rfl rfl hl.1 rfl (lv_room (Nat.le_of_ble_eq_true rfl)) dX17_isAhead__37 ⟨Nat.le_of_ble_eq_true rfl, Nat.le_of_ble_eq_true rfl⟩) hS (fun q _ h => hFc q h) (fun q h => hFc q h) (fun r9 u t H1 locs ht9 hvm hw hB hz1 hk1 hS => ?_)
    refine W.widen (k := 0) (n := 0) (by omega) (by omega) ?_
    have hP := zKeep hP hk1
    generalize H1 = H at hP hS ⊢
    have hP : va_P D vwCl ([(g, .inl (cG, 8, .inr (.inr (.inr (.inr og)))))] ++ va_pl LR (zrow cI)) H := hP
    subst hw
    refine lv_istore (lv' := [(4, .int 0), (5, .int 2), (0, .ref g), (1, .int (nI i)), (2, .int (nI j)), (3, .int x3)]) hx hb dX17_isAhead__40 hl (by decide) rfl (fun ls hl => ?_)
    refine lv_iinc (v := 3) (lv' := [(5, .int 3), (4, .int 0), (0, .ref g), (1, .int (nI i)), (2, .int (nI j)), (3, .int x3)]) hx hb dX17_isAhead__42 hl (k := 1) rfl (by decide) (by decide) rfl (fun ls hl => ?_)
    refine lv_goto (tgt := 14) hx hb dX17_isAhead__45 (by decide) ?_
    refine lv_iload hx hb dX17_isAhead__14 (lv_at hl 0 rfl) ?_
    refine lv_iconst (v := 3) hx hb dX17_isAhead__16 (by decide) ?_
    refine lv_icmp_gt (tgt := 48) hx hb dX17_isAhead__17 (by decide) (fun c => absurd c (by decide)) (fun _ => ?_)
    refine lv_iload hx hb dX17_isAhead__20 (lv_at hl 1 rfl) ?_
    refine lv_if_ne (tgt := 48) hx hb dX17_isAhead__22 (by decide) (fun c => absurd (by decide) c) (fun _ => ?_)
    refine lv_aload_n hx hb dX17_isAhead__25 rfl (lv_at hl 2 rfl) ?_
    refine lv_iload_n hx hb dX17_isAhead__26 rfl (lv_at hl 3 rfl) ?_
    obtain ⟨y15, ey15, my15⟩ := hg i hi
    obtain ⟨ky15, hy15⟩ := va_pl_get (X := [(g, .inl (cG, 8, .inr (.inr (.inr (.inr og)))))]) (f := zrow cI) my15
    refine zaldg hx hb hK hP 0 0 rfl rfl (vp_in_nI hi (by decide)) dX17_isAhead__27 ?_
    rw [show (nI i).toNatClampNeg = i from nI_clamp (by omega), ey15]
    refine lv_iload hx hb dX17_isAhead__28 (lv_at hl 0 rfl) ?_
    refine va_iald hx hb hK hP ky15 1 hy15 rfl (show vp_in 3 4 by unfold vp_in; decide) dX17_isAhead__30 ?_
    refine lv_aload_n hx hb dX17_isAhead__31 rfl (lv_at hl 2 rfl) ?_
    refine lv_iload_n hx hb dX17_isAhead__32 rfl (lv_at hl 4 rfl) ?_
    obtain ⟨y16, ey16, my16⟩ := hg j hj
    obtain ⟨ky16, hy16⟩ := va_pl_get (X := [(g, .inl (cG, 8, .inr (.inr (.inr (.inr og)))))]) (f := zrow cI) my16
    refine zaldg hx hb hK hP 0 0 rfl rfl (vp_in_nI hj (by decide)) dX17_isAhead__33 ?_
    rw [show (nI j).toNatClampNeg = j from nI_clamp (by omega), ey16]
    refine lv_iload hx hb dX17_isAhead__34 (lv_at hl 0 rfl) ?_
    refine va_iald hx hb hK hP ky16 1 hy16 rfl (show vp_in 3 4 by unfold vp_in; decide) dX17_isAhead__36 ?_
    have hPc := hP.sub (ws' := []) [] rfl
    have hDc := hD.sub (ws' := []) [] (by decide) rfl
    have hKc := hK.sub (tys' := []) [] rfl
    have hFc : ∀ q : Nat, H.size ≤ q → A q := fun q h => hA q (Nat.le_trans hS.1 h)
    refine va_calli (va_runS (As := [.int 0, .int 0]) (rest := []) ⟨hx, hb, hml, hown, hts⟩ (c_compare l hst D H.size) (va_cwS 2 hts (goodIn_app (goodIn_of _ (by decide +kernel)) (goodIn_sub (fun _ h => List.mem_cons_of_mem _ (List.mem_append_right _ (List.mem_append_left _ h))) zJ6_compare_7cf53_ws_good)) rfl rfl rfl (by decide +kernel) ⟨Nat.le_of_ble_eq_true rfl, Nat.le_of_ble_eq_true rfl⟩) ⟨zPre.blind, zPre.mk hPc hKc hDc hz hS (fun q h => hFc q h)⟩ rfl rfl hl.1 rfl (lv_room (Nat.le_of_ble_eq_true rfl)) dX17_isAhead__37 ⟨Nat.le_of_ble_eq_true rfl, Nat.le_of_ble_eq_true rfl⟩) hS (fun q _ h => hFc q h) (fun q h => hFc q h) (fun r9 u t H1 locs ht9 hvm hw hB hz1 hk1 hS => ?_)
    refine W.widen (k := 0) (n := 0) (by omega) (by omega) ?_
    have hP := zKeep hP hk1
    generalize H1 = H at hP hS ⊢
    have hP : va_P D vwCl ([(g, .inl (cG, 8, .inr (.inr (.inr (.inr og)))))] ++ va_pl LR (zrow cI)) H := hP
    subst hw
    refine lv_istore (lv' := [(4, .int 0), (5, .int 3), (0, .ref g), (1, .int (nI i)), (2, .int (nI j)), (3, .int x3)]) hx hb dX17_isAhead__40 hl (by decide) rfl (fun ls hl => ?_)
    refine lv_iinc (v := 4) (lv' := [(5, .int 4), (4, .int 0), (0, .ref g), (1, .int (nI i)), (2, .int (nI j)), (3, .int x3)]) hx hb dX17_isAhead__42 hl (k := 1) rfl (by decide) (by decide) rfl (fun ls hl => ?_)
    refine lv_goto (tgt := 14) hx hb dX17_isAhead__45 (by decide) ?_
    refine lv_iload hx hb dX17_isAhead__14 (lv_at hl 0 rfl) ?_
    refine lv_iconst (v := 3) hx hb dX17_isAhead__16 (by decide) ?_
    refine lv_icmp_gt (tgt := 48) hx hb dX17_isAhead__17 (by decide) (fun _ => ?_) (fun c => absurd (by decide) c)
    refine lv_iload hx hb dX17_isAhead__48 (lv_at hl 1 rfl) ?_
    refine lv_if_gt (tgt := 63) hx hb dX17_isAhead__50 (by decide) (fun c => absurd c (by decide)) (fun _ => ?_)
    refine lv_iload hx hb dX17_isAhead__53 (lv_at hl 1 rfl) ?_
    refine lv_if_ne (tgt := 67) hx hb dX17_isAhead__55 (by decide) (fun c => absurd (by decide) c) (fun _ => ?_)
    refine lv_iload_n hx hb dX17_isAhead__58 rfl (lv_at hl 3 rfl) ?_
    refine lv_iload_n hx hb dX17_isAhead__59 rfl (lv_at hl 4 rfl) ?_
    refine lv_icmp_ge (tgt := 67) hx hb dX17_isAhead__60 (by decide) (fun c17 => ?_) (fun c17 => ?_)
    · refine lv_iconst (v := 0) hx hb dX17_isAhead__67 (by decide) ?_
      refine W.widen (k := 0) (n := 0) (by omega) (by omega) ?_
      exact W.zret (v := 0) hx hb hr rfl (fun t ht9 hW => ⟨⟨0, (), rfl, (if_neg (Int32.not_lt.mpr c17)).symm, trivial⟩, hS.F ht9⟩) hS.2.2 dX17_isAhead__68
    · refine lv_iconst (v := 1) hx hb dX17_isAhead__63 (by decide) ?_
      refine lv_goto (tgt := 68) hx hb dX17_isAhead__64 (by decide) ?_
      refine W.widen (k := 0) (n := 0) (by omega) (by omega) ?_
      exact W.zret (v := 1) hx hb hr rfl (fun t ht9 hW => ⟨⟨1, (), rfl, (if_pos (Int32.not_le.mp c17)).symm, trivial⟩, hS.F ht9⟩) hS.2.2 dX17_isAhead__68

def zm_inTable : List Cond := .code yX17_inTable cX17_inTable 7 (some .int) :: ([.methodLink RX17 370 yX17_isAhead_, .static yX17_isAhead_, .initialized RX17, .fieldLink RX17 25 "HeatStadiumModel" "thrown" "I", .methodLink RX17 29 yX17_in, .static yX17_in, .methodLink RX17 366 yX17_medals, .instanceMethod yX17_medals, .selects RX17 yX17_medals yX17_medals] ++ (zX17_isAhead__ws ++ (wsX170 ++ (zX17_in_ws ++ (zX17_medals_ws ++ ([]))))))
theorem zm_inTable_good : zm_inTable.all goodWord = true := by decide +kernel
set_option maxHeartbeats 4000000 in
set_option maxRecDepth 100000 in
/-- the reference: inTable: how many are ahead of the nation k -/
theorem lpm_in {p : Program} {l : Launch} {e : Env} {s : State} {m : MethodId} {args : Array Value} {below : List Frame} {meth : Method} {c : Code} {A A9 : Nat → Prop} {Q : State → Prop} (hst : l.stackTraces = false) (D : va_G) (mo b0 b1 b2 b3 dz : Nat) (g : Nat) (og : Nat → Option Nat) (LR : List Nat) (cG cI : ClassId) (x1 x2 : Int32) (k : Nat) (hx : p.tables.exec = Jvm.exec) (hb : c.code = cX17_inTable) (hml : c.maxLocals = 7) (hts : ∀ w ∈ zm_inTable, w.before args s = true) (hown : s.vm.findClass RX17 = some m.cls) (hz : zX A s s.heap) (hA : ∀ q : Nat, s.heap.size ≤ q → A q) (hK : va_K D vwCl [(cG, .array .int), (cI, .int)] s) (hg : ∀ i, i < 8 → ∃ y, og i = some y ∧ y ∈ LR) (hk : k < 8) (kk : ∀ (H : Heap) (locs : List Loc), va_P D vwCl ([(mo, .inr (23, [.int 0, .ref b0, .ref b1, .ref b2, .ref b3, .int 0, .int 0, .long 0])), (b2, .inr (5, [.int 0, .ref dz, .int 0])), (g, .inl (cG, 8, .inr (.inr (.inr (.inr og)))))] ++ va_pl LR (zrow cI)) H → va_D A ([(mo, .inr (23, [.int 0, .ref b0, .ref b1, .ref b2, .ref b3, .int 0, .int 0, .long 0])), (b2, .inr (5, [.int 0, .ref dz, .int 0])), (g, .inl (cG, 8, .inr (.inr (.inr (.inr og)))))] ++ va_pl LR (zrow cI)) → va_S A s.heap H locs → ∀ ls : Array Slot, lv_has ls 7 [(0, .ref mo), (1, .int x1), (2, .int x2), (3, .ref g), (4, .int (nI k)), (5, .int (nI k))] → W p l e (zR 4 12 60) s m args below meth c H locs 12 60 Q (F0 m 89 ls [])) : ∀ (n i : Nat), i ≤ 8 → 8 < i + n → ∀ (H : Heap) (locs : List Loc), va_P D vwCl ([(mo, .inr (23, [.int 0, .ref b0, .ref b1, .ref b2, .ref b3, .int 0, .int 0, .long 0])), (b2, .inr (5, [.int 0, .ref dz, .int 0])), (g, .inl (cG, 8, .inr (.inr (.inr (.inr og)))))] ++ va_pl LR (zrow cI)) H → va_D A ([(mo, .inr (23, [.int 0, .ref b0, .ref b1, .ref b2, .ref b3, .int 0, .int 0, .long 0])), (b2, .inr (5, [.int 0, .ref dz, .int 0])), (g, .inl (cG, 8, .inr (.inr (.inr (.inr og)))))] ++ va_pl LR (zrow cI)) → va_S A s.heap H locs → ∀ ls : Array Slot, lv_has ls 7 [(0, .ref mo), (1, .int x1), (2, .int x2), (3, .ref g), (4, .int (nI k)), (5, .int (nI (min i k))), (6, .int (nI i))] → W p l e (zR 4 12 60) s m args below meth c H locs 12 60 Q (F0 m 47 ls []) := by
  intro n
  induction n with
  | zero =>
    intro i h1 h2
    exact absurd h2 (by omega)
  | succ n ih =>
    intro i hi hn H locs hP hD hS ls hl
    rcases Nat.lt_or_ge i 8 with q | q
    · refine lv_iload hx hb dX17_inTable_47 (lv_at hl 6 rfl) ?_
      refine lv_bipush (v := 8) hx hb dX17_inTable_49 (by decide) ?_
      refine lv_icmp_ge (tgt := 89) hx hb dX17_inTable_51 (by decide) (fun c9 => absurd c9 (nI_ge q (by decide))) (fun _ => ?_)
      refine lv_iload hx hb dX17_inTable_54 (lv_at hl 5 rfl) ?_
      refine lv_iload hx hb dX17_inTable_56 (lv_at hl 6 rfl) ?_
      refine lv_iload hx hb dX17_inTable_58 (lv_at hl 4 rfl) ?_
      rcases Nat.lt_trichotomy i k with q2 | q2 | q2
      · refine lv_icmp_eq (tgt := 79) hx hb dX17_inTable_60 (by decide) (fun c9 => absurd ((nI_eq (by omega) (by omega)).mp c9) (by omega)) (fun _ => ?_)
        refine lv_aload_n hx hb dX17_inTable_63 rfl (lv_at hl 3 rfl) ?_
        refine lv_iload hx hb dX17_inTable_64 (lv_at hl 6 rfl) ?_
        refine lv_iload hx hb dX17_inTable_66 (lv_at hl 4 rfl) ?_
        refine lv_iload_n hx hb dX17_inTable_68 rfl (lv_at hl 2 rfl) ?_
        have hPc := hP.part (cx := [(g, .inl (cG, 8, .inr (.inr (.inr (.inr og)))))]) [2] rfl
        have hDc := hD.part (cx := [(g, .inl (cG, 8, .inr (.inr (.inr (.inr og)))))]) [2] (by decide) rfl
        have hKc := hK.sub (tys' := [(cG, .array .int), (cI, .int)]) [0, 1] rfl
        have hFc : ∀ q : Nat, H.size ≤ q → A q := fun q h => hA q (Nat.le_trans hS.1 h)
        refine va_calli (va_runS (As := [.ref g, .int (nI i), .int (nI k), .int x2]) (rest := [.int (nI (min i k))]) ⟨hx, hb, hml, hown, hts⟩ (cm_isAhead l hst D H.size g og LR cG cI i k x2 hg q hk) (cwS 4 hts (goodIn_app (goodIn_of _ (by decide +kernel)) (goodIn_sub (fun _ h => List.mem_cons_of_mem _ (List.mem_append_right _ (List.mem_append_left _ h))) zX17_isAhead__ws_good)) rfl rfl rfl (by decide +kernel) ⟨Nat.le_of_ble_eq_true rfl, Nat.le_of_ble_eq_true rfl⟩) ⟨zPre.blind, zPre.mk hPc hKc hDc hz hS (fun q h => hFc q h)⟩ rfl rfl hl.1 rfl (lv_room (Nat.le_of_ble_eq_true rfl)) dX17_inTable_69 ⟨Nat.le_of_ble_eq_true rfl, Nat.le_of_ble_eq_true rfl⟩) hS (fun q _ h => hFc q h) (fun q h => hFc q h) (fun r9 u t H1 locs ht9 hvm hw hB hz1 hk1 hS => ?_)
        refine W.widen (k := 12) (n := 60) (by omega) (by omega) ?_
        have hP := zKeep hP hk1
        generalize H1 = H at hP hS ⊢
        have hP : va_P D vwCl ([(mo, .inr (23, [.int 0, .ref b0, .ref b1, .ref b2, .ref b3, .int 0, .int 0, .long 0])), (b2, .inr (5, [.int 0, .ref dz, .int 0])), (g, .inl (cG, 8, .inr (.inr (.inr (.inr og)))))] ++ va_pl LR (zrow cI)) H := hP
        have e9 : r9 = 1 := hw.trans (if_pos (nI_lt q2 (by omega)))
        refine lv_if_eq (tgt := 79) hx hb dX17_inTable_72 (by decide) (fun c9 => absurd (e9.symm.trans c9) (by decide)) (fun _ => ?_)
        refine lv_iconst (v := 1) hx hb dX17_inTable_75 (by decide) ?_
        refine lv_goto (tgt := 80) hx hb dX17_inTable_76 (by decide) ?_
        refine lv_iadd hx hb dX17_inTable_80 ?_
        refine lv_topi (fun z5 ez5 => ?_)
        obtain rfl : z5 = nI (min (i + 1) k) := ez5.trans ((nI_1 _).trans (congrArg nI (by omega : min i k + 1 = min (i + 1) k)))
        refine lv_istore (lv' := [(5, .int (nI (min (i + 1) k))), (0, .ref mo), (1, .int x1), (2, .int x2), (3, .ref g), (4, .int (nI k)), (6, .int (nI i))]) hx hb dX17_inTable_81 hl (by decide) rfl (fun ls hl => ?_)
        refine lv_iinc (v := nI (i + 1)) (lv' := [(6, .int (nI (i + 1))), (5, .int (nI (min (i + 1) k))), (0, .ref mo), (1, .int x1), (2, .int x2), (3, .ref g), (4, .int (nI k))]) hx hb dX17_inTable_83 hl (k := 6) rfl (show nI i + Int32.ofInt 1 = nI (i + 1) from nI_1 i) (by decide) rfl (fun ls hl => ?_)
        refine lv_goto (tgt := 47) hx hb dX17_inTable_86 (by decide) ?_
        exact ih (i + 1) (by omega) (by omega) H locs hP hD hS ls (lv_sub hl [2, 3, 4, 5, 6, 1, 0] rfl)
      · refine lv_icmp_eq (tgt := 79) hx hb dX17_inTable_60 (by decide) (fun _ => ?_) (fun c9 => absurd (congrArg nI q2) c9)
        refine lv_iconst (v := 0) hx hb dX17_inTable_79 (by decide) ?_
        refine lv_iadd hx hb dX17_inTable_80 ?_
        refine lv_topi (fun z5 ez5 => ?_)
        obtain rfl : z5 = nI (min (i + 1) k) := ez5.trans ((Int32.add_zero _).trans (congrArg nI (by omega : min i k = min (i + 1) k)))
        refine lv_istore (lv' := [(5, .int (nI (min (i + 1) k))), (0, .ref mo), (1, .int x1), (2, .int x2), (3, .ref g), (4, .int (nI k)), (6, .int (nI i))]) hx hb dX17_inTable_81 hl (by decide) rfl (fun ls hl => ?_)
        refine lv_iinc (v := nI (i + 1)) (lv' := [(6, .int (nI (i + 1))), (5, .int (nI (min (i + 1) k))), (0, .ref mo), (1, .int x1), (2, .int x2), (3, .ref g), (4, .int (nI k))]) hx hb dX17_inTable_83 hl (k := 6) rfl (show nI i + Int32.ofInt 1 = nI (i + 1) from nI_1 i) (by decide) rfl (fun ls hl => ?_)
        refine lv_goto (tgt := 47) hx hb dX17_inTable_86 (by decide) ?_
        exact ih (i + 1) (by omega) (by omega) H locs hP hD hS ls (lv_sub hl [2, 3, 4, 5, 6, 1, 0] rfl)
      · refine lv_icmp_eq (tgt := 79) hx hb dX17_inTable_60 (by decide) (fun c9 => absurd ((nI_eq (by omega) (by omega)).mp c9) (by omega)) (fun _ => ?_)
        refine lv_aload_n hx hb dX17_inTable_63 rfl (lv_at hl 3 rfl) ?_
        refine lv_iload hx hb dX17_inTable_64 (lv_at hl 6 rfl) ?_
        refine lv_iload hx hb dX17_inTable_66 (lv_at hl 4 rfl) ?_
        refine lv_iload_n hx hb dX17_inTable_68 rfl (lv_at hl 2 rfl) ?_
        have hPc := hP.part (cx := [(g, .inl (cG, 8, .inr (.inr (.inr (.inr og)))))]) [2] rfl
        have hDc := hD.part (cx := [(g, .inl (cG, 8, .inr (.inr (.inr (.inr og)))))]) [2] (by decide) rfl
        have hKc := hK.sub (tys' := [(cG, .array .int), (cI, .int)]) [0, 1] rfl
        have hFc : ∀ q : Nat, H.size ≤ q → A q := fun q h => hA q (Nat.le_trans hS.1 h)
        refine va_calli (va_runS (As := [.ref g, .int (nI i), .int (nI k), .int x2]) (rest := [.int (nI (min i k))]) ⟨hx, hb, hml, hown, hts⟩ (cm_isAhead l hst D H.size g og LR cG cI i k x2 hg q hk) (cwS 4 hts (goodIn_app (goodIn_of _ (by decide +kernel)) (goodIn_sub (fun _ h => List.mem_cons_of_mem _ (List.mem_append_right _ (List.mem_append_left _ h))) zX17_isAhead__ws_good)) rfl rfl rfl (by decide +kernel) ⟨Nat.le_of_ble_eq_true rfl, Nat.le_of_ble_eq_true rfl⟩) ⟨zPre.blind, zPre.mk hPc hKc hDc hz hS (fun q h => hFc q h)⟩ rfl rfl hl.1 rfl (lv_room (Nat.le_of_ble_eq_true rfl)) dX17_inTable_69 ⟨Nat.le_of_ble_eq_true rfl, Nat.le_of_ble_eq_true rfl⟩) hS (fun q _ h => hFc q h) (fun q h => hFc q h) (fun r9 u t H1 locs ht9 hvm hw hB hz1 hk1 hS => ?_)
        refine W.widen (k := 12) (n := 60) (by omega) (by omega) ?_
        have hP := zKeep hP hk1
        generalize H1 = H at hP hS ⊢
        have hP : va_P D vwCl ([(mo, .inr (23, [.int 0, .ref b0, .ref b1, .ref b2, .ref b3, .int 0, .int 0, .long 0])), (b2, .inr (5, [.int 0, .ref dz, .int 0])), (g, .inl (cG, 8, .inr (.inr (.inr (.inr og)))))] ++ va_pl LR (zrow cI)) H := hP
        have e9 : r9 = 0 := hw.trans (if_neg (nI_nlt (by omega) (by omega)))
        refine lv_if_eq (tgt := 79) hx hb dX17_inTable_72 (by decide) (fun _ => ?_) (fun c9 => absurd e9 c9)
        refine lv_iconst (v := 0) hx hb dX17_inTable_79 (by decide) ?_
        refine lv_iadd hx hb dX17_inTable_80 ?_
        refine lv_topi (fun z5 ez5 => ?_)
        obtain rfl : z5 = nI (min (i + 1) k) := ez5.trans ((Int32.add_zero _).trans (congrArg nI (by omega : min i k = min (i + 1) k)))
        refine lv_istore (lv' := [(5, .int (nI (min (i + 1) k))), (0, .ref mo), (1, .int x1), (2, .int x2), (3, .ref g), (4, .int (nI k)), (6, .int (nI i))]) hx hb dX17_inTable_81 hl (by decide) rfl (fun ls hl => ?_)
        refine lv_iinc (v := nI (i + 1)) (lv' := [(6, .int (nI (i + 1))), (5, .int (nI (min (i + 1) k))), (0, .ref mo), (1, .int x1), (2, .int x2), (3, .ref g), (4, .int (nI k))]) hx hb dX17_inTable_83 hl (k := 6) rfl (show nI i + Int32.ofInt 1 = nI (i + 1) from nI_1 i) (by decide) rfl (fun ls hl => ?_)
        refine lv_goto (tgt := 47) hx hb dX17_inTable_86 (by decide) ?_
        exact ih (i + 1) (by omega) (by omega) H locs hP hD hS ls (lv_sub hl [2, 3, 4, 5, 6, 1, 0] rfl)
    · obtain rfl : i = 8 := by omega
      rw [show min 8 k = k by omega] at hl
      refine lv_iload hx hb dX17_inTable_47 (lv_at hl 6 rfl) ?_
      refine lv_bipush (v := 8) hx hb dX17_inTable_49 (by decide) ?_
      refine lv_icmp_ge (tgt := 89) hx hb dX17_inTable_51 (by decide) (fun _ => ?_) (fun c9 => absurd (nI_le (Nat.le_refl _) (by decide)) c9)
      exact kk H locs hP hD hS ls (lv_sub hl [0, 1, 2, 3, 4, 5] rfl)
set_option maxHeartbeats 4000000 in
set_option maxRecDepth 100000 in
/-- the reference: inTable: the nation idx is found -/
theorem lpm_out {p : Program} {l : Launch} {e : Env} {s : State} {m : MethodId} {args : Array Value} {below : List Frame} {meth : Method} {c : Code} {A A9 : Nat → Prop} {Q : State → Prop} (hst : l.stackTraces = false) (D : va_G) (mo b0 b1 b2 b3 dz : Nat) (g : Nat) (og : Nat → Option Nat) (LR : List Nat) (cG cI : ClassId) (x2 : Int32) (idx : Nat) (hx : p.tables.exec = Jvm.exec) (hb : c.code = cX17_inTable) (hml : c.maxLocals = 7) (hts : ∀ w ∈ zm_inTable, w.before args s = true) (hown : s.vm.findClass RX17 = some m.cls) (hz : zX A s s.heap) (hA : ∀ q : Nat, s.heap.size ≤ q → A q) (hK : va_K D vwCl [(cG, .array .int), (cI, .int)] s) (hg : ∀ i, i < 8 → ∃ y, og i = some y ∧ y ∈ LR) (hidx : idx < 8) (kr : ∀ (H : Heap) (locs : List Loc), va_P D vwCl ([(mo, .inr (23, [.int 0, .ref b0, .ref b1, .ref b2, .ref b3, .int 0, .int 0, .long 0])), (b2, .inr (5, [.int 0, .ref dz, .int 0])), (g, .inl (cG, 8, .inr (.inr (.inr (.inr og)))))] ++ va_pl LR (zrow cI)) H → va_D A ([(mo, .inr (23, [.int 0, .ref b0, .ref b1, .ref b2, .ref b3, .int 0, .int 0, .long 0])), (b2, .inr (5, [.int 0, .ref dz, .int 0])), (g, .inl (cG, 8, .inr (.inr (.inr (.inr og)))))] ++ va_pl LR (zrow cI)) → va_S A s.heap H locs → ∀ ls : Array Slot, W p l e (zR 4 12 60) s m args below meth c H locs 12 60 Q (F0 m 97 ls [.int (nI idx)])) : ∀ (n i : Nat), i ≤ idx → idx < i + n → ∀ (H : Heap) (locs : List Loc), va_P D vwCl ([(mo, .inr (23, [.int 0, .ref b0, .ref b1, .ref b2, .ref b3, .int 0, .int 0, .long 0])), (b2, .inr (5, [.int 0, .ref dz, .int 0])), (g, .inl (cG, 8, .inr (.inr (.inr (.inr og)))))] ++ va_pl LR (zrow cI)) H → va_D A ([(mo, .inr (23, [.int 0, .ref b0, .ref b1, .ref b2, .ref b3, .int 0, .int 0, .long 0])), (b2, .inr (5, [.int 0, .ref dz, .int 0])), (g, .inl (cG, 8, .inr (.inr (.inr (.inr og)))))] ++ va_pl LR (zrow cI)) → va_S A s.heap H locs → ∀ ls : Array Slot, lv_has ls 7 [(4, .int (nI i)), (0, .ref mo), (1, .int (nI idx)), (2, .int x2), (3, .ref g)] → W p l e (zR 4 12 60) s m args below meth c H locs 12 60 Q (F0 m 27 ls []) := by
  intro n
  induction n with
  | zero =>
    intro i h1 h2
    exact absurd h2 (by omega)
  | succ n ih =>
    intro i hi hn H locs hP hD hS ls hl
    rcases Nat.lt_or_ge i idx with q | q
    · refine lv_iload hx hb dX17_inTable_27 (lv_at hl 0 rfl) ?_
      refine lv_bipush (v := 8) hx hb dX17_inTable_29 (by decide) ?_
      refine lv_icmp_ge (tgt := 104) hx hb dX17_inTable_31 (by decide) (fun c9 => absurd c9 (nI_ge (by omega : i < 8) (by decide))) (fun _ => ?_)
      refine lv_aload_n hx hb dX17_inTable_34 rfl (lv_at hl 1 rfl) ?_
      refine va_get (D := D) (ci := 23) (v := .int 0) (C := RX17) (T := TX17) (N := 8) hx hb hts (by decide +kernel) hown hK hP 0 rfl rfl 0 (by decide) (hts (.fieldLink RX17 25 "HeatStadiumModel" "thrown" "I") (by decide +kernel)) (fun _ h9 => h9) rfl dX17_inTable_35 ?_
      refine lv_if_ne (tgt := 104) hx hb dX17_inTable_38 (by decide) (fun c => absurd (by decide) c) (fun _ => ?_)
      refine lv_iconst (v := 0) hx hb dX17_inTable_41 (by decide) ?_
      refine lv_istore (lv' := [(5, .int 0), (4, .int (nI i)), (0, .ref mo), (1, .int (nI idx)), (2, .int x2), (3, .ref g)]) hx hb dX17_inTable_42 hl (by decide) rfl (fun ls hl => ?_)
      refine lv_iconst (v := 0) hx hb dX17_inTable_44 (by decide) ?_
      refine lv_istore (lv' := [(6, .int 0), (5, .int 0), (4, .int (nI i)), (0, .ref mo), (1, .int (nI idx)), (2, .int x2), (3, .ref g)]) hx hb dX17_inTable_45 hl (by decide) rfl (fun ls hl => ?_)
      refine lpm_in (A9 := A9) hst D mo b0 b1 b2 b3 dz g og LR cG cI (nI idx) x2 i hx hb hml hts hown hz hA hK hg (by omega) (fun H locs hP hD hS ls hl => ?_) 9 0 (by omega) (by omega) H _ hP hD hS ls (by rw [show min 0 i = 0 by omega]; exact lv_sub hl [3, 4, 5, 6, 2, 1, 0] rfl)
      refine lv_iload hx hb dX17_inTable_89 (lv_at hl 5 rfl) ?_
      refine lv_iload_n hx hb dX17_inTable_91 rfl (lv_at hl 1 rfl) ?_
      refine lv_icmp_ne (tgt := 98) hx hb dX17_inTable_92 (by decide) (fun _ => ?_) (fun c9 => absurd ((nI_eq (by omega) (by omega)).mp c9) (by omega))
      refine lv_iinc (v := nI (i + 1)) (lv' := [(4, .int (nI (i + 1))), (0, .ref mo), (1, .int (nI idx)), (2, .int x2), (3, .ref g), (5, .int (nI i))]) hx hb dX17_inTable_98 hl (k := 4) rfl (show nI i + Int32.ofInt 1 = nI (i + 1) from nI_1 i) (by decide) rfl (fun ls hl => ?_)
      refine lv_goto (tgt := 27) hx hb dX17_inTable_101 (by decide) ?_
      exact ih (i + 1) (by omega) (by omega) H locs hP hD hS ls (lv_sub hl [0, 1, 2, 3, 4] rfl)
    · obtain rfl : idx = i := by omega
      refine lv_iload hx hb dX17_inTable_27 (lv_at hl 0 rfl) ?_
      refine lv_bipush (v := 8) hx hb dX17_inTable_29 (by decide) ?_
      refine lv_icmp_ge (tgt := 104) hx hb dX17_inTable_31 (by decide) (fun c9 => absurd c9 (nI_ge (by omega : idx < 8) (by decide))) (fun _ => ?_)
      refine lv_aload_n hx hb dX17_inTable_34 rfl (lv_at hl 1 rfl) ?_
      refine va_get (D := D) (ci := 23) (v := .int 0) (C := RX17) (T := TX17) (N := 8) hx hb hts (by decide +kernel) hown hK hP 0 rfl rfl 0 (by decide) (hts (.fieldLink RX17 25 "HeatStadiumModel" "thrown" "I") (by decide +kernel)) (fun _ h9 => h9) rfl dX17_inTable_35 ?_
      refine lv_if_ne (tgt := 104) hx hb dX17_inTable_38 (by decide) (fun c => absurd (by decide) c) (fun _ => ?_)
      refine lv_iconst (v := 0) hx hb dX17_inTable_41 (by decide) ?_
      refine lv_istore (lv' := [(5, .int 0), (4, .int (nI idx)), (0, .ref mo), (1, .int (nI idx)), (2, .int x2), (3, .ref g)]) hx hb dX17_inTable_42 hl (by decide) rfl (fun ls hl => ?_)
      refine lv_iconst (v := 0) hx hb dX17_inTable_44 (by decide) ?_
      refine lv_istore (lv' := [(6, .int 0), (5, .int 0), (4, .int (nI idx)), (0, .ref mo), (1, .int (nI idx)), (2, .int x2), (3, .ref g)]) hx hb dX17_inTable_45 hl (by decide) rfl (fun ls hl => ?_)
      refine lpm_in (A9 := A9) hst D mo b0 b1 b2 b3 dz g og LR cG cI (nI idx) x2 idx hx hb hml hts hown hz hA hK hg (by omega) (fun H locs hP hD hS ls hl => ?_) 9 0 (by omega) (by omega) H _ hP hD hS ls (by rw [show min 0 idx = 0 by omega]; exact lv_sub hl [3, 4, 5, 6, 2, 1, 0] rfl)
      refine lv_iload hx hb dX17_inTable_89 (lv_at hl 5 rfl) ?_
      refine lv_iload_n hx hb dX17_inTable_91 rfl (lv_at hl 1 rfl) ?_
      refine lv_icmp_ne (tgt := 98) hx hb dX17_inTable_92 (by decide) (fun c9 => absurd rfl c9) (fun _ => ?_)
      refine lv_iload hx hb dX17_inTable_95 (lv_at hl 4 rfl) ?_
      exact kr H locs hP hD hS ls
set_option maxHeartbeats 4000000 in
set_option maxRecDepth 100000 in
/-- the reference: inTable (ok) -/
theorem cm_inTable_ok (l : Launch) (hst : l.stackTraces = false) (D : va_G) (sz : Nat) (mo b0 b1 b2 b3 dz : Nat) (th : Int32) (x1 x2 : Int32) (h : zin x1 0 7 = 1) : Met l yX17_inTable zm_inTable (zR 4 12 60) (zPreX (zM dz) [.ref mo, .int x1, .int x2] D [(mo, .inr (23, [.int th, .ref b0, .ref b1, .ref b2, .ref b3, .int 0, .int 0, .long 0])), (b2, .inr (5, [.int 0, .ref dz, .int 0]))] [] (va_A [(mo, .inr (23, [.int th, .ref b0, .ref b1, .ref b2, .ref b3, .int 0, .int 0, .long 0])), (b2, .inr (5, [.int 0, .ref dz, .int 0]))] sz) sz) (va_Qi (S := Unit) (fun r _ => r = x1) (fun _ t => zAt D [(mo, .inr (23, [.int 0, .ref b0, .ref b1, .ref b2, .ref b3, .int 0, .int 0, .long 0]))] [] (va_A [(mo, .inr (23, [.int th, .ref b0, .ref b1, .ref b2, .ref b3, .int 0, .int 0, .long 0])), (b2, .inr (5, [.int 0, .ref dz, .int 0]))] sz) t) (va_A [(mo, .inr (23, [.int th, .ref b0, .ref b1, .ref b2, .ref b3, .int 0, .int 0, .long 0])), (b2, .inr (5, [.int 0, .ref dz, .int 0]))] sz)) 12 60 (va_A [(mo, .inr (23, [.int th, .ref b0, .ref b1, .ref b2, .ref b3, .int 0, .int 0, .long 0])), (b2, .inr (5, [.int 0, .ref dz, .int 0]))] sz) := by
  obtain ⟨idx, hidx, rfl⟩ := zin_7 h
  refine Met.ofW (cc := cX17_inTable) (maxL := 7) (ret := (some .int)) (by decide) rfl ?_
  intro p e s m args below meth c s₁ B hml hv
  obtain ⟨rfl, hsz, hP, hK, hD0, hz, hm⟩ := hv
  have hx := B.exec
  have hb := B.bytes
  have hr := B.returns
  have hts := atoms_spec (ws := zm_inTable) B.pre
  have hown : s.vm.findClass RX17 = some m.cls := findClass_of_methodNamed B.named
  have hlocks := B.notSynchronized
  subst hsz
  have hD := hD0.self (sz := s.heap.size)
  generalize hAe : va_A [(mo, .inr (23, [.int th, .ref b0, .ref b1, .ref b2, .ref b3, .int 0, .int 0, .long 0])), (b2, .inr (5, [.int 0, .ref dz, .int 0]))] s.heap.size = A at hD hz hm ⊢
  have hA : ∀ q : Nat, s.heap.size ≤ q → A q := fun q h => by rw [← hAe]; exact Or.inr h
  have hS : va_S A s.heap s.heap [] := va_S.rf
  have hP : va_P D vwCl [(mo, .inr (23, [.int th, .ref b0, .ref b1, .ref b2, .ref b3, .int 0, .int 0, .long 0])), (b2, .inr (5, [.int 0, .ref dz, .int 0]))] s.heap := hP
  have hl := lv_entry ([.ref mo, .int (nI idx), .int x2]) (n := 7) (Nat.le_of_ble_eq_true rfl)
  rw [lg_entry_eq]
  generalize (lg_sl ([.ref mo, .int (nI idx), .int x2]) ++ List.replicate (7 - (lg_sl ([.ref mo, .int (nI idx), .int x2])).length) Slot.unset).toArray = ls at hl ⊢
  have hl : lv_has ls 7 [(0, .ref mo), (1, .int (nI idx)), (2, .int x2)] := hl
  refine lv_aload_n hx hb dX17_inTable_0 rfl (lv_at hl 0 rfl) ?_
  refine lv_iload_n hx hb dX17_inTable_1 rfl (lv_at hl 1 rfl) ?_
  refine lv_iconst (v := 0) hx hb dX17_inTable_2 (by decide) ?_
  refine lv_bipush (v := 7) hx hb dX17_inTable_3 (by decide) ?_
  have hPc := hP.sub (ws' := []) [] rfl
  have hDc := hD.sub (ws' := []) [] (by decide) rfl
  have hKc := hK.sub (tys' := []) [] rfl
  have hFc : ∀ q : Nat, s.heap.size ≤ q → A q := fun q h => hA q (Nat.le_trans hS.1 h)
  refine va_calli (va_runS (As := [.int (nI idx), .int 0, .int 7]) (rest := [.ref mo]) ⟨hx, hb, hml, hown, hts⟩ (c_in l hst D s.heap.size (nI idx) 0 7) (cwS 3 hts (goodIn_app (goodIn_of _ (by decide +kernel)) (goodIn_sub (fun _ h => List.mem_cons_of_mem _ (List.mem_append_right _ (List.mem_append_right _ (List.mem_append_right _ (List.mem_append_left _ h))))) zX17_in_ws_good)) rfl rfl rfl (by decide +kernel) ⟨Nat.le_of_ble_eq_true rfl, Nat.le_of_ble_eq_true rfl⟩) ⟨zPre.blind, zPre.mk hPc hKc hDc hz hS (fun q h => hFc q h)⟩ rfl rfl hl.1 rfl (lv_room (Nat.le_of_ble_eq_true rfl)) dX17_inTable_5 ⟨Nat.le_of_ble_eq_true rfl, Nat.le_of_ble_eq_true rfl⟩) hS (fun q _ h => hFc q h) (fun q h => hFc q h) (fun r9 u t H1 locs ht9 hvm hw hB hz1 hk1 hS => ?_)
  refine W.widen (k := 0) (n := 0) (by omega) (by omega) ?_
  have hP := zKeep hP hk1
  generalize H1 = H at hP hS ⊢
  have hP : va_P D vwCl [(mo, .inr (23, [.int th, .ref b0, .ref b1, .ref b2, .ref b3, .int 0, .int 0, .long 0])), (b2, .inr (5, [.int 0, .ref dz, .int 0]))] H := hP
  obtain rfl : r9 = 1 := hw.trans h
  refine lv_if_eq (tgt := 15) hx hb dX17_inTable_8 (by decide) (fun c => absurd c (by decide)) (fun _ => ?_)
  refine lv_iconst (v := 0) hx hb dX17_inTable_11 (by decide) ?_
  refine lv_goto (tgt := 16) hx hb dX17_inTable_12 (by decide) ?_
  refine va_put (D := D) (ci := 23) (v := .int 0) (ty := .int) (C := RX17) (T := TX17) (N := 8) hx hb hts (by decide +kernel) tyX17 tyX17_ok nmX17 hown hK hP hD hS 0 rfl rfl 0 (by decide) (hts (.fieldLink RX17 25 "HeatStadiumModel" "thrown" "I") (by decide +kernel)) (fun _ h9 => h9) rfl (by decide +kernel) rfl rfl (Nat.le_of_ble_eq_true rfl) dX17_inTable_16 (fun H locs hP hD hS => ?_)
  have hP : va_P D vwCl [(mo, .inr (23, [.int 0, .ref b0, .ref b1, .ref b2, .ref b3, .int 0, .int 0, .long 0])), (b2, .inr (5, [.int 0, .ref dz, .int 0]))] H := hP
  have hD : va_D A [(mo, .inr (23, [.int 0, .ref b0, .ref b1, .ref b2, .ref b3, .int 0, .int 0, .long 0])), (b2, .inr (5, [.int 0, .ref dz, .int 0]))] := hD
  refine lv_aload_n hx hb dX17_inTable_19 rfl (lv_at hl 0 rfl) ?_
  have hPc := hP.sub (ws' := [(mo, .inr (23, [.int 0, .ref b0, .ref b1, .ref b2, .ref b3, .int 0, .int 0, .long 0])), (b2, .inr (5, [.int 0, .ref dz, .int 0]))]) [0, 1] rfl
  have hDc := hD.sub (ws' := [(mo, .inr (23, [.int 0, .ref b0, .ref b1, .ref b2, .ref b3, .int 0, .int 0, .long 0])), (b2, .inr (5, [.int 0, .ref dz, .int 0]))]) [0, 1] (by decide) rfl
  have hKc := hK.sub (tys' := []) [] rfl
  have hFc := va_free (wc := [(mo, .inr (23, [.int 0, .ref b0, .ref b1, .ref b2, .ref b3, .int 0, .int 0, .long 0])), (b2, .inr (5, [.int 0, .ref dz, .int 0]))]) hD hS hA [0, 1] rfl
  refine va_callq (va_runV (As := []) (rest := []) ⟨hx, hb, hml, hown, hts⟩ (cm_grid l hst D H.size mo b0 b1 b2 b3 dz 0) (cwV 0 hts (goodIn_app (goodIn_of _ (by decide +kernel)) (goodIn_sub (fun _ h => List.mem_cons_of_mem _ (List.mem_append_right _ (List.mem_append_right _ (List.mem_append_right _ (List.mem_append_right _ (List.mem_append_left _ h)))))) zX17_medals_ws_good)) rfl rfl rfl (by decide +kernel) ⟨Nat.le_of_ble_eq_true rfl, Nat.le_of_ble_eq_true rfl⟩) ⟨zPreX.blind (zM_ok dz), va_recv hKc hPc (ci := 23) (q0 := 0) rfl rfl, zPreX.mk (zM_ok dz) (hm) hPc hKc hDc hz hS (fun q h => hFc q h)⟩ rfl rfl hl.1 rfl (lv_room (Nat.le_of_ble_eq_true rfl)) dX17_inTable_20 ⟨Nat.le_of_ble_eq_true rfl, Nat.le_of_ble_eq_true rfl⟩) hS (fun q _ h => hFc q h) (fun q h => hFc q h) (fun r9 u t H1 locs ht9 hvm hw hB hz1 hk1 hS => ?_)
  refine W.widen (k := 12) (n := 60) (by omega) (by omega) ?_
  obtain ⟨g, og, LR, cG, cI⟩ := u
  obtain ⟨hg, hP1, hK1, hD1⟩ := hB
  rw [ht9] at hP1
  have hK1 := va_K.moved hvm.symm hK1
  have hg : ∀ i, i < 8 → ∃ y, og i = some y ∧ y ∈ LR := hg
  obtain ⟨hP, hD⟩ := va_join (wr := []) (w1 := [(mo, .inr (23, [.int 0, .ref b0, .ref b1, .ref b2, .ref b3, .int 0, .int 0, .long 0])), (b2, .inr (5, [.int 0, .ref dz, .int 0])), (g, .inl (cG, 8, .inr (.inr (.inr (.inr og)))))] ++ va_pl LR (zrow cI)) hP hD [0, 1] [] rfl rfl (by decide) (by decide) hk1 hFc hP1 hD1
  have hK := (hK.sub (tys' := []) [] rfl).app hK1
  generalize H1 = H at hP hS ⊢
  have hP : va_P D vwCl ([(mo, .inr (23, [.int 0, .ref b0, .ref b1, .ref b2, .ref b3, .int 0, .int 0, .long 0])), (b2, .inr (5, [.int 0, .ref dz, .int 0])), (g, .inl (cG, 8, .inr (.inr (.inr (.inr og)))))] ++ va_pl LR (zrow cI)) H := hP
  have hD : va_D A ([(mo, .inr (23, [.int 0, .ref b0, .ref b1, .ref b2, .ref b3, .int 0, .int 0, .long 0])), (b2, .inr (5, [.int 0, .ref dz, .int 0])), (g, .inl (cG, 8, .inr (.inr (.inr (.inr og)))))] ++ va_pl LR (zrow cI)) := hD
  have hK : va_K D vwCl [(cG, .array .int), (cI, .int)] s := hK
  subst hw
  refine lv_astore_n (lv' := [(3, .ref g), (0, .ref mo), (1, .int (nI idx)), (2, .int x2)]) hx hb dX17_inTable_23 rfl hl (by decide) rfl (fun ls hl => ?_)
  refine lv_iconst (v := 0) hx hb dX17_inTable_24 (by decide) ?_
  refine lv_istore (lv' := [(4, .int 0), (3, .ref g), (0, .ref mo), (1, .int (nI idx)), (2, .int x2)]) hx hb dX17_inTable_25 hl (by decide) rfl (fun ls hl => ?_)
  refine lpm_out (A9 := A) hst D mo b0 b1 b2 b3 dz g og LR cG cI x2 idx hx hb hml hts hown hz hA hK hg hidx (fun H locs hP hD hS ls => ?_) 9 0 (by omega) (by omega) H _ hP hD hS ls (lv_sub hl [0, 2, 3, 4, 1] rfl)
  have hP9 := hP.sub (ws' := [(mo, .inr (23, [.int 0, .ref b0, .ref b1, .ref b2, .ref b3, .int 0, .int 0, .long 0]))]) [0] rfl
  have hD9 := hD.sub (ws' := [(mo, .inr (23, [.int 0, .ref b0, .ref b1, .ref b2, .ref b3, .int 0, .int 0, .long 0]))]) [0] (by decide) rfl
  have hK9 := hK.sub (tys' := []) [] rfl
  rw [← hAe] at hD9
  refine W.widen (k := 12) (n := 60) (by omega) (by omega) ?_
  subst hAe
  exact W.iret (v := (nI idx)) hx hb hr (fun t ht9 hW => ⟨⟨(nI idx), (), rfl, rfl, ⟨by rw [ht9]; exact hP9, va_K.moved hW.alike hK9, hD9⟩⟩, hS.F ht9⟩) hS.2.2 dX17_inTable_97
set_option maxHeartbeats 4000000 in
set_option maxRecDepth 100000 in
/-- the reference: inTable (no) -/
theorem cm_inTable_no (l : Launch) (hst : l.stackTraces = false) (D : va_G) (sz : Nat) (mo b0 b1 b2 b3 dz : Nat) (th : Int32) (x1 x2 : Int32) (h : zin x1 0 7 = 0) : Met l yX17_inTable zm_inTable (zR 4 12 60) (zPreX (zM dz) [.ref mo, .int x1, .int x2] D [(mo, .inr (23, [.int th, .ref b0, .ref b1, .ref b2, .ref b3, .int 0, .int 0, .long 0])), (b2, .inr (5, [.int 0, .ref dz, .int 0]))] [] (va_A [(mo, .inr (23, [.int th, .ref b0, .ref b1, .ref b2, .ref b3, .int 0, .int 0, .long 0])), (b2, .inr (5, [.int 0, .ref dz, .int 0]))] sz) sz) (va_Qi (S := Unit) (fun r _ => r = 0) (fun _ t => zAt D [(mo, .inr (23, [.int 1, .ref b0, .ref b1, .ref b2, .ref b3, .int 0, .int 0, .long 0]))] [] (va_A [(mo, .inr (23, [.int th, .ref b0, .ref b1, .ref b2, .ref b3, .int 0, .int 0, .long 0])), (b2, .inr (5, [.int 0, .ref dz, .int 0]))] sz) t) (va_A [(mo, .inr (23, [.int th, .ref b0, .ref b1, .ref b2, .ref b3, .int 0, .int 0, .long 0])), (b2, .inr (5, [.int 0, .ref dz, .int 0]))] sz)) 12 60 (va_A [(mo, .inr (23, [.int th, .ref b0, .ref b1, .ref b2, .ref b3, .int 0, .int 0, .long 0])), (b2, .inr (5, [.int 0, .ref dz, .int 0]))] sz) := by
  refine Met.ofW (cc := cX17_inTable) (maxL := 7) (ret := (some .int)) (by decide) rfl ?_
  intro p e s m args below meth c s₁ B hml hv
  obtain ⟨rfl, hsz, hP, hK, hD0, hz, hm⟩ := hv
  have hx := B.exec
  have hb := B.bytes
  have hr := B.returns
  have hts := atoms_spec (ws := zm_inTable) B.pre
  have hown : s.vm.findClass RX17 = some m.cls := findClass_of_methodNamed B.named
  have hlocks := B.notSynchronized
  subst hsz
  have hD := hD0.self (sz := s.heap.size)
  generalize hAe : va_A [(mo, .inr (23, [.int th, .ref b0, .ref b1, .ref b2, .ref b3, .int 0, .int 0, .long 0])), (b2, .inr (5, [.int 0, .ref dz, .int 0]))] s.heap.size = A at hD hz hm ⊢
  have hA : ∀ q : Nat, s.heap.size ≤ q → A q := fun q h => by rw [← hAe]; exact Or.inr h
  have hS : va_S A s.heap s.heap [] := va_S.rf
  have hP : va_P D vwCl [(mo, .inr (23, [.int th, .ref b0, .ref b1, .ref b2, .ref b3, .int 0, .int 0, .long 0])), (b2, .inr (5, [.int 0, .ref dz, .int 0]))] s.heap := hP
  have hl := lv_entry ([.ref mo, .int x1, .int x2]) (n := 7) (Nat.le_of_ble_eq_true rfl)
  rw [lg_entry_eq]
  generalize (lg_sl ([.ref mo, .int x1, .int x2]) ++ List.replicate (7 - (lg_sl ([.ref mo, .int x1, .int x2])).length) Slot.unset).toArray = ls at hl ⊢
  have hl : lv_has ls 7 [(0, .ref mo), (1, .int x1), (2, .int x2)] := hl
  refine lv_aload_n hx hb dX17_inTable_0 rfl (lv_at hl 0 rfl) ?_
  refine lv_iload_n hx hb dX17_inTable_1 rfl (lv_at hl 1 rfl) ?_
  refine lv_iconst (v := 0) hx hb dX17_inTable_2 (by decide) ?_
  refine lv_bipush (v := 7) hx hb dX17_inTable_3 (by decide) ?_
  have hPc := hP.sub (ws' := []) [] rfl
  have hDc := hD.sub (ws' := []) [] (by decide) rfl
  have hKc := hK.sub (tys' := []) [] rfl
  have hFc : ∀ q : Nat, s.heap.size ≤ q → A q := fun q h => hA q (Nat.le_trans hS.1 h)
  refine va_calli (va_runS (As := [.int x1, .int 0, .int 7]) (rest := [.ref mo]) ⟨hx, hb, hml, hown, hts⟩ (c_in l hst D s.heap.size x1 0 7) (cwS 3 hts (goodIn_app (goodIn_of _ (by decide +kernel)) (goodIn_sub (fun _ h => List.mem_cons_of_mem _ (List.mem_append_right _ (List.mem_append_right _ (List.mem_append_right _ (List.mem_append_left _ h))))) zX17_in_ws_good)) rfl rfl rfl (by decide +kernel) ⟨Nat.le_of_ble_eq_true rfl, Nat.le_of_ble_eq_true rfl⟩) ⟨zPre.blind, zPre.mk hPc hKc hDc hz hS (fun q h => hFc q h)⟩ rfl rfl hl.1 rfl (lv_room (Nat.le_of_ble_eq_true rfl)) dX17_inTable_5 ⟨Nat.le_of_ble_eq_true rfl, Nat.le_of_ble_eq_true rfl⟩) hS (fun q _ h => hFc q h) (fun q h => hFc q h) (fun r9 u t H1 locs ht9 hvm hw hB hz1 hk1 hS => ?_)
  refine W.widen (k := 0) (n := 0) (by omega) (by omega) ?_
  have hP := zKeep hP hk1
  generalize H1 = H at hP hS ⊢
  have hP : va_P D vwCl [(mo, .inr (23, [.int th, .ref b0, .ref b1, .ref b2, .ref b3, .int 0, .int 0, .long 0])), (b2, .inr (5, [.int 0, .ref dz, .int 0]))] H := hP
  obtain rfl : r9 = 0 := hw.trans h
  refine lv_if_eq (tgt := 15) hx hb dX17_inTable_8 (by decide) (fun _ => ?_) (fun c => absurd (by decide) c)
  refine lv_iconst (v := 1) hx hb dX17_inTable_15 (by decide) ?_
  refine va_put (D := D) (ci := 23) (v := .int 1) (ty := .int) (C := RX17) (T := TX17) (N := 8) hx hb hts (by decide +kernel) tyX17 tyX17_ok nmX17 hown hK hP hD hS 0 rfl rfl 0 (by decide) (hts (.fieldLink RX17 25 "HeatStadiumModel" "thrown" "I") (by decide +kernel)) (fun _ h9 => h9) rfl (by decide +kernel) rfl rfl (Nat.le_of_ble_eq_true rfl) dX17_inTable_16 (fun H locs hP hD hS => ?_)
  have hP : va_P D vwCl [(mo, .inr (23, [.int 1, .ref b0, .ref b1, .ref b2, .ref b3, .int 0, .int 0, .long 0])), (b2, .inr (5, [.int 0, .ref dz, .int 0]))] H := hP
  have hD : va_D A [(mo, .inr (23, [.int 1, .ref b0, .ref b1, .ref b2, .ref b3, .int 0, .int 0, .long 0])), (b2, .inr (5, [.int 0, .ref dz, .int 0]))] := hD
  refine lv_aload_n hx hb dX17_inTable_19 rfl (lv_at hl 0 rfl) ?_
  have hPc := hP.sub (ws' := [(mo, .inr (23, [.int 1, .ref b0, .ref b1, .ref b2, .ref b3, .int 0, .int 0, .long 0])), (b2, .inr (5, [.int 0, .ref dz, .int 0]))]) [0, 1] rfl
  have hDc := hD.sub (ws' := [(mo, .inr (23, [.int 1, .ref b0, .ref b1, .ref b2, .ref b3, .int 0, .int 0, .long 0])), (b2, .inr (5, [.int 0, .ref dz, .int 0]))]) [0, 1] (by decide) rfl
  have hKc := hK.sub (tys' := []) [] rfl
  have hFc := va_free (wc := [(mo, .inr (23, [.int 1, .ref b0, .ref b1, .ref b2, .ref b3, .int 0, .int 0, .long 0])), (b2, .inr (5, [.int 0, .ref dz, .int 0]))]) hD hS hA [0, 1] rfl
  refine va_callq (va_runV (As := []) (rest := []) ⟨hx, hb, hml, hown, hts⟩ (cm_grid l hst D H.size mo b0 b1 b2 b3 dz 1) (cwV 0 hts (goodIn_app (goodIn_of _ (by decide +kernel)) (goodIn_sub (fun _ h => List.mem_cons_of_mem _ (List.mem_append_right _ (List.mem_append_right _ (List.mem_append_right _ (List.mem_append_right _ (List.mem_append_left _ h)))))) zX17_medals_ws_good)) rfl rfl rfl (by decide +kernel) ⟨Nat.le_of_ble_eq_true rfl, Nat.le_of_ble_eq_true rfl⟩) ⟨zPreX.blind (zM_ok dz), va_recv hKc hPc (ci := 23) (q0 := 0) rfl rfl, zPreX.mk (zM_ok dz) (hm) hPc hKc hDc hz hS (fun q h => hFc q h)⟩ rfl rfl hl.1 rfl (lv_room (Nat.le_of_ble_eq_true rfl)) dX17_inTable_20 ⟨Nat.le_of_ble_eq_true rfl, Nat.le_of_ble_eq_true rfl⟩) hS (fun q _ h => hFc q h) (fun q h => hFc q h) (fun r9 u t H1 locs ht9 hvm hw hB hz1 hk1 hS => ?_)
  refine W.widen (k := 12) (n := 60) (by omega) (by omega) ?_
  obtain ⟨g, og, LR, cG, cI⟩ := u
  obtain ⟨hg, hP1, hK1, hD1⟩ := hB
  rw [ht9] at hP1
  have hK1 := va_K.moved hvm.symm hK1
  have hg : ∀ i, i < 8 → ∃ y, og i = some y ∧ y ∈ LR := hg
  obtain ⟨hP, hD⟩ := va_join (wr := []) (w1 := [(mo, .inr (23, [.int 1, .ref b0, .ref b1, .ref b2, .ref b3, .int 0, .int 0, .long 0])), (b2, .inr (5, [.int 0, .ref dz, .int 0])), (g, .inl (cG, 8, .inr (.inr (.inr (.inr og)))))] ++ va_pl LR (zrow cI)) hP hD [0, 1] [] rfl rfl (by decide) (by decide) hk1 hFc hP1 hD1
  have hK := (hK.sub (tys' := []) [] rfl).app hK1
  generalize H1 = H at hP hS ⊢
  have hP : va_P D vwCl ([(mo, .inr (23, [.int 1, .ref b0, .ref b1, .ref b2, .ref b3, .int 0, .int 0, .long 0])), (b2, .inr (5, [.int 0, .ref dz, .int 0])), (g, .inl (cG, 8, .inr (.inr (.inr (.inr og)))))] ++ va_pl LR (zrow cI)) H := hP
  have hD : va_D A ([(mo, .inr (23, [.int 1, .ref b0, .ref b1, .ref b2, .ref b3, .int 0, .int 0, .long 0])), (b2, .inr (5, [.int 0, .ref dz, .int 0])), (g, .inl (cG, 8, .inr (.inr (.inr (.inr og)))))] ++ va_pl LR (zrow cI)) := hD
  have hK : va_K D vwCl [(cG, .array .int), (cI, .int)] s := hK
  subst hw
  refine lv_astore_n (lv' := [(3, .ref g), (0, .ref mo), (1, .int x1), (2, .int x2)]) hx hb dX17_inTable_23 rfl hl (by decide) rfl (fun ls hl => ?_)
  refine lv_iconst (v := 0) hx hb dX17_inTable_24 (by decide) ?_
  refine lv_istore (lv' := [(4, .int 0), (3, .ref g), (0, .ref mo), (1, .int x1), (2, .int x2)]) hx hb dX17_inTable_25 hl (by decide) rfl (fun ls hl => ?_)
  refine lv_iload hx hb dX17_inTable_27 (lv_at hl 0 rfl) ?_
  refine lv_bipush (v := 8) hx hb dX17_inTable_29 (by decide) ?_
  refine lv_icmp_ge (tgt := 104) hx hb dX17_inTable_31 (by decide) (fun c => absurd c (by decide)) (fun _ => ?_)
  refine lv_aload_n hx hb dX17_inTable_34 rfl (lv_at hl 2 rfl) ?_
  refine va_get (D := D) (ci := 23) (v := .int 1) (C := RX17) (T := TX17) (N := 8) hx hb hts (by decide +kernel) hown hK hP 0 rfl rfl 0 (by decide) (hts (.fieldLink RX17 25 "HeatStadiumModel" "thrown" "I") (by decide +kernel)) (fun _ h9 => h9) rfl dX17_inTable_35 ?_
  refine lv_if_ne (tgt := 104) hx hb dX17_inTable_38 (by decide) (fun _ => ?_) (fun c => absurd c (by decide))
  refine lv_iconst (v := 0) hx hb dX17_inTable_104 (by decide) ?_
  have hP9 := hP.sub (ws' := [(mo, .inr (23, [.int 1, .ref b0, .ref b1, .ref b2, .ref b3, .int 0, .int 0, .long 0]))]) [0] rfl
  have hD9 := hD.sub (ws' := [(mo, .inr (23, [.int 1, .ref b0, .ref b1, .ref b2, .ref b3, .int 0, .int 0, .long 0]))]) [0] (by decide) rfl
  have hK9 := hK.sub (tys' := []) [] rfl
  rw [← hAe] at hD9
  refine W.widen (k := 12) (n := 60) (by omega) (by omega) ?_
  subst hAe
  exact W.iret (v := 0) hx hb hr (fun t ht9 hW => ⟨⟨0, (), rfl, rfl, ⟨by rw [ht9]; exact hP9, va_K.moved hW.alike hK9, hD9⟩⟩, hS.F ht9⟩) hS.2.2 dX17_inTable_105

def zX17_raises_ws : List Cond := .code yX17_raises cX17_raises 2 (some .int) :: ([.fieldLink RX17 25 "HeatStadiumModel" "thrown" "I"] ++ (wsX170 ++ ([])))
theorem zX17_raises_ws_good : zX17_raises_ws.all goodWord = true := by decide +kernel
set_option maxHeartbeats 4000000 in
set_option maxRecDepth 100000 in
/-- raises(1) -/
theorem cm_raises (l : Launch) (hst : l.stackTraces = false) (D : va_G) (sz : Nat) (mo b0 b1 b2 b3 dz : Nat) (th : Int32) : Met l yX17_raises zX17_raises_ws (zR 0 0 0) (zPre [.ref mo, .int 1] D [(mo, .inr (23, [.int th, .ref b0, .ref b1, .ref b2, .ref b3, .int 0, .int 0, .long 0]))] [] (va_A [(mo, .inr (23, [.int th, .ref b0, .ref b1, .ref b2, .ref b3, .int 0, .int 0, .long 0]))] sz) sz) (va_Qi (S := Unit) (fun r _ => r = 0) (fun _ t => zAt D [(mo, .inr (23, [.int 1, .ref b0, .ref b1, .ref b2, .ref b3, .int 0, .int 0, .long 0]))] [] (va_A [(mo, .inr (23, [.int th, .ref b0, .ref b1, .ref b2, .ref b3, .int 0, .int 0, .long 0]))] sz) t) (va_A [(mo, .inr (23, [.int th, .ref b0, .ref b1, .ref b2, .ref b3, .int 0, .int 0, .long 0]))] sz)) 0 0 (va_A [(mo, .inr (23, [.int th, .ref b0, .ref b1, .ref b2, .ref b3, .int 0, .int 0, .long 0]))] sz) := by
  refine Met.ofW (cc := cX17_raises) (maxL := 2) (ret := (some .int)) (by decide) rfl ?_
  intro p e s m args below meth c s₁ B hml hv
  obtain ⟨rfl, hsz, hP, hK, hD0, hz⟩ := hv
  have hx := B.exec
  have hb := B.bytes
  have hr := B.returns
  have hts := atoms_spec (ws := zX17_raises_ws) B.pre
  have hown : s.vm.findClass RX17 = some m.cls := findClass_of_methodNamed B.named
  have hlocks := B.notSynchronized
  subst hsz
  have hD := hD0.self (sz := s.heap.size)
  generalize hAe : va_A [(mo, .inr (23, [.int th, .ref b0, .ref b1, .ref b2, .ref b3, .int 0, .int 0, .long 0]))] s.heap.size = A at hD hz ⊢
  have hA : ∀ q : Nat, s.heap.size ≤ q → A q := fun q h => by rw [← hAe]; exact Or.inr h
  have hS : va_S A s.heap s.heap [] := va_S.rf
  have hP : va_P D vwCl [(mo, .inr (23, [.int th, .ref b0, .ref b1, .ref b2, .ref b3, .int 0, .int 0, .long 0]))] s.heap := hP
  have hl := lv_entry ([.ref mo, .int 1]) (n := 2) (Nat.le_of_ble_eq_true rfl)
  rw [lg_entry_eq]
  generalize (lg_sl ([.ref mo, .int 1]) ++ List.replicate (2 - (lg_sl ([.ref mo, .int 1])).length) Slot.unset).toArray = ls at hl ⊢
  have hl : lv_has ls 2 [(0, .ref mo), (1, .int 1)] := hl
  refine lv_aload_n hx hb dX17_raises_0 rfl (lv_at hl 0 rfl) ?_
  refine lv_iload_n hx hb dX17_raises_1 rfl (lv_at hl 1 rfl) ?_
  refine va_put (D := D) (ci := 23) (v := .int 1) (ty := .int) (C := RX17) (T := TX17) (N := 8) hx hb hts (by decide +kernel) tyX17 tyX17_ok nmX17 hown hK hP hD hS 0 rfl rfl 0 (by decide) (hts (.fieldLink RX17 25 "HeatStadiumModel" "thrown" "I") (by decide +kernel)) (fun _ h9 => h9) rfl (by decide +kernel) rfl rfl (Nat.le_of_ble_eq_true rfl) dX17_raises_2 (fun H locs hP hD hS => ?_)
  have hP : va_P D vwCl [(mo, .inr (23, [.int 1, .ref b0, .ref b1, .ref b2, .ref b3, .int 0, .int 0, .long 0]))] H := hP
  have hD : va_D A [(mo, .inr (23, [.int 1, .ref b0, .ref b1, .ref b2, .ref b3, .int 0, .int 0, .long 0]))] := hD
  refine lv_iconst (v := 0) hx hb dX17_raises_5 (by decide) ?_
  have hP9 := hP.sub (ws' := [(mo, .inr (23, [.int 1, .ref b0, .ref b1, .ref b2, .ref b3, .int 0, .int 0, .long 0]))]) [0] rfl
  have hD9 := hD.sub (ws' := [(mo, .inr (23, [.int 1, .ref b0, .ref b1, .ref b2, .ref b3, .int 0, .int 0, .long 0]))]) [0] (by decide) rfl
  have hK9 := hK.sub (tys' := []) [] rfl
  rw [← hAe] at hD9
  refine W.widen (k := 0) (n := 0) (by omega) (by omega) ?_
  subst hAe
  exact W.iret (v := 0) hx hb hr (fun t ht9 hW => ⟨⟨0, (), rfl, rfl, ⟨by rw [ht9]; exact hP9, va_K.moved hW.alike hK9, hD9⟩⟩, hS.F ht9⟩) hS.2.2 dX17_raises_6

def zm_sb_no : List Cond := .code yX17_shareBits cX17_shareBits 8 (some .int) :: ([.methodLink RX17 29 yX17_in, .static yX17_in, .initialized RX17, .methodLink RX17 316 yX17_raises, .instanceMethod yX17_raises, .selects RX17 yX17_raises yX17_raises] ++ (zX17_in_ws ++ (zX17_raises_ws ++ ([]))))
theorem zm_sb_no_good : zm_sb_no.all goodWord = true := by decide +kernel
set_option maxHeartbeats 4000000 in
set_option maxRecDepth 100000 in
/-- the reference: shareBits of no nation -/
theorem cm_shareBits_no (l : Launch) (hst : l.stackTraces = false) (D : va_G) (sz : Nat) (mo b0 b1 b2 b3 dz : Nat) (th : Int32) (x1 : Int32) (h : zin x1 0 7 = 0) : Met l yX17_shareBits zm_sb_no (zR 4 0 0) (zPre [.ref mo, .int x1] D [(mo, .inr (23, [.int th, .ref b0, .ref b1, .ref b2, .ref b3, .int 0, .int 0, .long 0]))] [] (va_A [(mo, .inr (23, [.int th, .ref b0, .ref b1, .ref b2, .ref b3, .int 0, .int 0, .long 0]))] sz) sz) (va_Qi (S := Unit) (fun r _ => r = 0) (fun _ t => zAt D [(mo, .inr (23, [.int 1, .ref b0, .ref b1, .ref b2, .ref b3, .int 0, .int 0, .long 0]))] [] (va_A [(mo, .inr (23, [.int th, .ref b0, .ref b1, .ref b2, .ref b3, .int 0, .int 0, .long 0]))] sz) t) (va_A [(mo, .inr (23, [.int th, .ref b0, .ref b1, .ref b2, .ref b3, .int 0, .int 0, .long 0]))] sz)) 0 0 (va_A [(mo, .inr (23, [.int th, .ref b0, .ref b1, .ref b2, .ref b3, .int 0, .int 0, .long 0]))] sz) := by
  refine Met.ofW (cc := cX17_shareBits) (maxL := 8) (ret := (some .int)) (by decide) rfl ?_
  intro p e s m args below meth c s₁ B hml hv
  obtain ⟨rfl, hsz, hP, hK, hD0, hz⟩ := hv
  have hx := B.exec
  have hb := B.bytes
  have hr := B.returns
  have hts := atoms_spec (ws := zm_sb_no) B.pre
  have hown : s.vm.findClass RX17 = some m.cls := findClass_of_methodNamed B.named
  have hlocks := B.notSynchronized
  subst hsz
  have hD := hD0.self (sz := s.heap.size)
  generalize hAe : va_A [(mo, .inr (23, [.int th, .ref b0, .ref b1, .ref b2, .ref b3, .int 0, .int 0, .long 0]))] s.heap.size = A at hD hz ⊢
  have hA : ∀ q : Nat, s.heap.size ≤ q → A q := fun q h => by rw [← hAe]; exact Or.inr h
  have hS : va_S A s.heap s.heap [] := va_S.rf
  have hP : va_P D vwCl [(mo, .inr (23, [.int th, .ref b0, .ref b1, .ref b2, .ref b3, .int 0, .int 0, .long 0]))] s.heap := hP
  have hl := lv_entry ([.ref mo, .int x1]) (n := 8) (Nat.le_of_ble_eq_true rfl)
  rw [lg_entry_eq]
  generalize (lg_sl ([.ref mo, .int x1]) ++ List.replicate (8 - (lg_sl ([.ref mo, .int x1])).length) Slot.unset).toArray = ls at hl ⊢
  have hl : lv_has ls 8 [(0, .ref mo), (1, .int x1)] := hl
  refine lv_iload_n hx hb dX17_shareBits_0 rfl (lv_at hl 1 rfl) ?_
  refine lv_iconst (v := 0) hx hb dX17_shareBits_1 (by decide) ?_
  refine lv_bipush (v := 7) hx hb dX17_shareBits_2 (by decide) ?_
  have hPc := hP.sub (ws' := []) [] rfl
  have hDc := hD.sub (ws' := []) [] (by decide) rfl
  have hKc := hK.sub (tys' := []) [] rfl
  have hFc : ∀ q : Nat, s.heap.size ≤ q → A q := fun q h => hA q (Nat.le_trans hS.1 h)
  refine va_calli (va_runS (As := [.int x1, .int 0, .int 7]) (rest := []) ⟨hx, hb, hml, hown, hts⟩ (c_in l hst D s.heap.size x1 0 7) (cwS 3 hts (goodIn_app (goodIn_of _ (by decide +kernel)) (goodIn_sub (fun _ h => List.mem_cons_of_mem _ (List.mem_append_right _ (List.mem_append_left _ h))) zX17_in_ws_good)) rfl rfl rfl (by decide +kernel) ⟨Nat.le_of_ble_eq_true rfl, Nat.le_of_ble_eq_true rfl⟩) ⟨zPre.blind, zPre.mk hPc hKc hDc hz hS (fun q h => hFc q h)⟩ rfl rfl hl.1 rfl (lv_room (Nat.le_of_ble_eq_true rfl)) dX17_shareBits_4 ⟨Nat.le_of_ble_eq_true rfl, Nat.le_of_ble_eq_true rfl⟩) hS (fun q _ h => hFc q h) (fun q h => hFc q h) (fun r9 u t H1 locs ht9 hvm hw hB hz1 hk1 hS => ?_)
  refine W.widen (k := 0) (n := 0) (by omega) (by omega) ?_
  have hP := zKeep hP hk1
  generalize H1 = H at hP hS ⊢
  have hP : va_P D vwCl [(mo, .inr (23, [.int th, .ref b0, .ref b1, .ref b2, .ref b3, .int 0, .int 0, .long 0]))] H := hP
  obtain rfl : r9 = 0 := hw.trans h
  refine lv_if_ne (tgt := 16) hx hb dX17_shareBits_7 (by decide) (fun c => absurd (by decide) c) (fun _ => ?_)
  refine lv_aload_n hx hb dX17_shareBits_10 rfl (lv_at hl 0 rfl) ?_
  refine lv_iconst (v := 1) hx hb dX17_shareBits_11 (by decide) ?_
  have hPc := hP.sub (ws' := [(mo, .inr (23, [.int th, .ref b0, .ref b1, .ref b2, .ref b3, .int 0, .int 0, .long 0]))]) [0] rfl
  have hDc := hD.sub (ws' := [(mo, .inr (23, [.int th, .ref b0, .ref b1, .ref b2, .ref b3, .int 0, .int 0, .long 0]))]) [0] (by decide) rfl
  have hKc := hK.sub (tys' := []) [] rfl
  have hFc := va_free (wc := [(mo, .inr (23, [.int th, .ref b0, .ref b1, .ref b2, .ref b3, .int 0, .int 0, .long 0]))]) hD hS hA [0] rfl
  refine va_calli (va_runV (As := [.int 1]) (rest := []) ⟨hx, hb, hml, hown, hts⟩ (cm_raises l hst D H.size mo b0 b1 b2 b3 dz th) (cwV 1 hts (goodIn_app (goodIn_of _ (by decide +kernel)) (goodIn_sub (fun _ h => List.mem_cons_of_mem _ (List.mem_append_right _ (List.mem_append_right _ (List.mem_append_left _ h)))) zX17_raises_ws_good)) rfl rfl rfl (by decide +kernel) ⟨Nat.le_of_ble_eq_true rfl, Nat.le_of_ble_eq_true rfl⟩) ⟨zPre.blind, va_recv hKc hPc (ci := 23) (q0 := 0) rfl rfl, zPre.mk hPc hKc hDc hz hS (fun q h => hFc q h)⟩ rfl rfl hl.1 rfl (lv_room (Nat.le_of_ble_eq_true rfl)) dX17_shareBits_12 ⟨Nat.le_of_ble_eq_true rfl, Nat.le_of_ble_eq_true rfl⟩) hS (fun q _ h => hFc q h) (fun q h => hFc q h) (fun r9 u t H1 locs ht9 hvm hw hB hz1 hk1 hS => ?_)
  refine W.widen (k := 0) (n := 0) (by omega) (by omega) ?_
  obtain ⟨hP1, hK1, hD1⟩ := hB
  rw [ht9] at hP1
  have hK1 := va_K.moved hvm.symm hK1
  obtain ⟨hP, hD⟩ := va_join (wr := []) (w1 := [(mo, .inr (23, [.int 1, .ref b0, .ref b1, .ref b2, .ref b3, .int 0, .int 0, .long 0]))]) hP hD [0] [] rfl rfl (by decide) (by decide) hk1 hFc hP1 hD1
  have hK := (hK.sub (tys' := []) [] rfl).app hK1
  generalize H1 = H at hP hS ⊢
  have hP : va_P D vwCl [(mo, .inr (23, [.int 1, .ref b0, .ref b1, .ref b2, .ref b3, .int 0, .int 0, .long 0]))] H := hP
  have hD : va_D A [(mo, .inr (23, [.int 1, .ref b0, .ref b1, .ref b2, .ref b3, .int 0, .int 0, .long 0]))] := hD
  have hK : va_K D vwCl [] s := hK
  subst hw
  have hP9 := hP.sub (ws' := [(mo, .inr (23, [.int 1, .ref b0, .ref b1, .ref b2, .ref b3, .int 0, .int 0, .long 0]))]) [0] rfl
  have hD9 := hD.sub (ws' := [(mo, .inr (23, [.int 1, .ref b0, .ref b1, .ref b2, .ref b3, .int 0, .int 0, .long 0]))]) [0] (by decide) rfl
  have hK9 := hK.sub (tys' := []) [] rfl
  rw [← hAe] at hD9
  refine W.widen (k := 0) (n := 0) (by omega) (by omega) ?_
  subst hAe
  exact W.iret (v := 0) hx hb hr (fun t ht9 hW => ⟨⟨0, (), rfl, rfl, ⟨by rw [ht9]; exact hP9, va_K.moved hW.alike hK9, hD9⟩⟩, hS.F ht9⟩) hS.2.2 dX17_shareBits_15

def zm_sb_none : List Cond := .code yX17_shareBits cX17_shareBits 8 (some .int) :: ([.methodLink RX17 29 yX17_in, .static yX17_in, .initialized RX17, .methodLink RX17 366 yX17_medals, .instanceMethod yX17_medals, .selects RX17 yX17_medals yX17_medals, .fieldLink RX17 25 "HeatStadiumModel" "thrown" "I"] ++ (zX17_in_ws ++ (zX17_medals_ws ++ (wsX170 ++ ([])))))
theorem zm_sb_none_good : zm_sb_none.all goodWord = true := by decide +kernel
set_option maxHeartbeats 4000000 in
set_option maxRecDepth 100000 in
/-- the reference: shareBits: its loop -/
theorem lpm_share {p : Program} {l : Launch} {e : Env} {s : State} {m : MethodId} {args : Array Value} {below : List Frame} {meth : Method} {c : Code} {A A9 : Nat → Prop} {Q : State → Prop} (hst : l.stackTraces = false) (D : va_G) (mo b0 b1 b2 b3 dz : Nat) (th : Int32) (x1 : Int32) (g : Nat) (og : Nat → Option Nat) (LR : List Nat) (cG cI : ClassId) (hx : p.tables.exec = Jvm.exec) (hb : c.code = cX17_shareBits) (hml : c.maxLocals = 8) (hts : ∀ w ∈ zm_sb_none, w.before args s = true) (hown : s.vm.findClass RX17 = some m.cls) (hz : zX A s s.heap) (hA : ∀ q : Nat, s.heap.size ≤ q → A q) (hK : va_K D vwCl [(cG, .array .int), (cI, .int)] s) (hg : ∀ i, i < 8 → ∃ y, og i = some y ∧ y ∈ LR) (kk : ∀ (H : Heap) (locs : List Loc), va_P D vwCl ([(mo, .inr (23, [.int th, .ref b0, .ref b1, .ref b2, .ref b3, .int 0, .int 0, .long 0])), (b2, .inr (5, [.int 0, .ref dz, .int 0])), (g, .inl (cG, 8, .inr (.inr (.inr (.inr og)))))] ++ va_pl LR (zrow cI)) H → va_D A ([(mo, .inr (23, [.int th, .ref b0, .ref b1, .ref b2, .ref b3, .int 0, .int 0, .long 0])), (b2, .inr (5, [.int 0, .ref dz, .int 0])), (g, .inl (cG, 8, .inr (.inr (.inr (.inr og)))))] ++ va_pl LR (zrow cI)) → va_S A s.heap H locs → ∀ ls : Array Slot, lv_has ls 8 [(0, .ref mo), (1, .int x1), (2, .ref g), (3, .int 0)] → W p l e (zR 4 12 60) s m args below meth c H locs 12 60 Q (F0 m 61 ls [])) : ∀ (n i : Nat), i ≤ 8 → 8 < i + n → ∀ (H : Heap) (locs : List Loc), va_P D vwCl ([(mo, .inr (23, [.int th, .ref b0, .ref b1, .ref b2, .ref b3, .int 0, .int 0, .long 0])), (b2, .inr (5, [.int 0, .ref dz, .int 0])), (g, .inl (cG, 8, .inr (.inr (.inr (.inr og)))))] ++ va_pl LR (zrow cI)) H → va_D A ([(mo, .inr (23, [.int th, .ref b0, .ref b1, .ref b2, .ref b3, .int 0, .int 0, .long 0])), (b2, .inr (5, [.int 0, .ref dz, .int 0])), (g, .inl (cG, 8, .inr (.inr (.inr (.inr og)))))] ++ va_pl LR (zrow cI)) → va_S A s.heap H locs → ∀ ls : Array Slot, lv_has ls 8 [(6, .int (nI i)), (0, .ref mo), (1, .int x1), (2, .ref g), (3, .int 0), (4, .ref g), (5, .int 8)] → W p l e (zR 4 12 60) s m args below meth c H locs 12 60 Q (F0 m 34 ls []) := by
  intro n
  induction n with
  | zero =>
    intro i h1 h2
    exact absurd h2 (by omega)
  | succ n ih =>
    intro i hi hn H locs hP hD hS ls hl
    rcases Nat.lt_or_ge i 8 with q | q
    · refine lv_iload hx hb dX17_shareBits_34 (lv_at hl 0 rfl) ?_
      refine lv_iload hx hb dX17_shareBits_36 (lv_at hl 6 rfl) ?_
      refine lv_icmp_ge (tgt := 61) hx hb dX17_shareBits_38 (by decide) (fun c9 => absurd c9 (nI_ge q (by decide))) (fun _ => ?_)
      refine lv_aload hx hb dX17_shareBits_41 (lv_at hl 5 rfl) ?_
      refine lv_iload hx hb dX17_shareBits_43 (lv_at hl 0 rfl) ?_
      obtain ⟨y1, ey1, my1⟩ := hg i q
      obtain ⟨ky1, hy1⟩ := va_pl_get (X := [(mo, .inr (23, [.int th, .ref b0, .ref b1, .ref b2, .ref b3, .int 0, .int 0, .long 0])), (b2, .inr (5, [.int 0, .ref dz, .int 0])), (g, .inl (cG, 8, .inr (.inr (.inr (.inr og)))))]) (f := zrow cI) my1
      refine zaldg hx hb hK hP 2 0 rfl rfl (vp_in_nI q (by decide)) dX17_shareBits_45 ?_
      rw [show (nI i).toNatClampNeg = i from nI_clamp (by omega), ey1]
      refine lv_astore (lv' := [(7, .ref y1), (6, .int (nI i)), (0, .ref mo), (1, .int x1), (2, .ref g), (3, .int 0), (4, .ref g), (5, .int 8)]) hx hb dX17_shareBits_46 hl (by decide) rfl (fun ls hl => ?_)
      refine lv_iload_n hx hb dX17_shareBits_48 rfl (lv_at hl 5 rfl) ?_
      refine lv_aload hx hb dX17_shareBits_49 (lv_at hl 0 rfl) ?_
      refine lv_iconst (v := 0) hx hb dX17_shareBits_51 (by decide) ?_
      refine va_iald hx hb hK hP ky1 1 hy1 rfl (show vp_in 0 4 by unfold vp_in; decide) dX17_shareBits_52 ?_
      refine lv_iadd hx hb dX17_shareBits_53 ?_
      refine lv_topi (fun z2 ez2 => ?_)
      obtain rfl : z2 = 0 := ez2.trans (by decide)
      refine lv_istore_n (lv' := [(3, .int 0), (7, .ref y1), (6, .int (nI i)), (0, .ref mo), (1, .int x1), (2, .ref g), (4, .ref g), (5, .int 8)]) hx hb dX17_shareBits_54 rfl hl (by decide) rfl (fun ls hl => ?_)
      refine lv_iinc (v := nI (i + 1)) (lv' := [(6, .int (nI (i + 1))), (3, .int 0), (7, .ref y1), (0, .ref mo), (1, .int x1), (2, .ref g), (4, .ref g), (5, .int 8)]) hx hb dX17_shareBits_55 hl (k := 2) rfl (show nI i + Int32.ofInt 1 = nI (i + 1) from nI_1 i) (by decide) rfl (fun ls hl => ?_)
      refine lv_goto (tgt := 34) hx hb dX17_shareBits_58 (by decide) ?_
      exact ih (i + 1) (by omega) (by omega) H locs hP hD hS ls (lv_sub hl [0, 3, 4, 5, 1, 6, 7] rfl)
    · obtain rfl : i = 8 := by omega
      refine lv_iload hx hb dX17_shareBits_34 (lv_at hl 0 rfl) ?_
      refine lv_iload hx hb dX17_shareBits_36 (lv_at hl 6 rfl) ?_
      refine lv_icmp_ge (tgt := 61) hx hb dX17_shareBits_38 (by decide) (fun _ => ?_) (fun c9 => absurd (nI_le (Nat.le_refl _) (by decide)) c9)
      exact kk H locs hP hD hS ls (lv_sub hl [1, 2, 3, 4] rfl)
set_option maxHeartbeats 4000000 in
set_option maxRecDepth 100000 in
/-- the reference: shareBits without medals -/
theorem cm_shareBits_none (l : Launch) (hst : l.stackTraces = false) (D : va_G) (sz : Nat) (mo b0 b1 b2 b3 dz : Nat) (th : Int32) (x1 : Int32) (h : zin x1 0 7 = 1) : Met l yX17_shareBits zm_sb_none (zR 4 12 60) (zPreX (zM dz) [.ref mo, .int x1] D [(mo, .inr (23, [.int th, .ref b0, .ref b1, .ref b2, .ref b3, .int 0, .int 0, .long 0])), (b2, .inr (5, [.int 0, .ref dz, .int 0]))] [] (va_A [(mo, .inr (23, [.int th, .ref b0, .ref b1, .ref b2, .ref b3, .int 0, .int 0, .long 0])), (b2, .inr (5, [.int 0, .ref dz, .int 0]))] sz) sz) (va_Qi (S := Unit) (fun r _ => r = 0) (fun _ t => zAt D [(mo, .inr (23, [.int 2, .ref b0, .ref b1, .ref b2, .ref b3, .int 0, .int 0, .long 0]))] [] (va_A [(mo, .inr (23, [.int th, .ref b0, .ref b1, .ref b2, .ref b3, .int 0, .int 0, .long 0])), (b2, .inr (5, [.int 0, .ref dz, .int 0]))] sz) t) (va_A [(mo, .inr (23, [.int th, .ref b0, .ref b1, .ref b2, .ref b3, .int 0, .int 0, .long 0])), (b2, .inr (5, [.int 0, .ref dz, .int 0]))] sz)) 12 60 (va_A [(mo, .inr (23, [.int th, .ref b0, .ref b1, .ref b2, .ref b3, .int 0, .int 0, .long 0])), (b2, .inr (5, [.int 0, .ref dz, .int 0]))] sz) := by
  refine Met.ofW (cc := cX17_shareBits) (maxL := 8) (ret := (some .int)) (by decide) rfl ?_
  intro p e s m args below meth c s₁ B hml hv
  obtain ⟨rfl, hsz, hP, hK, hD0, hz, hm⟩ := hv
  have hx := B.exec
  have hb := B.bytes
  have hr := B.returns
  have hts := atoms_spec (ws := zm_sb_none) B.pre
  have hown : s.vm.findClass RX17 = some m.cls := findClass_of_methodNamed B.named
  have hlocks := B.notSynchronized
  subst hsz
  have hD := hD0.self (sz := s.heap.size)
  generalize hAe : va_A [(mo, .inr (23, [.int th, .ref b0, .ref b1, .ref b2, .ref b3, .int 0, .int 0, .long 0])), (b2, .inr (5, [.int 0, .ref dz, .int 0]))] s.heap.size = A at hD hz hm ⊢
  have hA : ∀ q : Nat, s.heap.size ≤ q → A q := fun q h => by rw [← hAe]; exact Or.inr h
  have hS : va_S A s.heap s.heap [] := va_S.rf
  have hP : va_P D vwCl [(mo, .inr (23, [.int th, .ref b0, .ref b1, .ref b2, .ref b3, .int 0, .int 0, .long 0])), (b2, .inr (5, [.int 0, .ref dz, .int 0]))] s.heap := hP
  have hl := lv_entry ([.ref mo, .int x1]) (n := 8) (Nat.le_of_ble_eq_true rfl)
  rw [lg_entry_eq]
  generalize (lg_sl ([.ref mo, .int x1]) ++ List.replicate (8 - (lg_sl ([.ref mo, .int x1])).length) Slot.unset).toArray = ls at hl ⊢
  have hl : lv_has ls 8 [(0, .ref mo), (1, .int x1)] := hl
  refine lv_iload_n hx hb dX17_shareBits_0 rfl (lv_at hl 1 rfl) ?_
  refine lv_iconst (v := 0) hx hb dX17_shareBits_1 (by decide) ?_
  refine lv_bipush (v := 7) hx hb dX17_shareBits_2 (by decide) ?_
  have hPc := hP.sub (ws' := []) [] rfl
  have hDc := hD.sub (ws' := []) [] (by decide) rfl
  have hKc := hK.sub (tys' := []) [] rfl
  have hFc : ∀ q : Nat, s.heap.size ≤ q → A q := fun q h => hA q (Nat.le_trans hS.1 h)
  refine va_calli (va_runS (As := [.int x1, .int 0, .int 7]) (rest := []) ⟨hx, hb, hml, hown, hts⟩ (c_in l hst D s.heap.size x1 0 7) (cwS 3 hts (goodIn_app (goodIn_of _ (by decide +kernel)) (goodIn_sub (fun _ h => List.mem_cons_of_mem _ (List.mem_append_right _ (List.mem_append_left _ h))) zX17_in_ws_good)) rfl rfl rfl (by decide +kernel) ⟨Nat.le_of_ble_eq_true rfl, Nat.le_of_ble_eq_true rfl⟩) ⟨zPre.blind, zPre.mk hPc hKc hDc hz hS (fun q h => hFc q h)⟩ rfl rfl hl.1 rfl (lv_room (Nat.le_of_ble_eq_true rfl)) dX17_shareBits_4 ⟨Nat.le_of_ble_eq_true rfl, Nat.le_of_ble_eq_true rfl⟩) hS (fun q _ h => hFc q h) (fun q h => hFc q h) (fun r9 u t H1 locs ht9 hvm hw hB hz1 hk1 hS => ?_)
  refine W.widen (k := 0) (n := 0) (by omega) (by omega) ?_
  have hP := zKeep hP hk1
  generalize H1 = H at hP hS ⊢
  have hP : va_P D vwCl [(mo, .inr (23, [.int th, .ref b0, .ref b1, .ref b2, .ref b3, .int 0, .int 0, .long 0])), (b2, .inr (5, [.int 0, .ref dz, .int 0]))] H := hP
  obtain rfl : r9 = 1 := hw.trans h
  refine lv_if_ne (tgt := 16) hx hb dX17_shareBits_7 (by decide) (fun _ => ?_) (fun c => absurd c (by decide))
  refine lv_aload_n hx hb dX17_shareBits_16 rfl (lv_at hl 0 rfl) ?_
  have hPc := hP.sub (ws' := [(mo, .inr (23, [.int th, .ref b0, .ref b1, .ref b2, .ref b3, .int 0, .int 0, .long 0])), (b2, .inr (5, [.int 0, .ref dz, .int 0]))]) [0, 1] rfl
  have hDc := hD.sub (ws' := [(mo, .inr (23, [.int th, .ref b0, .ref b1, .ref b2, .ref b3, .int 0, .int 0, .long 0])), (b2, .inr (5, [.int 0, .ref dz, .int 0]))]) [0, 1] (by decide) rfl
  have hKc := hK.sub (tys' := []) [] rfl
  have hFc := va_free (wc := [(mo, .inr (23, [.int th, .ref b0, .ref b1, .ref b2, .ref b3, .int 0, .int 0, .long 0])), (b2, .inr (5, [.int 0, .ref dz, .int 0]))]) hD hS hA [0, 1] rfl
  refine va_callq (va_runV (As := []) (rest := []) ⟨hx, hb, hml, hown, hts⟩ (cm_grid l hst D H.size mo b0 b1 b2 b3 dz th) (cwV 0 hts (goodIn_app (goodIn_of _ (by decide +kernel)) (goodIn_sub (fun _ h => List.mem_cons_of_mem _ (List.mem_append_right _ (List.mem_append_right _ (List.mem_append_left _ h)))) zX17_medals_ws_good)) rfl rfl rfl (by decide +kernel) ⟨Nat.le_of_ble_eq_true rfl, Nat.le_of_ble_eq_true rfl⟩) ⟨zPreX.blind (zM_ok dz), va_recv hKc hPc (ci := 23) (q0 := 0) rfl rfl, zPreX.mk (zM_ok dz) (hm) hPc hKc hDc hz hS (fun q h => hFc q h)⟩ rfl rfl hl.1 rfl (lv_room (Nat.le_of_ble_eq_true rfl)) dX17_shareBits_17 ⟨Nat.le_of_ble_eq_true rfl, Nat.le_of_ble_eq_true rfl⟩) hS (fun q _ h => hFc q h) (fun q h => hFc q h) (fun r9 u t H1 locs ht9 hvm hw hB hz1 hk1 hS => ?_)
  refine W.widen (k := 12) (n := 60) (by omega) (by omega) ?_
  obtain ⟨g, og, LR, cG, cI⟩ := u
  obtain ⟨hg, hP1, hK1, hD1⟩ := hB
  rw [ht9] at hP1
  have hK1 := va_K.moved hvm.symm hK1
  have hg : ∀ i, i < 8 → ∃ y, og i = some y ∧ y ∈ LR := hg
  obtain ⟨hP, hD⟩ := va_join (wr := []) (w1 := [(mo, .inr (23, [.int th, .ref b0, .ref b1, .ref b2, .ref b3, .int 0, .int 0, .long 0])), (b2, .inr (5, [.int 0, .ref dz, .int 0])), (g, .inl (cG, 8, .inr (.inr (.inr (.inr og)))))] ++ va_pl LR (zrow cI)) hP hD [0, 1] [] rfl rfl (by decide) (by decide) hk1 hFc hP1 hD1
  have hK := (hK.sub (tys' := []) [] rfl).app hK1
  generalize H1 = H at hP hS ⊢
  have hP : va_P D vwCl ([(mo, .inr (23, [.int th, .ref b0, .ref b1, .ref b2, .ref b3, .int 0, .int 0, .long 0])), (b2, .inr (5, [.int 0, .ref dz, .int 0])), (g, .inl (cG, 8, .inr (.inr (.inr (.inr og)))))] ++ va_pl LR (zrow cI)) H := hP
  have hD : va_D A ([(mo, .inr (23, [.int th, .ref b0, .ref b1, .ref b2, .ref b3, .int 0, .int 0, .long 0])), (b2, .inr (5, [.int 0, .ref dz, .int 0])), (g, .inl (cG, 8, .inr (.inr (.inr (.inr og)))))] ++ va_pl LR (zrow cI)) := hD
  have hK : va_K D vwCl [(cG, .array .int), (cI, .int)] s := hK
  subst hw
  refine lv_astore_n (lv' := [(2, .ref g), (0, .ref mo), (1, .int x1)]) hx hb dX17_shareBits_20 rfl hl (by decide) rfl (fun ls hl => ?_)
  refine lv_iconst (v := 0) hx hb dX17_shareBits_21 (by decide) ?_
  refine lv_istore_n (lv' := [(3, .int 0), (2, .ref g), (0, .ref mo), (1, .int x1)]) hx hb dX17_shareBits_22 rfl hl (by decide) rfl (fun ls hl => ?_)
  refine lv_aload_n hx hb dX17_shareBits_23 rfl (lv_at hl 1 rfl) ?_
  refine lv_astore (lv' := [(4, .ref g), (3, .int 0), (2, .ref g), (0, .ref mo), (1, .int x1)]) hx hb dX17_shareBits_24 hl (by decide) rfl (fun ls hl => ?_)
  refine lv_aload hx hb dX17_shareBits_26 (lv_at hl 0 rfl) ?_
  refine va_alen (v := 8) hx hb hK hP 2 0 rfl rfl rfl dX17_shareBits_28 ?_
  refine lv_istore (lv' := [(5, .int 8), (4, .ref g), (3, .int 0), (2, .ref g), (0, .ref mo), (1, .int x1)]) hx hb dX17_shareBits_29 hl (by decide) rfl (fun ls hl => ?_)
  refine lv_iconst (v := 0) hx hb dX17_shareBits_31 (by decide) ?_
  refine lv_istore (lv' := [(6, .int 0), (5, .int 8), (4, .ref g), (3, .int 0), (2, .ref g), (0, .ref mo), (1, .int x1)]) hx hb dX17_shareBits_32 hl (by decide) rfl (fun ls hl => ?_)
  refine lpm_share (A9 := A) hst D mo b0 b1 b2 b3 dz th x1 g og LR cG cI hx hb hml hts hown hz hA hK hg (fun H locs hP hD hS ls hl => ?_) 9 0 (by omega) (by omega) H _ hP hD hS ls (lv_sub hl [0, 5, 6, 4, 3, 2, 1] rfl)
  refine lv_aload_n hx hb dX17_shareBits_61 rfl (lv_at hl 0 rfl) ?_
  refine lv_iload_n hx hb dX17_shareBits_62 rfl (lv_at hl 3 rfl) ?_
  refine lv_if_ne (tgt := 70) hx hb dX17_shareBits_63 (by decide) (fun c => absurd (by decide) c) (fun _ => ?_)
  refine lv_iconst (v := 2) hx hb dX17_shareBits_66 (by decide) ?_
  refine lv_goto (tgt := 71) hx hb dX17_shareBits_67 (by decide) ?_
  refine va_put (D := D) (ci := 23) (v := .int 2) (ty := .int) (C := RX17) (T := TX17) (N := 8) hx hb hts (by decide +kernel) tyX17 tyX17_ok nmX17 hown hK hP hD hS 0 rfl rfl 0 (by decide) (hts (.fieldLink RX17 25 "HeatStadiumModel" "thrown" "I") (by decide +kernel)) (fun _ h9 => h9) rfl (by decide +kernel) rfl rfl (Nat.le_of_ble_eq_true rfl) dX17_shareBits_71 (fun H locs hP hD hS => ?_)
  have hP : va_P D vwCl ([(mo, .inr (23, [.int 2, .ref b0, .ref b1, .ref b2, .ref b3, .int 0, .int 0, .long 0])), (b2, .inr (5, [.int 0, .ref dz, .int 0])), (g, .inl (cG, 8, .inr (.inr (.inr (.inr og)))))] ++ va_pl LR (zrow cI)) H := hP
  have hD : va_D A ([(mo, .inr (23, [.int 2, .ref b0, .ref b1, .ref b2, .ref b3, .int 0, .int 0, .long 0])), (b2, .inr (5, [.int 0, .ref dz, .int 0])), (g, .inl (cG, 8, .inr (.inr (.inr (.inr og)))))] ++ va_pl LR (zrow cI)) := hD
  refine lv_aload_n hx hb dX17_shareBits_74 rfl (lv_at hl 0 rfl) ?_
  refine va_get (D := D) (ci := 23) (v := .int 2) (C := RX17) (T := TX17) (N := 8) hx hb hts (by decide +kernel) hown hK hP 0 rfl rfl 0 (by decide) (hts (.fieldLink RX17 25 "HeatStadiumModel" "thrown" "I") (by decide +kernel)) (fun _ h9 => h9) rfl dX17_shareBits_75 ?_
  refine lv_if_le (tgt := 85) hx hb dX17_shareBits_78 (by decide) (fun c => absurd c (by decide)) (fun _ => ?_)
  refine lv_iconst (v := 0) hx hb dX17_shareBits_81 (by decide) ?_
  refine lv_goto (tgt := 97) hx hb dX17_shareBits_82 (by decide) ?_
  have hP9 := hP.sub (ws' := [(mo, .inr (23, [.int 2, .ref b0, .ref b1, .ref b2, .ref b3, .int 0, .int 0, .long 0]))]) [0] rfl
  have hD9 := hD.sub (ws' := [(mo, .inr (23, [.int 2, .ref b0, .ref b1, .ref b2, .ref b3, .int 0, .int 0, .long 0]))]) [0] (by decide) rfl
  have hK9 := hK.sub (tys' := []) [] rfl
  rw [← hAe] at hD9
  refine W.widen (k := 12) (n := 60) (by omega) (by omega) ?_
  subst hAe
  exact W.iret (v := 0) hx hb hr (fun t ht9 hW => ⟨⟨0, (), rfl, rfl, ⟨by rw [ht9]; exact hP9, va_K.moved hW.alike hK9, hD9⟩⟩, hS.F ht9⟩) hS.2.2 dX17_shareBits_97
