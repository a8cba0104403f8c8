/-! printed rows that this part uses -/
theorem dX1_init_0 : decode cX1_init 0 = .ok (.aload_n 0, 1) := by decide +kernel
theorem dX1_init_1 : decode cX1_init 1 = .ok (.invokespecial 3, 3) := by decide +kernel
theorem dX1_init_4 : decode cX1_init 4 = .ok (.aload_n 0, 1) := by decide +kernel
theorem dX1_init_5 : decode cX1_init 5 = .ok (.bipush 30, 2) := by decide +kernel
theorem dX1_init_7 : decode cX1_init 7 = .ok (.newarray .int, 2) := by decide +kernel
theorem dX1_init_9 : decode cX1_init 9 = .ok (.putfield 9, 3) := by decide +kernel
theorem dX1_init_12 : decode cX1_init 12 = .ok (.aload_n 0, 1) := by decide +kernel
theorem dX1_init_13 : decode cX1_init 13 = .ok (.bipush 30, 2) := by decide +kernel
theorem dX1_init_15 : decode cX1_init 15 = .ok (.newarray .boolean, 2) := by decide +kernel
theorem dX1_init_17 : decode cX1_init 17 = .ok (.putfield 15, 3) := by decide +kernel
theorem dX1_init_20 : decode cX1_init 20 = .ok (.aload_n 0, 1) := by decide +kernel
theorem dX1_init_21 : decode cX1_init 21 = .ok (.new 19, 3) := by decide +kernel
theorem dX1_init_24 : decode cX1_init 24 = .ok (.dup, 1) := by decide +kernel
theorem dX1_init_25 : decode cX1_init 25 = .ok (.invokespecial 21, 3) := by decide +kernel
theorem dX1_init_28 : decode cX1_init 28 = .ok (.putfield 22, 3) := by decide +kernel
theorem dX1_init_31 : decode cX1_init 31 = .ok (.aload_n 0, 1) := by decide +kernel
theorem dX1_init_32 : decode cX1_init 32 = .ok (.new 19, 3) := by decide +kernel
theorem dX1_init_35 : decode cX1_init 35 = .ok (.dup, 1) := by decide +kernel
theorem dX1_init_36 : decode cX1_init 36 = .ok (.invokespecial 21, 3) := by decide +kernel
theorem dX1_init_39 : decode cX1_init 39 = .ok (.putfield 26, 3) := by decide +kernel
theorem dX1_init_42 : decode cX1_init 42 = .ok (.aload_n 0, 1) := by decide +kernel
theorem dX1_init_43 : decode cX1_init 43 = .ok (.new 29, 3) := by decide +kernel
theorem dX1_init_46 : decode cX1_init 46 = .ok (.dup, 1) := by decide +kernel
theorem dX1_init_47 : decode cX1_init 47 = .ok (.invokespecial 31, 3) := by decide +kernel
theorem dX1_init_50 : decode cX1_init 50 = .ok (.putfield 32, 3) := by decide +kernel
theorem dX1_init_53 : decode cX1_init 53 = .ok (.aload_n 0, 1) := by decide +kernel
theorem dX1_init_54 : decode cX1_init 54 = .ok (.new 36, 3) := by decide +kernel
theorem dX1_init_57 : decode cX1_init 57 = .ok (.dup, 1) := by decide +kernel
theorem dX1_init_58 : decode cX1_init 58 = .ok (.invokespecial 38, 3) := by decide +kernel
theorem dX1_init_61 : decode cX1_init 61 = .ok (.putfield 39, 3) := by decide +kernel
theorem dX1_init_64 : decode cX1_init 64 = .ok (.aload_n 0, 1) := by decide +kernel
theorem dX1_init_65 : decode cX1_init 65 = .ok (.iload_n 1, 1) := by decide +kernel
theorem dX1_init_66 : decode cX1_init 66 = .ok (.putfield 43, 3) := by decide +kernel
theorem dX1_init_69 : decode cX1_init 69 = .ok (.aload_n 0, 1) := by decide +kernel
theorem dX1_init_70 : decode cX1_init 70 = .ok (.iload_n 2, 1) := by decide +kernel
theorem dX1_init_71 : decode cX1_init 71 = .ok (.putfield 47, 3) := by decide +kernel
theorem dX1_init_74 : decode cX1_init 74 = .ok (.aload_n 0, 1) := by decide +kernel
theorem dX1_init_75 : decode cX1_init 75 = .ok (.iload_n 3, 1) := by decide +kernel
theorem dX1_init_76 : decode cX1_init 76 = .ok (.putfield 51, 3) := by decide +kernel
theorem dX1_init_79 : decode cX1_init 79 = .ok (.aload_n 0, 1) := by decide +kernel
theorem dX1_init_80 : decode cX1_init 80 = .ok (.iload 4, 2) := by decide +kernel
theorem dX1_init_82 : decode cX1_init 82 = .ok (.putfield 54, 3) := by decide +kernel
theorem dX1_init_85 : decode cX1_init 85 = .ok (.aload_n 0, 1) := by decide +kernel
theorem dX1_init_86 : decode cX1_init 86 = .ok (.iload 5, 2) := by decide +kernel
theorem dX1_init_88 : decode cX1_init 88 = .ok (.putfield 57, 3) := by decide +kernel
theorem dX1_init_91 : decode cX1_init 91 = .ok (.return_, 1) := by decide +kernel
theorem dX11_athlete_4 : decode cX11_athlete 4 = .ok (.aload_n 0, 1) := by decide +kernel
theorem dX11_athlete_5 : decode cX11_athlete 5 = .ok (.getfield 12, 3) := by decide +kernel
theorem dX11_athlete_8 : decode cX11_athlete 8 = .ok (.getfield 78, 3) := by decide +kernel
theorem dX11_athlete_11 : decode cX11_athlete 11 = .ok (.istore_n 2, 1) := by decide +kernel
theorem dX11_athlete_12 : decode cX11_athlete 12 = .ok (.iload_n 2, 1) := by decide +kernel
theorem dX11_athlete_13 : decode cX11_athlete 13 = .ok (.bipush 30, 2) := by decide +kernel
theorem dX11_athlete_15 : decode cX11_athlete 15 = .ok (.if_icmp .lt 13, 3) := by decide +kernel
theorem dX11_athlete_28 : decode cX11_athlete 28 = .ok (.aload_n 0, 1) := by decide +kernel
theorem dX11_athlete_29 : decode cX11_athlete 29 = .ok (.getfield 12, 3) := by decide +kernel
theorem dX11_athlete_32 : decode cX11_athlete 32 = .ok (.getfield 88, 3) := by decide +kernel
theorem dX11_athlete_35 : decode cX11_athlete 35 = .ok (.iload_n 2, 1) := by decide +kernel
theorem dX11_athlete_36 : decode cX11_athlete 36 = .ok (.iload_n 1, 1) := by decide +kernel
theorem dX11_athlete_37 : decode cX11_athlete 37 = .ok (.iastore, 1) := by decide +kernel
theorem dX11_athlete_38 : decode cX11_athlete 38 = .ok (.aload_n 0, 1) := by decide +kernel
theorem dX11_athlete_39 : decode cX11_athlete 39 = .ok (.getfield 12, 3) := by decide +kernel
theorem dX11_athlete_42 : decode cX11_athlete 42 = .ok (.iload_n 2, 1) := by decide +kernel
theorem dX11_athlete_43 : decode cX11_athlete 43 = .ok (.iconst 1, 1) := by decide +kernel
theorem dX11_athlete_44 : decode cX11_athlete 44 = .ok (.iadd, 1) := by decide +kernel
theorem dX11_athlete_45 : decode cX11_athlete 45 = .ok (.putfield 78, 3) := by decide +kernel
theorem dX11_athlete_48 : decode cX11_athlete 48 = .ok (.iload_n 2, 1) := by decide +kernel
theorem dX11_athlete_49 : decode cX11_athlete 49 = .ok (.ireturn, 1) := by decide +kernel
theorem dX11_event_0 : decode cX11_event 0 = .ok (.iload_n 1, 1) := by decide +kernel
theorem dX11_event_1 : decode cX11_event 1 = .ok (.bipush 114, 2) := by decide +kernel
theorem dX11_event_3 : decode cX11_event 3 = .ok (.if_icmp .eq 25, 3) := by decide +kernel
theorem dX11_event_6 : decode cX11_event 6 = .ok (.iload_n 1, 1) := by decide +kernel
theorem dX11_event_7 : decode cX11_event 7 = .ok (.bipush 106, 2) := by decide +kernel
theorem dX11_event_9 : decode cX11_event 9 = .ok (.if_icmp .eq 19, 3) := by decide +kernel
theorem dX11_event_12 : decode cX11_event 12 = .ok (.iload_n 1, 1) := by decide +kernel
theorem dX11_event_13 : decode cX11_event 13 = .ok (.bipush 116, 2) := by decide +kernel
theorem dX11_event_15 : decode cX11_event 15 = .ok (.if_icmp .eq 13, 3) := by decide +kernel
theorem dX11_event_18 : decode cX11_event 18 = .ok (.new 92, 3) := by decide +kernel
theorem dX11_event_21 : decode cX11_event 21 = .ok (.dup, 1) := by decide +kernel
theorem dX11_event_22 : decode cX11_event 22 = .ok (.ldc 94, 2) := by decide +kernel
theorem dX11_event_24 : decode cX11_event 24 = .ok (.invokespecial 96, 3) := by decide +kernel
theorem dX11_event_27 : decode cX11_event 27 = .ok (.athrow, 1) := by decide +kernel
theorem dX11_event_28 : decode cX11_event 28 = .ok (.iload_n 2, 1) := by decide +kernel
theorem dX11_event_29 : decode cX11_event 29 = .ok (.iconst 1, 1) := by decide +kernel
theorem dX11_event_30 : decode cX11_event 30 = .ok (.ldc 97, 2) := by decide +kernel
theorem dX11_event_32 : decode cX11_event 32 = .ok (.invokestatic 98, 3) := by decide +kernel
theorem dX11_event_35 : decode cX11_event 35 = .ok (.iload_n 3, 1) := by decide +kernel
theorem dX11_event_36 : decode cX11_event 36 = .ok (.iconst 1, 1) := by decide +kernel
theorem dX11_event_37 : decode cX11_event 37 = .ok (.iconst 5, 1) := by decide +kernel
theorem dX11_event_38 : decode cX11_event 38 = .ok (.invokestatic 98, 3) := by decide +kernel
theorem dX11_event_41 : decode cX11_event 41 = .ok (.iload 4, 2) := by decide +kernel
theorem dX11_event_43 : decode cX11_event 43 = .ok (.iconst 2, 1) := by decide +kernel
theorem dX11_event_44 : decode cX11_event 44 = .ok (.bipush 24, 2) := by decide +kernel
theorem dX11_event_46 : decode cX11_event 46 = .ok (.invokestatic 98, 3) := by decide +kernel
theorem dX11_event_49 : decode cX11_event 49 = .ok (.aload_n 0, 1) := by decide +kernel
theorem dX11_event_50 : decode cX11_event 50 = .ok (.getfield 64, 3) := by decide +kernel
theorem dX11_event_53 : decode cX11_event 53 = .ok (.istore 5, 2) := by decide +kernel
theorem dX11_event_55 : decode cX11_event 55 = .ok (.iload 5, 2) := by decide +kernel
theorem dX11_event_57 : decode cX11_event 57 = .ok (.iconst 5, 1) := by decide +kernel
theorem dX11_event_58 : decode cX11_event 58 = .ok (.if_icmp .lt 13, 3) := by decide +kernel
theorem dX11_event_71 : decode cX11_event 71 = .ok (.aload_n 0, 1) := by decide +kernel
theorem dX11_event_72 : decode cX11_event 72 = .ok (.getfield 18, 3) := by decide +kernel
theorem dX11_event_75 : decode cX11_event 75 = .ok (.iload 5, 2) := by decide +kernel
theorem dX11_event_77 : decode cX11_event 77 = .ok (.new 16, 3) := by decide +kernel
theorem dX11_event_80 : decode cX11_event 80 = .ok (.dup, 1) := by decide +kernel
theorem dX11_event_81 : decode cX11_event 81 = .ok (.iload 5, 2) := by decide +kernel
theorem dX11_event_83 : decode cX11_event 83 = .ok (.iload_n 1, 1) := by decide +kernel
theorem dX11_event_84 : decode cX11_event 84 = .ok (.iload_n 2, 1) := by decide +kernel
theorem dX11_event_85 : decode cX11_event 85 = .ok (.iload_n 3, 1) := by decide +kernel
theorem dX11_event_86 : decode cX11_event 86 = .ok (.iload 4, 2) := by decide +kernel
theorem dX11_event_88 : decode cX11_event 88 = .ok (.invokespecial 104, 3) := by decide +kernel
theorem dX11_event_91 : decode cX11_event 91 = .ok (.aastore, 1) := by decide +kernel
theorem dX11_event_92 : decode cX11_event 92 = .ok (.aload_n 0, 1) := by decide +kernel
theorem dX11_event_93 : decode cX11_event 93 = .ok (.iload 5, 2) := by decide +kernel
theorem dX11_event_95 : decode cX11_event 95 = .ok (.iconst 1, 1) := by decide +kernel
theorem dX11_event_96 : decode cX11_event 96 = .ok (.iadd, 1) := by decide +kernel
theorem dX11_event_97 : decode cX11_event 97 = .ok (.putfield 64, 3) := by decide +kernel
theorem dX11_event_100 : decode cX11_event 100 = .ok (.iload 5, 2) := by decide +kernel
theorem dX11_event_102 : decode cX11_event 102 = .ok (.ireturn, 1) := by decide +kernel
def zX11_athlete_ws : List Cond := .code yX11_athlete cX11_athlete 3 (some .int) :: ([.methodLink RX11 74 yX11_requireNation, .static yX11_requireNation, .initialized RX11, .fieldLink RX11 12 "HeatStadium" "athletes" "LHeatStadium$Athletes;"] ++ (zrn1 ++ (wsX110 ++ (wsX00 ++ ([])))))
theorem zX11_athlete_ws_good : zX11_athlete_ws.all goodWord = true := by decide +kernel
set_option maxHeartbeats 4000000 in
set_option maxRecDepth 100000 in
/-- the first athlete: 0 -/
theorem c_athlete_ok (l : Launch) (hst : l.stackTraces = false) (D : va_G) (sz : Nat) (h0 : Nat) (a : Nat → Nat) (a1 a2 cN : Nat) (fn : Nat → Int32) (x1 : Int32) (h : zin x1 0 7 = 1) : Met l yX11_athlete zX11_athlete_ws (zR 3 0 0) (zPre [.ref h0, .int x1] D [(h0, .inr (17, zHS a)), ((a 0), .inr (6, [.ref a1, .ref a2, .int 0])), (a1, .inl (cN, 30, .inl fn))] [(cN, .int)] (va_A [(h0, .inr (17, zHS a)), ((a 0), .inr (6, [.ref a1, .ref a2, .int 0])), (a1, .inl (cN, 30, .inl fn))] sz) sz) (va_Qi (S := Unit) (fun r _ => r = 0) (fun _ t => zAt D [] [] (va_A [(h0, .inr (17, zHS a)), ((a 0), .inr (6, [.ref a1, .ref a2, .int 0])), (a1, .inl (cN, 30, .inl fn))] sz) t) (va_A [(h0, .inr (17, zHS a)), ((a 0), .inr (6, [.ref a1, .ref a2, .int 0])), (a1, .inl (cN, 30, .inl fn))] sz)) 0 0 (va_A [(h0, .inr (17, zHS a)), ((a 0), .inr (6, [.ref a1, .ref a2, .int 0])), (a1, .inl (cN, 30, .inl fn))] sz) := by
  refine Met.ofW (cc := cX11_athlete) (maxL := 3) (ret := (some .int)) (by decide) rfl ?_
  intro p e s m args below meth c s₁ B hml hv
  obtain ⟨rfl, hsz, hP, hK, hD0, hz⟩ := hv
  have hx := B.exec
  have hb := B.bytes
  have hr := B.returns
  have hts := atoms_spec (ws := zX11_athlete_ws) B.pre
  have hown : s.vm.findClass RX11 = some m.cls := findClass_of_methodNamed B.named
  have hlocks := B.notSynchronized
  subst hsz
  have hD := hD0.self (sz := s.heap.size)
  generalize hAe : va_A [(h0, .inr (17, zHS a)), ((a 0), .inr (6, [.ref a1, .ref a2, .int 0])), (a1, .inl (cN, 30, .inl fn))] s.heap.size = A at hD hz ⊢
  have hA : ∀ q : Nat, s.heap.size ≤ q → A q := fun q h => by rw [← hAe]; exact Or.inr h
  have hS : va_S A s.heap s.heap [] := va_S.rf
  have hP : va_P D vwCl [(h0, .inr (17, zHS a)), ((a 0), .inr (6, [.ref a1, .ref a2, .int 0])), (a1, .inl (cN, 30, .inl fn))] s.heap := hP
  have hl := lv_entry ([.ref h0, .int x1]) (n := 3) (Nat.le_of_ble_eq_true rfl)
  rw [lg_entry_eq]
  generalize (lg_sl ([.ref h0, .int x1]) ++ List.replicate (3 - (lg_sl ([.ref h0, .int x1])).length) Slot.unset).toArray = ls at hl ⊢
  have hl : lv_has ls 3 [(0, .ref h0), (1, .int x1)] := hl
  refine lv_iload_n hx hb dX11_athlete_0 rfl (lv_at hl 1 rfl) ?_
  have hPc := hP.sub (ws' := []) [] rfl
  have hDc := hD.sub (ws' := []) [] (by decide) rfl
  have hKc := hK.sub (tys' := []) [] rfl
  have hFc : ∀ q : Nat, s.heap.size ≤ q → A q := fun q h => hA q (Nat.le_trans hS.1 h)
  refine va_callv (va_runS (As := [.int x1]) (rest := []) ⟨hx, hb, hml, hown, hts⟩ (c_requireNation_ok l hst D s.heap.size x1 h) (cwS 1 hts (goodIn_app (goodIn_of _ (by decide +kernel)) (goodIn_sub (fun _ h => List.mem_cons_of_mem _ (List.mem_append_right _ (List.mem_append_left _ h))) zrn1_good)) rfl rfl rfl (by decide +kernel) ⟨Nat.le_of_ble_eq_true rfl, Nat.le_of_ble_eq_true rfl⟩) ⟨zPre.blind, zPre.mk hPc hKc hDc hz hS (fun q h => hFc q h)⟩ rfl rfl hl.1 rfl (lv_room (Nat.le_of_ble_eq_true rfl)) dX11_athlete_1 ⟨Nat.le_of_ble_eq_true rfl, Nat.le_of_ble_eq_true rfl⟩) hS (fun q _ h => hFc q h) (fun q h => hFc q h) (fun u t H1 locs ht9 hvm hw hB hz1 hk1 hS => ?_)
  refine W.widen (k := 0) (n := 0) (by omega) (by omega) ?_
  have hP := zKeep hP hk1
  generalize H1 = H at hP hS ⊢
  have hP : va_P D vwCl [(h0, .inr (17, zHS a)), ((a 0), .inr (6, [.ref a1, .ref a2, .int 0])), (a1, .inl (cN, 30, .inl fn))] H := hP
  refine lv_aload_n hx hb dX11_athlete_4 rfl (lv_at hl 0 rfl) ?_
  refine va_get (D := D) (ci := 17) (v := .ref (a 0)) (C := RX11) (T := TX11) (N := 11) hx hb hts (by decide +kernel) hown hK hP 0 rfl rfl 0 (by decide) (hts (.fieldLink RX11 12 "HeatStadium" "athletes" "LHeatStadium$Athletes;") (by decide +kernel)) (fun _ h9 => h9) rfl dX11_athlete_5 ?_
  refine va_getN (D := D) (ci := 6) (v := .int 0) (C := RX0) (T := TX0) (N := 3) hx hb hts (by decide +kernel) hown hK hP 1 rfl rfl 2 (by decide) (hz.w (.fieldLinkNest RX11 78 "HeatStadium$Athletes" "count" "I" RX11) (by decide +kernel)) (fun _ h9 => h9) rfl dX11_athlete_8 ?_
  refine lv_istore_n (lv' := [(2, .int 0), (0, .ref h0), (1, .int x1)]) hx hb dX11_athlete_11 rfl hl (by decide) rfl (fun ls hl => ?_)
  refine lv_iload_n hx hb dX11_athlete_12 rfl (lv_at hl 0 rfl) ?_
  refine lv_bipush (v := 30) hx hb dX11_athlete_13 (by decide) ?_
  refine lv_icmp_lt (tgt := 28) hx hb dX11_athlete_15 (by decide) (fun _ => ?_) (fun c => absurd (by decide) c)
  refine lv_aload_n hx hb dX11_athlete_28 rfl (lv_at hl 1 rfl) ?_
  refine va_get (D := D) (ci := 17) (v := .ref (a 0)) (C := RX11) (T := TX11) (N := 11) hx hb hts (by decide +kernel) hown hK hP 0 rfl rfl 0 (by decide) (hts (.fieldLink RX11 12 "HeatStadium" "athletes" "LHeatStadium$Athletes;") (by decide +kernel)) (fun _ h9 => h9) rfl dX11_athlete_29 ?_
  refine va_getN (D := D) (ci := 6) (v := .ref a1) (C := RX0) (T := TX0) (N := 3) hx hb hts (by decide +kernel) hown hK hP 1 rfl rfl 0 (by decide) (hz.w (.fieldLinkNest RX11 88 "HeatStadium$Athletes" "nations" "[I" RX11) (by decide +kernel)) (fun _ h9 => h9) rfl dX11_athlete_32 ?_
  refine lv_iload_n hx hb dX11_athlete_35 rfl (lv_at hl 0 rfl) ?_
  refine lv_iload_n hx hb dX11_athlete_36 rfl (lv_at hl 2 rfl) ?_
  refine va_iast hx hb hK hP hD hS 2 0 rfl rfl (show vp_in 0 30 by unfold vp_in; decide) dX11_athlete_37 (fun H locs hP hD hS => ?_)
  have hP : va_P D vwCl [(h0, .inr (17, zHS a)), ((a 0), .inr (6, [.ref a1, .ref a2, .int 0])), (a1, .inl (cN, 30, .inl (upd fn (0 : Int32).toNatClampNeg x1)))] H := hP
  have hD : va_D A [(h0, .inr (17, zHS a)), ((a 0), .inr (6, [.ref a1, .ref a2, .int 0])), (a1, .inl (cN, 30, .inl (upd fn (0 : Int32).toNatClampNeg x1)))] := hD
  refine lv_aload_n hx hb dX11_athlete_38 rfl (lv_at hl 1 rfl) ?_
  refine va_get (D := D) (ci := 17) (v := .ref (a 0)) (C := RX11) (T := TX11) (N := 11) hx hb hts (by decide +kernel) hown hK hP 0 rfl rfl 0 (by decide) (hts (.fieldLink RX11 12 "HeatStadium" "athletes" "LHeatStadium$Athletes;") (by decide +kernel)) (fun _ h9 => h9) rfl dX11_athlete_39 ?_
  refine lv_iload_n hx hb dX11_athlete_42 rfl (lv_at hl 0 rfl) ?_
  refine lv_iconst (v := 1) hx hb dX11_athlete_43 (by decide) ?_
  refine lv_iadd hx hb dX11_athlete_44 ?_
  refine lv_topi (fun z1 ez1 => ?_)
  obtain rfl : z1 = 1 := ez1.trans (by decide)
  refine va_putN (D := D) (ci := 6) (v := .int 1) (ty := .int) (C := RX0) (T := TX0) (N := 3) hx hb hts (by decide +kernel) tyX0 tyX0_ok nmX0 hown hK hP hD hS 1 rfl rfl 2 (by decide) (hz.w (.fieldLinkNest RX11 78 "HeatStadium$Athletes" "count" "I" RX11) (by decide +kernel)) (fun _ h9 => h9) rfl (by decide +kernel) rfl rfl (Nat.le_of_ble_eq_true rfl) dX11_athlete_45 (fun H locs hP hD hS => ?_)
  have hP : va_P D vwCl [(h0, .inr (17, zHS a)), ((a 0), .inr (6, [.ref a1, .ref a2, .int 1])), (a1, .inl (cN, 30, .inl (upd fn (0 : Int32).toNatClampNeg x1)))] H := hP
  have hD : va_D A [(h0, .inr (17, zHS a)), ((a 0), .inr (6, [.ref a1, .ref a2, .int 1])), (a1, .inl (cN, 30, .inl (upd fn (0 : Int32).toNatClampNeg x1)))] := hD
  refine lv_iload_n hx hb dX11_athlete_48 rfl (lv_at hl 0 rfl) ?_
  have hP9 := hP.sub (ws' := []) [] rfl
  have hD9 := hD.sub (ws' := []) [] (by decide) rfl
  have hK9 := hK.sub (tys' := []) [] rfl
  rw [← hAe] at hD9
  refine W.widen (k := 0) (n := 0) (by omega) (by omega) ?_
  subst hAe
  exact W.iret (v := 0) hx hb hr (fun t ht9 hW => ⟨⟨0, (), rfl, rfl, ⟨by rw [ht9]; exact hP9, va_K.moved hW.alike hK9, hD9⟩⟩, hS.F ht9⟩) hS.2.2 dX11_athlete_49

def zX1_init_ws : List Cond := .code yX1_init cX1_init 6 none :: ([.methodLink RX1 3 objectInit, .instanceMethod objectInit, .code objectInit ⟨#[0xb1]⟩ 1 none, .arrayClass .int, .fieldLink RX1 9 "HeatStadium$Event" "bests" "[I", .arrayClass .boolean, .fieldLink RX1 15 "HeatStadium$Event" "withdrawn" "[Z", .classLink RX1 19 RX9, .instantiable RX9 6, .initialized RX9, .instanceMethod yX9_init, .fieldLink RX1 22 "HeatStadium$Event" "heatMarks" "LHeatStadium$Round;", .fieldLink RX1 26 "HeatStadium$Event" "finalMarks" "LHeatStadium$Round;", .classLink RX1 29 RX3, .instantiable RX3 6, .initialized RX3, .instanceMethod yX3_init, .fieldLink RX1 32 "HeatStadium$Event" "jumps" "LHeatStadium$Jumps;", .classLink RX1 36 RX10, .instantiable RX10 3, .initialized RX10, .instanceMethod yX10_init, .fieldLink RX1 39 "HeatStadium$Event" "series" "LHeatStadium$Throws;", .fieldLink RX1 43 "HeatStadium$Event" "number" "I", .fieldLink RX1 47 "HeatStadium$Event" "kind" "C", .fieldLink RX1 51 "HeatStadium$Event" "standard" "I", .fieldLink RX1 54 "HeatStadium$Event" "quota" "I", .fieldLink RX1 57 "HeatStadium$Event" "limit" "I"] ++ (wsX10 ++ (wsX90 ++ (zX9_init_ws ++ (wsX30 ++ (zX3_init_ws ++ (wsX100 ++ (zX10_init_ws ++ ([])))))))))
theorem zX1_init_ws_good : zX1_init_ws.all goodWord = true := by decide +kernel
set_option maxHeartbeats 4000000 in
set_option maxRecDepth 100000 in
/-- a new event -/
theorem c_Event (l : Launch) (hst : l.stackTraces = false) (D : va_G) (sz : Nat) (h : Nat) (x1 x2 x3 x4 x5 : Int32) (hkn : narrow .char (.int x2) = .int x2) (hkf : fits .char (.int x2) = true) : Met l yX1_init zX1_init_ws (zR 1 150 1700) (zPre [.ref h, .int x1, .int x2, .int x3, .int x4, .int x5] D [(h, .inr (7, [.int 0, .int 0, .int 0, .int 0, .int 0, .null, .null, .null, .null, .null, .null, .int 0, .int 0]))] [] (va_A [(h, .inr (7, [.int 0, .int 0, .int 0, .int 0, .int 0, .null, .null, .null, .null, .null, .null, .int 0, .int 0]))] sz) sz) (va_Qv (S := Unit) (fun _ => True) (fun _ t => ∃ (e1 e2 e3 e4 e5 e6 : Nat), zAt D [(h, .inr (7, [.int x1, .int x2, .int x3, .int x4, .int x5, .ref e1, .ref e2, .ref e3, .ref e4, .ref e5, .ref e6, .int 0, .int 0]))] [] (va_A [(h, .inr (7, [.int 0, .int 0, .int 0, .int 0, .int 0, .null, .null, .null, .null, .null, .null, .int 0, .int 0]))] sz) t) (va_A [(h, .inr (7, [.int 0, .int 0, .int 0, .int 0, .int 0, .null, .null, .null, .null, .null, .null, .int 0, .int 0]))] sz)) 150 1700 (va_A [(h, .inr (7, [.int 0, .int 0, .int 0, .int 0, .int 0, .null, .null, .null, .null, .null, .null, .int 0, .int 0]))] sz) := by
  refine Met.ofW (cc := cX1_init) (maxL := 6) (ret := none) (by decide) rfl ?_
  intro p e s m args below meth c s₁ B hml hv
  obtain ⟨rfl, hsz, hP, hK, hD0, hz⟩ := hv
  have hx := B.exec
  have hb := B.bytes
  have hr := B.returns
  have hts := atoms_spec (ws := zX1_init_ws) B.pre
  have hown : s.vm.findClass RX1 = some m.cls := findClass_of_methodNamed B.named
  have hlocks := B.notSynchronized
  have hin : meth.name = "<init>" := (name_of_methodNamed B.named B.method).1
  subst hsz
  have hD := hD0.self (sz := s.heap.size)
  generalize hAe : va_A [(h, .inr (7, [.int 0, .int 0, .int 0, .int 0, .int 0, .null, .null, .null, .null, .null, .null, .int 0, .int 0]))] s.heap.size = A at hD hz ⊢
  have hA : ∀ q : Nat, s.heap.size ≤ q → A q := fun q h => by rw [← hAe]; exact Or.inr h
  have hS : va_S A s.heap s.heap [] := va_S.rf
  have hP : va_P D vwCl [(h, .inr (7, [.int 0, .int 0, .int 0, .int 0, .int 0, .null, .null, .null, .null, .null, .null, .int 0, .int 0]))] s.heap := hP
  have hl := lv_entry ([.ref h, .int x1, .int x2, .int x3, .int x4, .int x5]) (n := 6) (Nat.le_of_ble_eq_true rfl)
  rw [lg_entry_eq]
  generalize (lg_sl ([.ref h, .int x1, .int x2, .int x3, .int x4, .int x5]) ++ List.replicate (6 - (lg_sl ([.ref h, .int x1, .int x2, .int x3, .int x4, .int x5])).length) Slot.unset).toArray = ls at hl ⊢
  have hl : lv_has ls 6 [(0, .ref h), (1, .int x1), (2, .int x2), (3, .int x3), (4, .int x4), (5, .int x5)] := hl
  refine lv_aload_n hx hb dX1_init_0 rfl (lv_at hl 0 rfl) ?_
  refine W.objInit hx hb hown (hts (.methodLink RX1 3 objectInit) (by decide +kernel)) (hts (.instanceMethod objectInit) (by decide +kernel)) (hts (.code objectInit ⟨#[0xb1]⟩ 1 none) (by decide +kernel)) rfl (by rw [hml]; exact hl.1) rfl dX1_init_1 (Nat.le_of_ble_eq_true rfl) (Nat.le_of_ble_eq_true rfl) ?_
  refine W.eq (g2 := F0 m 4 ls []) rfl ?_
  refine lv_aload_n hx hb dX1_init_4 rfl (lv_at hl 0 rfl) ?_
  refine lv_bipush (v := 30) hx hb dX1_init_5 (by decide) ?_
  refine va_newa (atype := .int) (ty := .int) (a0 := (30, .inl (fun _ => 0))) hx hb (hts (.arrayClass .int) (by decide +kernel)) rfl hK hP hD hS hA (fun _ => rfl) (by decide) (by decide) (Nat.le_of_ble_eq_true rfl) (Nat.le_of_ble_eq_true rfl) (Nat.le_of_ble_eq_true rfl) dX1_init_7 (fun q1 cA2 H hK hP hD hS => ?_)
  have hP : va_P D vwCl [(h, .inr (7, [.int 0, .int 0, .int 0, .int 0, .int 0, .null, .null, .null, .null, .null, .null, .int 0, .int 0])), (q1, .inl (cA2, 30, .inl (fun _ => 0)))] H := hP
  have hD : va_D A [(h, .inr (7, [.int 0, .int 0, .int 0, .int 0, .int 0, .null, .null, .null, .null, .null, .null, .int 0, .int 0])), (q1, .inl (cA2, 30, .inl (fun _ => 0)))] := hD
  have hK : va_K D vwCl [(cA2, .int)] s := hK
  refine W.widen (k := 1) (n := 30) (by omega) (by omega) ?_
  refine va_putF (D := D) (ci := 7) (v := .ref q1) (ty := .array .int) (C := RX1) (T := TX1) (N := 13) hx hb hts (by decide +kernel) tyX1 tyX1_ok nmX1 hown hK hP hD hS 0 rfl rfl 5 (by decide) (hts (.fieldLink RX1 9 "HeatStadium$Event" "bests" "[I") (by decide +kernel)) (fun _ h9 => h9) rfl hin rfl (by decide +kernel) rfl rfl (Nat.le_of_ble_eq_true rfl) dX1_init_9 (fun H locs hP hD hS => ?_)
  have hP : va_P D vwCl [(h, .inr (7, [.int 0, .int 0, .int 0, .int 0, .int 0, .ref q1, .null, .null, .null, .null, .null, .int 0, .int 0])), (q1, .inl (cA2, 30, .inl (fun _ => 0)))] H := hP
  have hD : va_D A [(h, .inr (7, [.int 0, .int 0, .int 0, .int 0, .int 0, .ref q1, .null, .null, .null, .null, .null, .int 0, .int 0])), (q1, .inl (cA2, 30, .inl (fun _ => 0)))] := hD
  refine lv_aload_n hx hb dX1_init_12 rfl (lv_at hl 0 rfl) ?_
  refine lv_bipush (v := 30) hx hb dX1_init_13 (by decide) ?_
  refine va_newa (atype := .boolean) (ty := .boolean) (a0 := (30, .inl (fun _ => 0))) hx hb (hts (.arrayClass .boolean) (by decide +kernel)) rfl hK hP hD hS hA (fun _ => rfl) (by decide) (by decide) (Nat.le_of_ble_eq_true rfl) (Nat.le_of_ble_eq_true rfl) (Nat.le_of_ble_eq_true rfl) dX1_init_15 (fun q3 cA4 H hK hP hD hS => ?_)
  have hP : va_P D vwCl [(h, .inr (7, [.int 0, .int 0, .int 0, .int 0, .int 0, .ref q1, .null, .null, .null, .null, .null, .int 0, .int 0])), (q1, .inl (cA2, 30, .inl (fun _ => 0))), (q3, .inl (cA4, 30, .inl (fun _ => 0)))] H := hP
  have hD : va_D A [(h, .inr (7, [.int 0, .int 0, .int 0, .int 0, .int 0, .ref q1, .null, .null, .null, .null, .null, .int 0, .int 0])), (q1, .inl (cA2, 30, .inl (fun _ => 0))), (q3, .inl (cA4, 30, .inl (fun _ => 0)))] := hD
  have hK : va_K D vwCl [(cA2, .int), (cA4, .boolean)] s := hK
  refine W.widen (k := 2) (n := 60) (by omega) (by omega) ?_
  refine va_putF (D := D) (ci := 7) (v := .ref q3) (ty := .array .boolean) (C := RX1) (T := TX1) (N := 13) hx hb hts (by decide +kernel) tyX1 tyX1_ok nmX1 hown hK hP hD hS 0 rfl rfl 6 (by decide) (hts (.fieldLink RX1 15 "HeatStadium$Event" "withdrawn" "[Z") (by decide +kernel)) (fun _ h9 => h9) rfl hin rfl (by decide +kernel) rfl rfl (Nat.le_of_ble_eq_true rfl) dX1_init_17 (fun H locs hP hD hS => ?_)
  have hP : va_P D vwCl [(h, .inr (7, [.int 0, .int 0, .int 0, .int 0, .int 0, .ref q1, .ref q3, .null, .null, .null, .null, .int 0, .int 0])), (q1, .inl (cA2, 30, .inl (fun _ => 0))), (q3, .inl (cA4, 30, .inl (fun _ => 0)))] H := hP
  have hD : va_D A [(h, .inr (7, [.int 0, .int 0, .int 0, .int 0, .int 0, .ref q1, .ref q3, .null, .null, .null, .null, .int 0, .int 0])), (q1, .inl (cA2, 30, .inl (fun _ => 0))), (q3, .inl (cA4, 30, .inl (fun _ => 0)))] := hD
  refine lv_aload_n hx hb dX1_init_20 rfl (lv_at hl 0 rfl) ?_
  refine va_new (ci := 15) (fs := [.null, .null, .null, .null, .null, .null]) (C := RX9) (T := TX9) (N := 6) hx hb hts (by decide +kernel) tyX9 tyX9_ok hown (hts (.classLink RX1 19 RX9) (by decide +kernel)) (hts (.instantiable RX9 6) (by decide +kernel)) (hts (.initialized RX9) (by decide +kernel)) hK hP hD hS hA rfl (fun j hj => by rcases (show j = 0 ∨ j = 1 ∨ j = 2 ∨ j = 3 ∨ j = 4 ∨ j = 5 by omega) with rfl | rfl | rfl | rfl | rfl | rfl <;> rfl) (Nat.le_of_ble_eq_true rfl) (Nat.le_of_ble_eq_true rfl) dX1_init_21 (fun q5 H hP hD hS => ?_)
  have hP : va_P D vwCl [(h, .inr (7, [.int 0, .int 0, .int 0, .int 0, .int 0, .ref q1, .ref q3, .null, .null, .null, .null, .int 0, .int 0])), (q1, .inl (cA2, 30, .inl (fun _ => 0))), (q3, .inl (cA4, 30, .inl (fun _ => 0))), (q5, .inr (15, [.null, .null, .null, .null, .null, .null]))] H := hP
  have hD : va_D A [(h, .inr (7, [.int 0, .int 0, .int 0, .int 0, .int 0, .ref q1, .ref q3, .null, .null, .null, .null, .int 0, .int 0])), (q1, .inl (cA2, 30, .inl (fun _ => 0))), (q3, .inl (cA4, 30, .inl (fun _ => 0))), (q5, .inr (15, [.null, .null, .null, .null, .null, .null]))] := hD
  refine W.widen (k := 3) (n := 66) (by omega) (by omega) ?_
  refine lv_dup hx hb dX1_init_24 rfl ?_
  have hPc := hP.sub (ws' := [(q5, .inr (15, [.null, .null, .null, .null, .null, .null]))]) [3] rfl
  have hDc := hD.sub (ws' := [(q5, .inr (15, [.null, .null, .null, .null, .null, .null]))]) [3] (by decide) rfl
  have hKc := hK.sub (tys' := []) [] rfl
  have hFc := va_free (wc := [(q5, .inr (15, [.null, .null, .null, .null, .null, .null]))]) hD hS hA [3] rfl
  refine va_callv (va_runIN (As := []) (rest := [.ref q5, .ref h]) ⟨hx, hb, hml, hown, hts⟩ (c_X9_init l hst D H.size q5) ⟨va_cnB 0 hts (goodIn_sub (fun _ h => List.mem_cons_of_mem _ (List.mem_append_right _ (List.mem_append_right _ (List.mem_append_right _ (List.mem_append_left _ h))))) zX9_init_ws_good) rfl rfl rfl (hz.2.2.1 (.methodLinkNest RX1 21 yX9_init RX11) (by decide +kernel)) (hts (.initialized RX9) (by decide +kernel)) (by decide +kernel) ⟨Nat.le_of_ble_eq_true rfl, Nat.le_of_ble_eq_true rfl⟩, rfl, (hts (.instanceMethod yX9_init) (by decide +kernel))⟩ ⟨zPre.blind, zPre.mk hPc hKc hDc hz hS (fun q h => hFc q h)⟩ rfl rfl hl.1 rfl (lv_room (Nat.le_of_ble_eq_true rfl)) dX1_init_25 ⟨Nat.le_of_ble_eq_true rfl, Nat.le_of_ble_eq_true rfl⟩) hS (fun q _ h => hFc q h) (fun q h => hFc q h) (fun u t H1 locs ht9 hvm hw hB hz1 hk1 hS => ?_)
  refine W.widen (k := 9) (n := 246) (by omega) (by omega) ?_
  obtain ⟨hP1, hK1, hD1⟩ := hB
  rw [ht9] at hP1
  have hK1 := va_K.moved hvm.symm hK1
  obtain ⟨hP, hD⟩ := va_join (wr := [(h, .inr (7, [.int 0, .int 0, .int 0, .int 0, .int 0, .ref q1, .ref q3, .null, .null, .null, .null, .int 0, .int 0])), (q1, .inl (cA2, 30, .inl (fun _ => 0))), (q3, .inl (cA4, 30, .inl (fun _ => 0)))]) (w1 := []) hP hD [3] [0, 1, 2] rfl rfl (by decide) (by decide) hk1 hFc hP1 hD1
  have hK := (hK.sub (tys' := [(cA2, .int), (cA4, .boolean)]) [0, 1] rfl).app hK1
  generalize H1 = H at hP hS ⊢
  have hP : va_P D vwCl [(h, .inr (7, [.int 0, .int 0, .int 0, .int 0, .int 0, .ref q1, .ref q3, .null, .null, .null, .null, .int 0, .int 0])), (q1, .inl (cA2, 30, .inl (fun _ => 0))), (q3, .inl (cA4, 30, .inl (fun _ => 0)))] H := hP
  have hD : va_D A [(h, .inr (7, [.int 0, .int 0, .int 0, .int 0, .int 0, .ref q1, .ref q3, .null, .null, .null, .null, .int 0, .int 0])), (q1, .inl (cA2, 30, .inl (fun _ => 0))), (q3, .inl (cA4, 30, .inl (fun _ => 0)))] := hD
  have hK : va_K D vwCl [(cA2, .int), (cA4, .boolean)] s := hK
  refine va_putF (D := D) (ci := 7) (v := .ref q5) (ty := .object "HeatStadium$Round") (C := RX1) (T := TX1) (N := 13) hx hb hts (by decide +kernel) tyX1 tyX1_ok nmX1 hown hK hP hD hS 0 rfl rfl 7 (by decide) (hts (.fieldLink RX1 22 "HeatStadium$Event" "heatMarks" "LHeatStadium$Round;") (by decide +kernel)) (fun _ h9 => h9) rfl hin rfl (by decide +kernel) rfl rfl (Nat.le_of_ble_eq_true rfl) dX1_init_28 (fun H locs hP hD hS => ?_)
  have hP : va_P D vwCl [(h, .inr (7, [.int 0, .int 0, .int 0, .int 0, .int 0, .ref q1, .ref q3, .ref q5, .null, .null, .null, .int 0, .int 0])), (q1, .inl (cA2, 30, .inl (fun _ => 0))), (q3, .inl (cA4, 30, .inl (fun _ => 0)))] H := hP
  have hD : va_D A [(h, .inr (7, [.int 0, .int 0, .int 0, .int 0, .int 0, .ref q1, .ref q3, .ref q5, .null, .null, .null, .int 0, .int 0])), (q1, .inl (cA2, 30, .inl (fun _ => 0))), (q3, .inl (cA4, 30, .inl (fun _ => 0)))] := hD
  refine lv_aload_n hx hb dX1_init_31 rfl (lv_at hl 0 rfl) ?_
  refine va_new (ci := 15) (fs := [.null, .null, .null, .null, .null, .null]) (C := RX9) (T := TX9) (N := 6) hx hb hts (by decide +kernel) tyX9 tyX9_ok hown (hts (.classLink RX1 19 RX9) (by decide +kernel)) (hts (.instantiable RX9 6) (by decide +kernel)) (hts (.initialized RX9) (by decide +kernel)) hK hP hD hS hA rfl (fun j hj => by rcases (show j = 0 ∨ j = 1 ∨ j = 2 ∨ j = 3 ∨ j = 4 ∨ j = 5 by omega) with rfl | rfl | rfl | rfl | rfl | rfl <;> rfl) (Nat.le_of_ble_eq_true rfl) (Nat.le_of_ble_eq_true rfl) dX1_init_32 (fun q6 H hP hD hS => ?_)
  have hP : va_P D vwCl [(h, .inr (7, [.int 0, .int 0, .int 0, .int 0, .int 0, .ref q1, .ref q3, .ref q5, .null, .null, .null, .int 0, .int 0])), (q1, .inl (cA2, 30, .inl (fun _ => 0))), (q3, .inl (cA4, 30, .inl (fun _ => 0))), (q6, .inr (15, [.null, .null, .null, .null, .null, .null]))] H := hP
  have hD : va_D A [(h, .inr (7, [.int 0, .int 0, .int 0, .int 0, .int 0, .ref q1, .ref q3, .ref q5, .null, .null, .null, .int 0, .int 0])), (q1, .inl (cA2, 30, .inl (fun _ => 0))), (q3, .inl (cA4, 30, .inl (fun _ => 0))), (q6, .inr (15, [.null, .null, .null, .null, .null, .null]))] := hD
  refine W.widen (k := 10) (n := 252) (by omega) (by omega) ?_
  refine lv_dup hx hb dX1_init_35 rfl ?_
  have hPc := hP.sub (ws' := [(q6, .inr (15, [.null, .null, .null, .null, .null, .null]))]) [3] rfl
  have hDc := hD.sub (ws' := [(q6, .inr (15, [.null, .null, .null, .null, .null, .null]))]) [3] (by decide) rfl
  have hKc := hK.sub (tys' := []) [] rfl
  have hFc := va_free (wc := [(q6, .inr (15, [.null, .null, .null, .null, .null, .null]))]) hD hS hA [3] rfl
  refine va_callv (va_runIN (As := []) (rest := [.ref q6, .ref h]) ⟨hx, hb, hml, hown, hts⟩ (c_X9_init l hst D H.size q6) ⟨va_cnB 0 hts (goodIn_sub (fun _ h => List.mem_cons_of_mem _ (List.mem_append_right _ (List.mem_append_right _ (List.mem_append_right _ (List.mem_append_left _ h))))) zX9_init_ws_good) rfl rfl rfl (hz.2.2.1 (.methodLinkNest RX1 21 yX9_init RX11) (by decide +kernel)) (hts (.initialized RX9) (by decide +kernel)) (by decide +kernel) ⟨Nat.le_of_ble_eq_true rfl, Nat.le_of_ble_eq_true rfl⟩, rfl, (hts (.instanceMethod yX9_init) (by decide +kernel))⟩ ⟨zPre.blind, zPre.mk hPc hKc hDc hz hS (fun q h => hFc q h)⟩ rfl rfl hl.1 rfl (lv_room (Nat.le_of_ble_eq_true rfl)) dX1_init_36 ⟨Nat.le_of_ble_eq_true rfl, Nat.le_of_ble_eq_true rfl⟩) hS (fun q _ h => hFc q h) (fun q h => hFc q h) (fun u t H1 locs ht9 hvm hw hB hz1 hk1 hS => ?_)
  refine W.widen (k := 16) (n := 432) (by omega) (by omega) ?_
  obtain ⟨hP1, hK1, hD1⟩ := hB
  rw [ht9] at hP1
  have hK1 := va_K.moved hvm.symm hK1
  obtain ⟨hP, hD⟩ := va_join (wr := [(h, .inr (7, [.int 0, .int 0, .int 0, .int 0, .int 0, .ref q1, .ref q3, .ref q5, .null, .null, .null, .int 0, .int 0])), (q1, .inl (cA2, 30, .inl (fun _ => 0))), (q3, .inl (cA4, 30, .inl (fun _ => 0)))]) (w1 := []) hP hD [3] [0, 1, 2] rfl rfl (by decide) (by decide) hk1 hFc hP1 hD1
  have hK := (hK.sub (tys' := [(cA2, .int), (cA4, .boolean)]) [0, 1] rfl).app hK1
  generalize H1 = H at hP hS ⊢
  have hP : va_P D vwCl [(h, .inr (7, [.int 0, .int 0, .int 0, .int 0, .int 0, .ref q1, .ref q3, .ref q5, .null, .null, .null, .int 0, .int 0])), (q1, .inl (cA2, 30, .inl (fun _ => 0))), (q3, .inl (cA4, 30, .inl (fun _ => 0)))] H := hP
  have hD : va_D A [(h, .inr (7, [.int 0, .int 0, .int 0, .int 0, .int 0, .ref q1, .ref q3, .ref q5, .null, .null, .null, .int 0, .int 0])), (q1, .inl (cA2, 30, .inl (fun _ => 0))), (q3, .inl (cA4, 30, .inl (fun _ => 0)))] := hD
  have hK : va_K D vwCl [(cA2, .int), (cA4, .boolean)] s := hK
  refine va_putF (D := D) (ci := 7) (v := .ref q6) (ty := .object "HeatStadium$Round") (C := RX1) (T := TX1) (N := 13) hx hb hts (by decide +kernel) tyX1 tyX1_ok nmX1 hown hK hP hD hS 0 rfl rfl 8 (by decide) (hts (.fieldLink RX1 26 "HeatStadium$Event" "finalMarks" "LHeatStadium$Round;") (by decide +kernel)) (fun _ h9 => h9) rfl hin rfl (by decide +kernel) rfl rfl (Nat.le_of_ble_eq_true rfl) dX1_init_39 (fun H locs hP hD hS => ?_)
  have hP : va_P D vwCl [(h, .inr (7, [.int 0, .int 0, .int 0, .int 0, .int 0, .ref q1, .ref q3, .ref q5, .ref q6, .null, .null, .int 0, .int 0])), (q1, .inl (cA2, 30, .inl (fun _ => 0))), (q3, .inl (cA4, 30, .inl (fun _ => 0)))] H := hP
  have hD : va_D A [(h, .inr (7, [.int 0, .int 0, .int 0, .int 0, .int 0, .ref q1, .ref q3, .ref q5, .ref q6, .null, .null, .int 0, .int 0])), (q1, .inl (cA2, 30, .inl (fun _ => 0))), (q3, .inl (cA4, 30, .inl (fun _ => 0)))] := hD
  refine lv_aload_n hx hb dX1_init_42 rfl (lv_at hl 0 rfl) ?_
  refine va_new (ci := 9) (fs := [.null, .null, .null, .null, .null, .int 0]) (C := RX3) (T := TX3) (N := 6) hx hb hts (by decide +kernel) tyX3 tyX3_ok hown (hts (.classLink RX1 29 RX3) (by decide +kernel)) (hts (.instantiable RX3 6) (by decide +kernel)) (hts (.initialized RX3) (by decide +kernel)) hK hP hD hS hA rfl (fun j hj => by rcases (show j = 0 ∨ j = 1 ∨ j = 2 ∨ j = 3 ∨ j = 4 ∨ j = 5 by omega) with rfl | rfl | rfl | rfl | rfl | rfl <;> rfl) (Nat.le_of_ble_eq_true rfl) (Nat.le_of_ble_eq_true rfl) dX1_init_43 (fun q7 H hP hD hS => ?_)
  have hP : va_P D vwCl [(h, .inr (7, [.int 0, .int 0, .int 0, .int 0, .int 0, .ref q1, .ref q3, .ref q5, .ref q6, .null, .null, .int 0, .int 0])), (q1, .inl (cA2, 30, .inl (fun _ => 0))), (q3, .inl (cA4, 30, .inl (fun _ => 0))), (q7, .inr (9, [.null, .null, .null, .null, .null, .int 0]))] H := hP
  have hD : va_D A [(h, .inr (7, [.int 0, .int 0, .int 0, .int 0, .int 0, .ref q1, .ref q3, .ref q5, .ref q6, .null, .null, .int 0, .int 0])), (q1, .inl (cA2, 30, .inl (fun _ => 0))), (q3, .inl (cA4, 30, .inl (fun _ => 0))), (q7, .inr (9, [.null, .null, .null, .null, .null, .int 0]))] := hD
  refine W.widen (k := 17) (n := 438) (by omega) (by omega) ?_
  refine lv_dup hx hb dX1_init_46 rfl ?_
  have hPc := hP.sub (ws' := [(q7, .inr (9, [.null, .null, .null, .null, .null, .int 0]))]) [3] rfl
  have hDc := hD.sub (ws' := [(q7, .inr (9, [.null, .null, .null, .null, .null, .int 0]))]) [3] (by decide) rfl
  have hKc := hK.sub (tys' := []) [] rfl
  have hFc := va_free (wc := [(q7, .inr (9, [.null, .null, .null, .null, .null, .int 0]))]) hD hS hA [3] rfl
  refine va_callv (va_runIN (As := []) (rest := [.ref q7, .ref h]) ⟨hx, hb, hml, hown, hts⟩ (c_X3_init l hst D H.size q7) ⟨va_cnB 0 hts (goodIn_sub (fun _ h => List.mem_cons_of_mem _ (List.mem_append_right _ (List.mem_append_right _ (List.mem_append_right _ (List.mem_append_right _ (List.mem_append_right _ (List.mem_append_left _ h))))))) zX3_init_ws_good) rfl rfl rfl (hz.2.2.1 (.methodLinkNest RX1 31 yX3_init RX11) (by decide +kernel)) (hts (.initialized RX3) (by decide +kernel)) (by decide +kernel) ⟨Nat.le_of_ble_eq_true rfl, Nat.le_of_ble_eq_true rfl⟩, rfl, (hts (.instanceMethod yX3_init) (by decide +kernel))⟩ ⟨zPre.blind, zPre.mk hPc hKc hDc hz hS (fun q h => hFc q h)⟩ rfl rfl hl.1 rfl (lv_room (Nat.le_of_ble_eq_true rfl)) dX1_init_47 ⟨Nat.le_of_ble_eq_true rfl, Nat.le_of_ble_eq_true rfl⟩) hS (fun q _ h => hFc q h) (fun q h => hFc q h) (fun u t H1 locs ht9 hvm hw hB hz1 hk1 hS => ?_)
  refine W.widen (k := 82) (n := 1168) (by omega) (by omega) ?_
  obtain ⟨hP1, hK1, hD1⟩ := hB
  rw [ht9] at hP1
  have hK1 := va_K.moved hvm.symm hK1
  obtain ⟨hP, hD⟩ := va_join (wr := [(h, .inr (7, [.int 0, .int 0, .int 0, .int 0, .int 0, .ref q1, .ref q3, .ref q5, .ref q6, .null, .null, .int 0, .int 0])), (q1, .inl (cA2, 30, .inl (fun _ => 0))), (q3, .inl (cA4, 30, .inl (fun _ => 0)))]) (w1 := []) hP hD [3] [0, 1, 2] rfl rfl (by decide) (by decide) hk1 hFc hP1 hD1
  have hK := (hK.sub (tys' := [(cA2, .int), (cA4, .boolean)]) [0, 1] rfl).app hK1
  generalize H1 = H at hP hS ⊢
  have hP : va_P D vwCl [(h, .inr (7, [.int 0, .int 0, .int 0, .int 0, .int 0, .ref q1, .ref q3, .ref q5, .ref q6, .null, .null, .int 0, .int 0])), (q1, .inl (cA2, 30, .inl (fun _ => 0))), (q3, .inl (cA4, 30, .inl (fun _ => 0)))] H := hP
  have hD : va_D A [(h, .inr (7, [.int 0, .int 0, .int 0, .int 0, .int 0, .ref q1, .ref q3, .ref q5, .ref q6, .null, .null, .int 0, .int 0])), (q1, .inl (cA2, 30, .inl (fun _ => 0))), (q3, .inl (cA4, 30, .inl (fun _ => 0)))] := hD
  have hK : va_K D vwCl [(cA2, .int), (cA4, .boolean)] s := hK
  refine va_putF (D := D) (ci := 7) (v := .ref q7) (ty := .object "HeatStadium$Jumps") (C := RX1) (T := TX1) (N := 13) hx hb hts (by decide +kernel) tyX1 tyX1_ok nmX1 hown hK hP hD hS 0 rfl rfl 9 (by decide) (hts (.fieldLink RX1 32 "HeatStadium$Event" "jumps" "LHeatStadium$Jumps;") (by decide +kernel)) (fun _ h9 => h9) rfl hin rfl (by decide +kernel) rfl rfl (Nat.le_of_ble_eq_true rfl) dX1_init_50 (fun H locs hP hD hS => ?_)
  have hP : va_P D vwCl [(h, .inr (7, [.int 0, .int 0, .int 0, .int 0, .int 0, .ref q1, .ref q3, .ref q5, .ref q6, .ref q7, .null, .int 0, .int 0])), (q1, .inl (cA2, 30, .inl (fun _ => 0))), (q3, .inl (cA4, 30, .inl (fun _ => 0)))] H := hP
  have hD : va_D A [(h, .inr (7, [.int 0, .int 0, .int 0, .int 0, .int 0, .ref q1, .ref q3, .ref q5, .ref q6, .ref q7, .null, .int 0, .int 0])), (q1, .inl (cA2, 30, .inl (fun _ => 0))), (q3, .inl (cA4, 30, .inl (fun _ => 0)))] := hD
  refine lv_aload_n hx hb dX1_init_53 rfl (lv_at hl 0 rfl) ?_
  refine va_new (ci := 16) (fs := [.null, .null, .null]) (C := RX10) (T := TX10) (N := 3) hx hb hts (by decide +kernel) tyX10 tyX10_ok hown (hts (.classLink RX1 36 RX10) (by decide +kernel)) (hts (.instantiable RX10 3) (by decide +kernel)) (hts (.initialized RX10) (by decide +kernel)) hK hP hD hS hA rfl (fun j hj => by rcases (show j = 0 ∨ j = 1 ∨ j = 2 by omega) with rfl | rfl | rfl <;> rfl) (Nat.le_of_ble_eq_true rfl) (Nat.le_of_ble_eq_true rfl) dX1_init_54 (fun q8 H hP hD hS => ?_)
  have hP : va_P D vwCl [(h, .inr (7, [.int 0, .int 0, .int 0, .int 0, .int 0, .ref q1, .ref q3, .ref q5, .ref q6, .ref q7, .null, .int 0, .int 0])), (q1, .inl (cA2, 30, .inl (fun _ => 0))), (q3, .inl (cA4, 30, .inl (fun _ => 0))), (q8, .inr (16, [.null, .null, .null]))] H := hP
  have hD : va_D A [(h, .inr (7, [.int 0, .int 0, .int 0, .int 0, .int 0, .ref q1, .ref q3, .ref q5, .ref q6, .ref q7, .null, .int 0, .int 0])), (q1, .inl (cA2, 30, .inl (fun _ => 0))), (q3, .inl (cA4, 30, .inl (fun _ => 0))), (q8, .inr (16, [.null, .null, .null]))] := hD
  refine W.widen (k := 83) (n := 1171) (by omega) (by omega) ?_
  refine lv_dup hx hb dX1_init_57 rfl ?_
  have hPc := hP.sub (ws' := [(q8, .inr (16, [.null, .null, .null]))]) [3] rfl
  have hDc := hD.sub (ws' := [(q8, .inr (16, [.null, .null, .null]))]) [3] (by decide) rfl
  have hKc := hK.sub (tys' := []) [] rfl
  have hFc := va_free (wc := [(q8, .inr (16, [.null, .null, .null]))]) hD hS hA [3] rfl
  refine va_callv (va_runIN (As := []) (rest := [.ref q8, .ref h]) ⟨hx, hb, hml, hown, hts⟩ (c_X10_init l hst D H.size q8) ⟨va_cnB 0 hts (goodIn_sub (fun _ h => List.mem_cons_of_mem _ (List.mem_append_right _ (List.mem_append_right _ (List.mem_append_right _ (List.mem_append_right _ (List.mem_append_right _ (List.mem_append_right _ (List.mem_append_right _ (List.mem_append_left _ h))))))))) zX10_init_ws_good) rfl rfl rfl (hz.2.2.1 (.methodLinkNest RX1 38 yX10_init RX11) (by decide +kernel)) (hts (.initialized RX10) (by decide +kernel)) (by decide +kernel) ⟨Nat.le_of_ble_eq_true rfl, Nat.le_of_ble_eq_true rfl⟩, rfl, (hts (.instanceMethod yX10_init) (by decide +kernel))⟩ ⟨zPre.blind, zPre.mk hPc hKc hDc hz hS (fun q h => hFc q h)⟩ rfl rfl hl.1 rfl (lv_room (Nat.le_of_ble_eq_true rfl)) dX1_init_58 ⟨Nat.le_of_ble_eq_true rfl, Nat.le_of_ble_eq_true rfl⟩) hS (fun q _ h => hFc q h) (fun q h => hFc q h) (fun u t H1 locs ht9 hvm hw hB hz1 hk1 hS => ?_)
  refine W.widen (k := 146) (n := 1621) (by omega) (by omega) ?_
  obtain ⟨hP1, hK1, hD1⟩ := hB
  rw [ht9] at hP1
  have hK1 := va_K.moved hvm.symm hK1
  obtain ⟨hP, hD⟩ := va_join (wr := [(h, .inr (7, [.int 0, .int 0, .int 0, .int 0, .int 0, .ref q1, .ref q3, .ref q5, .ref q6, .ref q7, .null, .int 0, .int 0])), (q1, .inl (cA2, 30, .inl (fun _ => 0))), (q3, .inl (cA4, 30, .inl (fun _ => 0)))]) (w1 := []) hP hD [3] [0, 1, 2] rfl rfl (by decide) (by decide) hk1 hFc hP1 hD1
  have hK := (hK.sub (tys' := [(cA2, .int), (cA4, .boolean)]) [0, 1] rfl).app hK1
  generalize H1 = H at hP hS ⊢
  have hP : va_P D vwCl [(h, .inr (7, [.int 0, .int 0, .int 0, .int 0, .int 0, .ref q1, .ref q3, .ref q5, .ref q6, .ref q7, .null, .int 0, .int 0])), (q1, .inl (cA2, 30, .inl (fun _ => 0))), (q3, .inl (cA4, 30, .inl (fun _ => 0)))] H := hP
  have hD : va_D A [(h, .inr (7, [.int 0, .int 0, .int 0, .int 0, .int 0, .ref q1, .ref q3, .ref q5, .ref q6, .ref q7, .null, .int 0, .int 0])), (q1, .inl (cA2, 30, .inl (fun _ => 0))), (q3, .inl (cA4, 30, .inl (fun _ => 0)))] := hD
  have hK : va_K D vwCl [(cA2, .int), (cA4, .boolean)] s := hK
  refine va_putF (D := D) (ci := 7) (v := .ref q8) (ty := .object "HeatStadium$Throws") (C := RX1) (T := TX1) (N := 13) hx hb hts (by decide +kernel) tyX1 tyX1_ok nmX1 hown hK hP hD hS 0 rfl rfl 10 (by decide) (hts (.fieldLink RX1 39 "HeatStadium$Event" "series" "LHeatStadium$Throws;") (by decide +kernel)) (fun _ h9 => h9) rfl hin rfl (by decide +kernel) rfl rfl (Nat.le_of_ble_eq_true rfl) dX1_init_61 (fun H locs hP hD hS => ?_)
  have hP : va_P D vwCl [(h, .inr (7, [.int 0, .int 0, .int 0, .int 0, .int 0, .ref q1, .ref q3, .ref q5, .ref q6, .ref q7, .ref q8, .int 0, .int 0])), (q1, .inl (cA2, 30, .inl (fun _ => 0))), (q3, .inl (cA4, 30, .inl (fun _ => 0)))] H := hP
  have hD : va_D A [(h, .inr (7, [.int 0, .int 0, .int 0, .int 0, .int 0, .ref q1, .ref q3, .ref q5, .ref q6, .ref q7, .ref q8, .int 0, .int 0])), (q1, .inl (cA2, 30, .inl (fun _ => 0))), (q3, .inl (cA4, 30, .inl (fun _ => 0)))] := hD
  refine lv_aload_n hx hb dX1_init_64 rfl (lv_at hl 0 rfl) ?_
  refine lv_iload_n hx hb dX1_init_65 rfl (lv_at hl 1 rfl) ?_
  refine va_putF (D := D) (ci := 7) (v := .int x1) (ty := .int) (C := RX1) (T := TX1) (N := 13) hx hb hts (by decide +kernel) tyX1 tyX1_ok nmX1 hown hK hP hD hS 0 rfl rfl 0 (by decide) (hts (.fieldLink RX1 43 "HeatStadium$Event" "number" "I") (by decide +kernel)) (fun _ h9 => h9) rfl hin rfl (by decide +kernel) rfl rfl (Nat.le_of_ble_eq_true rfl) dX1_init_66 (fun H locs hP hD hS => ?_)
  have hP : va_P D vwCl [(h, .inr (7, [.int x1, .int 0, .int 0, .int 0, .int 0, .ref q1, .ref q3, .ref q5, .ref q6, .ref q7, .ref q8, .int 0, .int 0])), (q1, .inl (cA2, 30, .inl (fun _ => 0))), (q3, .inl (cA4, 30, .inl (fun _ => 0)))] H := hP
  have hD : va_D A [(h, .inr (7, [.int x1, .int 0, .int 0, .int 0, .int 0, .ref q1, .ref q3, .ref q5, .ref q6, .ref q7, .ref q8, .int 0, .int 0])), (q1, .inl (cA2, 30, .inl (fun _ => 0))), (q3, .inl (cA4, 30, .inl (fun _ => 0)))] := hD
  refine lv_aload_n hx hb dX1_init_69 rfl (lv_at hl 0 rfl) ?_
  refine lv_iload_n hx hb dX1_init_70 rfl (lv_at hl 2 rfl) ?_
  refine va_putF (D := D) (ci := 7) (v := .int x2) (ty := .char) (C := RX1) (T := TX1) (N := 13) hx hb hts (by decide +kernel) tyX1 tyX1_ok nmX1 hown hK hP hD hS 0 rfl rfl 1 (by decide) (hts (.fieldLink RX1 47 "HeatStadium$Event" "kind" "C") (by decide +kernel)) (fun _ h9 => h9) rfl hin rfl (by decide +kernel) hkn hkf (Nat.le_of_ble_eq_true rfl) dX1_init_71 (fun H locs hP hD hS => ?_)
  have hP : va_P D vwCl [(h, .inr (7, [.int x1, .int x2, .int 0, .int 0, .int 0, .ref q1, .ref q3, .ref q5, .ref q6, .ref q7, .ref q8, .int 0, .int 0])), (q1, .inl (cA2, 30, .inl (fun _ => 0))), (q3, .inl (cA4, 30, .inl (fun _ => 0)))] H := hP
  have hD : va_D A [(h, .inr (7, [.int x1, .int x2, .int 0, .int 0, .int 0, .ref q1, .ref q3, .ref q5, .ref q6, .ref q7, .ref q8, .int 0, .int 0])), (q1, .inl (cA2, 30, .inl (fun _ => 0))), (q3, .inl (cA4, 30, .inl (fun _ => 0)))] := hD
  refine lv_aload_n hx hb dX1_init_74 rfl (lv_at hl 0 rfl) ?_
  refine lv_iload_n hx hb dX1_init_75 rfl (lv_at hl 3 rfl) ?_
  refine va_putF (D := D) (ci := 7) (v := .int x3) (ty := .int) (C := RX1) (T := TX1) (N := 13) hx hb hts (by decide +kernel) tyX1 tyX1_ok nmX1 hown hK hP hD hS 0 rfl rfl 2 (by decide) (hts (.fieldLink RX1 51 "HeatStadium$Event" "standard" "I") (by decide +kernel)) (fun _ h9 => h9) rfl hin rfl (by decide +kernel) rfl rfl (Nat.le_of_ble_eq_true rfl) dX1_init_76 (fun H locs hP hD hS => ?_)
  have hP : va_P D vwCl [(h, .inr (7, [.int x1, .int x2, .int x3, .int 0, .int 0, .ref q1, .ref q3, .ref q5, .ref q6, .ref q7, .ref q8, .int 0, .int 0])), (q1, .inl (cA2, 30, .inl (fun _ => 0))), (q3, .inl (cA4, 30, .inl (fun _ => 0)))] H := hP
  have hD : va_D A [(h, .inr (7, [.int x1, .int x2, .int x3, .int 0, .int 0, .ref q1, .ref q3, .ref q5, .ref q6, .ref q7, .ref q8, .int 0, .int 0])), (q1, .inl (cA2, 30, .inl (fun _ => 0))), (q3, .inl (cA4, 30, .inl (fun _ => 0)))] := hD
  refine lv_aload_n hx hb dX1_init_79 rfl (lv_at hl 0 rfl) ?_
  refine lv_iload hx hb dX1_init_80 (lv_at hl 4 rfl) ?_
  refine va_putF (D := D) (ci := 7) (v := .int x4) (ty := .int) (C := RX1) (T := TX1) (N := 13) hx hb hts (by decide +kernel) tyX1 tyX1_ok nmX1 hown hK hP hD hS 0 rfl rfl 3 (by decide) (hts (.fieldLink RX1 54 "HeatStadium$Event" "quota" "I") (by decide +kernel)) (fun _ h9 => h9) rfl hin rfl (by decide +kernel) rfl rfl (Nat.le_of_ble_eq_true rfl) dX1_init_82 (fun H locs hP hD hS => ?_)
  have hP : va_P D vwCl [(h, .inr (7, [.int x1, .int x2, .int x3, .int x4, .int 0, .ref q1, .ref q3, .ref q5, .ref q6, .ref q7, .ref q8, .int 0, .int 0])), (q1, .inl (cA2, 30, .inl (fun _ => 0))), (q3, .inl (cA4, 30, .inl (fun _ => 0)))] H := hP
  have hD : va_D A [(h, .inr (7, [.int x1, .int x2, .int x3, .int x4, .int 0, .ref q1, .ref q3, .ref q5, .ref q6, .ref q7, .ref q8, .int 0, .int 0])), (q1, .inl (cA2, 30, .inl (fun _ => 0))), (q3, .inl (cA4, 30, .inl (fun _ => 0)))] := hD
  refine lv_aload_n hx hb dX1_init_85 rfl (lv_at hl 0 rfl) ?_
  refine lv_iload hx hb dX1_init_86 (lv_at hl 5 rfl) ?_
  refine va_putF (D := D) (ci := 7) (v := .int x5) (ty := .int) (C := RX1) (T := TX1) (N := 13) hx hb hts (by decide +kernel) tyX1 tyX1_ok nmX1 hown hK hP hD hS 0 rfl rfl 4 (by decide) (hts (.fieldLink RX1 57 "HeatStadium$Event" "limit" "I") (by decide +kernel)) (fun _ h9 => h9) rfl hin rfl (by decide +kernel) rfl rfl (Nat.le_of_ble_eq_true rfl) dX1_init_88 (fun H locs hP hD hS => ?_)
  have hP : va_P D vwCl [(h, .inr (7, [.int x1, .int x2, .int x3, .int x4, .int x5, .ref q1, .ref q3, .ref q5, .ref q6, .ref q7, .ref q8, .int 0, .int 0])), (q1, .inl (cA2, 30, .inl (fun _ => 0))), (q3, .inl (cA4, 30, .inl (fun _ => 0)))] H := hP
  have hD : va_D A [(h, .inr (7, [.int x1, .int x2, .int x3, .int x4, .int x5, .ref q1, .ref q3, .ref q5, .ref q6, .ref q7, .ref q8, .int 0, .int 0])), (q1, .inl (cA2, 30, .inl (fun _ => 0))), (q3, .inl (cA4, 30, .inl (fun _ => 0)))] := hD
  have hP9 := hP.sub (ws' := [(h, .inr (7, [.int x1, .int x2, .int x3, .int x4, .int x5, .ref q1, .ref q3, .ref q5, .ref q6, .ref q7, .ref q8, .int 0, .int 0]))]) [0] rfl
  have hD9 := hD.sub (ws' := [(h, .inr (7, [.int x1, .int x2, .int x3, .int x4, .int x5, .ref q1, .ref q3, .ref q5, .ref q6, .ref q7, .ref q8, .int 0, .int 0]))]) [0] (by decide) rfl
  have hK9 := hK.sub (tys' := []) [] rfl
  rw [← hAe] at hD9
  refine W.widen (k := 150) (n := 1700) (by omega) (by omega) ?_
  subst hAe
  exact W.vret hx hb hr (fun t ht9 hW => ⟨⟨(), rfl, trivial, ⟨q1, q3, q5, q6, q7, q8, by rw [ht9]; exact hP9, va_K.moved hW.alike hK9, hD9⟩⟩, hS.F ht9⟩) hS.2.2 dX1_init_91

def zX11_event_ws : List Cond := .code yX11_event cX11_event 6 (some .int) :: ([.constant RX11 97 (999999), .methodLink RX11 98 yX11_requireRange, .static yX11_requireRange, .initialized RX11, .fieldLink RX11 64 "HeatStadium" "eventCount" "I", .fieldLink RX11 18 "HeatStadium" "events" "[LHeatStadium$Event;", .classLink RX11 16 RX1, .instantiable RX1 13, .initialized RX1, .instanceMethod yX1_init] ++ (zrr1 ++ (wsX110 ++ (wsX10 ++ (zX1_init_ws ++ ([]))))))
theorem zX11_event_ws_good : zX11_event_ws.all goodWord = true := by decide +kernel
set_option maxHeartbeats 4000000 in
set_option maxRecDepth 100000 in
/-- the first event: 0 -/
theorem c_event_ok (l : Launch) (hst : l.stackTraces = false) (D : va_G) (sz : Nat) (h0 : Nat) (a : Nat → Nat) (cE : Nat) (fe : Nat → Option Nat) (x1 x2 x3 x4 : Int32) (hk : x1 = 114 ∨ x1 = 106 ∨ x1 = 116) (hkn : narrow .char (.int x1) = .int x1) (hkf : fits .char (.int x1) = true) (h2 : zin x2 1 999999 = 1) (h3 : zin x3 1 5 = 1) (h4 : zin x4 2 24 = 1) : Met l yX11_event zX11_event_ws (zR 3 160 1800) (zPre [.ref h0, .int x1, .int x2, .int x3, .int x4] D [(h0, .inr (17, zHS a)), ((a 1), .inl (cE, 5, .inr (.inr (.inr (.inr fe)))))] [(cE, .object "HeatStadium$Event")] (va_A [(h0, .inr (17, zHS a)), ((a 1), .inl (cE, 5, .inr (.inr (.inr (.inr fe)))))] sz) sz) (va_Qi (S := Unit) (fun r _ => r = 0) (fun _ t => zAt D [] [] (va_A [(h0, .inr (17, zHS a)), ((a 1), .inl (cE, 5, .inr (.inr (.inr (.inr fe)))))] sz) t) (va_A [(h0, .inr (17, zHS a)), ((a 1), .inl (cE, 5, .inr (.inr (.inr (.inr fe)))))] sz)) 160 1800 (va_A [(h0, .inr (17, zHS a)), ((a 1), .inl (cE, 5, .inr (.inr (.inr (.inr fe)))))] sz) := by
  refine Met.ofW (cc := cX11_event) (maxL := 6) (ret := (some .int)) (by decide) rfl ?_
  intro p e s m args below meth c s₁ B hml hv
  obtain ⟨rfl, hsz, hP, hK, hD0, hz⟩ := hv
  have hx := B.exec
  have hb := B.bytes
  have hr := B.returns
  have hts := atoms_spec (ws := zX11_event_ws) B.pre
  have hown : s.vm.findClass RX11 = some m.cls := findClass_of_methodNamed B.named
  have hlocks := B.notSynchronized
  subst hsz
  have hD := hD0.self (sz := s.heap.size)
  generalize hAe : va_A [(h0, .inr (17, zHS a)), ((a 1), .inl (cE, 5, .inr (.inr (.inr (.inr fe)))))] s.heap.size = A at hD hz ⊢
  have hA : ∀ q : Nat, s.heap.size ≤ q → A q := fun q h => by rw [← hAe]; exact Or.inr h
  have hS : va_S A s.heap s.heap [] := va_S.rf
  have hP : va_P D vwCl [(h0, .inr (17, zHS a)), ((a 1), .inl (cE, 5, .inr (.inr (.inr (.inr fe)))))] s.heap := hP
  have hl := lv_entry ([.ref h0, .int x1, .int x2, .int x3, .int x4]) (n := 6) (Nat.le_of_ble_eq_true rfl)
  rw [lg_entry_eq]
  generalize (lg_sl ([.ref h0, .int x1, .int x2, .int x3, .int x4]) ++ List.replicate (6 - (lg_sl ([.ref h0, .int x1, .int x2, .int x3, .int x4])).length) Slot.unset).toArray = ls at hl ⊢
  have hl : lv_has ls 6 [(0, .ref h0), (1, .int x1), (2, .int x2), (3, .int x3), (4, .int x4)] := hl
  refine lv_iload_n hx hb dX11_event_0 rfl (lv_at hl 1 rfl) ?_
  refine lv_bipush (v := 114) hx hb dX11_event_1 (by decide) ?_
  refine lv_icmp_eq (tgt := 28) hx hb dX11_event_3 (by decide) (fun c1 => ?_) (fun c1 => ?_)
  · refine lv_iload_n hx hb dX11_event_28 rfl (lv_at hl 2 rfl) ?_
    refine lv_iconst (v := 1) hx hb dX11_event_29 (by decide) ?_
    refine lv_ldc (v := 999999) hx hb hown (hts (.constant RX11 97 (999999)) (by decide +kernel)) dX11_event_30 ?_
    have hPc := hP.sub (ws' := []) [] rfl
    have hDc := hD.sub (ws' := []) [] (by decide) rfl
    have hKc := hK.sub (tys' := []) [] rfl
    have hFc : ∀ q : Nat, s.heap.size ≤ q → A q := fun q h => hA q (Nat.le_trans hS.1 h)
    refine va_callv (va_runS (As := [.int x2, .int 1, .int 999999]) (rest := []) ⟨hx, hb, hml, hown, hts⟩ (c_requireRange_ok l hst D s.heap.size x2 1 999999 h2) (cwS 3 hts (goodIn_app (goodIn_of _ (by decide +kernel)) (goodIn_sub (fun _ h => List.mem_cons_of_mem _ (List.mem_append_right _ (List.mem_append_left _ h))) zrr1_good)) rfl rfl rfl (by decide +kernel) ⟨Nat.le_of_ble_eq_true rfl, Nat.le_of_ble_eq_true rfl⟩) ⟨zPre.blind, zPre.mk hPc hKc hDc hz hS (fun q h => hFc q h)⟩ rfl rfl hl.1 rfl (lv_room (Nat.le_of_ble_eq_true rfl)) dX11_event_32 ⟨Nat.le_of_ble_eq_true rfl, Nat.le_of_ble_eq_true rfl⟩) hS (fun q _ h => hFc q h) (fun q h => hFc q h) (fun u t H1 locs ht9 hvm hw hB hz1 hk1 hS => ?_)
    refine W.widen (k := 0) (n := 0) (by omega) (by omega) ?_
    have hP := zKeep hP hk1
    generalize H1 = H at hP hS ⊢
    have hP : va_P D vwCl [(h0, .inr (17, zHS a)), ((a 1), .inl (cE, 5, .inr (.inr (.inr (.inr fe)))))] H := hP
    refine lv_iload_n hx hb dX11_event_35 rfl (lv_at hl 3 rfl) ?_
    refine lv_iconst (v := 1) hx hb dX11_event_36 (by decide) ?_
    refine lv_iconst (v := 5) hx hb dX11_event_37 (by decide) ?_
    have hPc := hP.sub (ws' := []) [] rfl
    have hDc := hD.sub (ws' := []) [] (by decide) rfl
    have hKc := hK.sub (tys' := []) [] rfl
    have hFc : ∀ q : Nat, H.size ≤ q → A q := fun q h => hA q (Nat.le_trans hS.1 h)
    refine va_callv (va_runS (As := [.int x3, .int 1, .int 5]) (rest := []) ⟨hx, hb, hml, hown, hts⟩ (c_requireRange_ok l hst D H.size x3 1 5 h3) (cwS 3 hts (goodIn_app (goodIn_of _ (by decide +kernel)) (goodIn_sub (fun _ h => List.mem_cons_of_mem _ (List.mem_append_right _ (List.mem_append_left _ h))) zrr1_good)) rfl rfl rfl (by decide +kernel) ⟨Nat.le_of_ble_eq_true rfl, Nat.le_of_ble_eq_true rfl⟩) ⟨zPre.blind, zPre.mk hPc hKc hDc hz hS (fun q h => hFc q h)⟩ rfl rfl hl.1 rfl (lv_room (Nat.le_of_ble_eq_true rfl)) dX11_event_38 ⟨Nat.le_of_ble_eq_true rfl, Nat.le_of_ble_eq_true rfl⟩) hS (fun q _ h => hFc q h) (fun q h => hFc q h) (fun u t H1 locs ht9 hvm hw hB hz1 hk1 hS => ?_)
    refine W.widen (k := 0) (n := 0) (by omega) (by omega) ?_
    have hP := zKeep hP hk1
    generalize H1 = H at hP hS ⊢
    have hP : va_P D vwCl [(h0, .inr (17, zHS a)), ((a 1), .inl (cE, 5, .inr (.inr (.inr (.inr fe)))))] H := hP
    refine lv_iload hx hb dX11_event_41 (lv_at hl 4 rfl) ?_
    refine lv_iconst (v := 2) hx hb dX11_event_43 (by decide) ?_
    refine lv_bipush (v := 24) hx hb dX11_event_44 (by decide) ?_
    have hPc := hP.sub (ws' := []) [] rfl
    have hDc := hD.sub (ws' := []) [] (by decide) rfl
    have hKc := hK.sub (tys' := []) [] rfl
    have hFc : ∀ q : Nat, H.size ≤ q → A q := fun q h => hA q (Nat.le_trans hS.1 h)
    refine va_callv (va_runS (As := [.int x4, .int 2, .int 24]) (rest := []) ⟨hx, hb, hml, hown, hts⟩ (c_requireRange_ok l hst D H.size x4 2 24 h4) (cwS 3 hts (goodIn_app (goodIn_of _ (by decide +kernel)) (goodIn_sub (fun _ h => List.mem_cons_of_mem _ (List.mem_append_right _ (List.mem_append_left _ h))) zrr1_good)) rfl rfl rfl (by decide +kernel) ⟨Nat.le_of_ble_eq_true rfl, Nat.le_of_ble_eq_true rfl⟩) ⟨zPre.blind, zPre.mk hPc hKc hDc hz hS (fun q h => hFc q h)⟩ rfl rfl hl.1 rfl (lv_room (Nat.le_of_ble_eq_true rfl)) dX11_event_46 ⟨Nat.le_of_ble_eq_true rfl, Nat.le_of_ble_eq_true rfl⟩) hS (fun q _ h => hFc q h) (fun q h => hFc q h) (fun u t H1 locs ht9 hvm hw hB hz1 hk1 hS => ?_)
    refine W.widen (k := 0) (n := 0) (by omega) (by omega) ?_
    have hP := zKeep hP hk1
    generalize H1 = H at hP hS ⊢
    have hP : va_P D vwCl [(h0, .inr (17, zHS a)), ((a 1), .inl (cE, 5, .inr (.inr (.inr (.inr fe)))))] H := hP
    refine lv_aload_n hx hb dX11_event_49 rfl (lv_at hl 0 rfl) ?_
    refine va_get (D := D) (ci := 17) (v := .int 0) (C := RX11) (T := TX11) (N := 11) hx hb hts (by decide +kernel) hown hK hP 0 rfl rfl 8 (by decide) (hts (.fieldLink RX11 64 "HeatStadium" "eventCount" "I") (by decide +kernel)) (fun _ h9 => h9) rfl dX11_event_50 ?_
    refine lv_istore (lv' := [(5, .int 0), (0, .ref h0), (1, .int x1), (2, .int x2), (3, .int x3), (4, .int x4)]) hx hb dX11_event_53 hl (by decide) rfl (fun ls hl => ?_)
    refine lv_iload hx hb dX11_event_55 (lv_at hl 0 rfl) ?_
    refine lv_iconst (v := 5) hx hb dX11_event_57 (by decide) ?_
    refine lv_icmp_lt (tgt := 71) hx hb dX11_event_58 (by decide) (fun _ => ?_) (fun c => absurd (by decide) c)
    refine lv_aload_n hx hb dX11_event_71 rfl (lv_at hl 1 rfl) ?_
    refine va_get (D := D) (ci := 17) (v := .ref (a 1)) (C := RX11) (T := TX11) (N := 11) hx hb hts (by decide +kernel) hown hK hP 0 rfl rfl 1 (by decide) (hts (.fieldLink RX11 18 "HeatStadium" "events" "[LHeatStadium$Event;") (by decide +kernel)) (fun _ h9 => h9) rfl dX11_event_72 ?_
    refine lv_iload hx hb dX11_event_75 (lv_at hl 0 rfl) ?_
    refine va_new (ci := 7) (fs := [.int 0, .int 0, .int 0, .int 0, .int 0, .null, .null, .null, .null, .null, .null, .int 0, .int 0]) (C := RX1) (T := TX1) (N := 13) hx hb hts (by decide +kernel) tyX1 tyX1_ok hown (hts (.classLink RX11 16 RX1) (by decide +kernel)) (hts (.instantiable RX1 13) (by decide +kernel)) (hts (.initialized RX1) (by decide +kernel)) hK hP hD hS hA rfl (fun j hj => by rcases (show j = 0 ∨ j = 1 ∨ j = 2 ∨ j = 3 ∨ j = 4 ∨ j = 5 ∨ j = 6 ∨ j = 7 ∨ j = 8 ∨ j = 9 ∨ j = 10 ∨ j = 11 ∨ j = 12 by omega) with rfl | rfl | rfl | rfl | rfl | rfl | rfl | rfl | rfl | rfl | rfl | rfl | rfl <;> rfl) (Nat.le_of_ble_eq_true rfl) (Nat.le_of_ble_eq_true rfl) dX11_event_77 (fun q2 H hP hD hS => ?_)
    have hP : va_P D vwCl [(h0, .inr (17, zHS a)), ((a 1), .inl (cE, 5, .inr (.inr (.inr (.inr fe))))), (q2, .inr (7, [.int 0, .int 0, .int 0, .int 0, .int 0, .null, .null, .null, .null, .null, .null, .int 0, .int 0]))] H := hP
    have hD : va_D A [(h0, .inr (17, zHS a)), ((a 1), .inl (cE, 5, .inr (.inr (.inr (.inr fe))))), (q2, .inr (7, [.int 0, .int 0, .int 0, .int 0, .int 0, .null, .null, .null, .null, .null, .null, .int 0, .int 0]))] := hD
    refine W.widen (k := 1) (n := 13) (by omega) (by omega) ?_
    refine lv_dup hx hb dX11_event_80 rfl ?_
    refine lv_iload hx hb dX11_event_81 (lv_at hl 0 rfl) ?_
    refine lv_iload_n hx hb dX11_event_83 rfl (lv_at hl 2 rfl) ?_
    refine lv_iload_n hx hb dX11_event_84 rfl (lv_at hl 3 rfl) ?_
    refine lv_iload_n hx hb dX11_event_85 rfl (lv_at hl 4 rfl) ?_
    refine lv_iload hx hb dX11_event_86 (lv_at hl 5 rfl) ?_
    have hPc := hP.sub (ws' := [(q2, .inr (7, [.int 0, .int 0, .int 0, .int 0, .int 0, .null, .null, .null, .null, .null, .null, .int 0, .int 0]))]) [2] rfl
    have hDc := hD.sub (ws' := [(q2, .inr (7, [.int 0, .int 0, .int 0, .int 0, .int 0, .null, .null, .null, .null, .null, .null, .int 0, .int 0]))]) [2] (by decide) rfl
    have hKc := hK.sub (tys' := []) [] rfl
    have hFc := va_free (wc := [(q2, .inr (7, [.int 0, .int 0, .int 0, .int 0, .int 0, .null, .null, .null, .null, .null, .null, .int 0, .int 0]))]) hD hS hA [2] rfl
    refine va_callv (va_runIN (As := [.int 0, .int x1, .int x2, .int x3, .int x4]) (rest := [.ref q2, .int 0, .ref (a 1)]) ⟨hx, hb, hml, hown, hts⟩ (c_Event l hst D H.size q2 0 x1 x2 x3 x4 hkn hkf) ⟨va_cnB 5 hts (goodIn_sub (fun _ h => List.mem_cons_of_mem _ (List.mem_append_right _ (List.mem_append_right _ (List.mem_append_right _ (List.mem_append_right _ (List.mem_append_left _ h)))))) zX1_init_ws_good) rfl rfl rfl (hz.2.2.1 (.methodLinkNest RX11 104 yX1_init RX11) (by decide +kernel)) (hts (.initialized RX1) (by decide +kernel)) (by decide +kernel) ⟨Nat.le_of_ble_eq_true rfl, Nat.le_of_ble_eq_true rfl⟩, rfl, (hts (.instanceMethod yX1_init) (by decide +kernel))⟩ ⟨zPre.blind, zPre.mk hPc hKc hDc hz hS (fun q h => hFc q h)⟩ rfl rfl hl.1 rfl (lv_room (Nat.le_of_ble_eq_true rfl)) dX11_event_88 ⟨Nat.le_of_ble_eq_true rfl, Nat.le_of_ble_eq_true rfl⟩) hS (fun q _ h => hFc q h) (fun q h => hFc q h) (fun u t H1 locs ht9 hvm hw hB hz1 hk1 hS => ?_)
    refine W.widen (k := 151) (n := 1713) (by omega) (by omega) ?_
    obtain ⟨n3, n4, n5, n6, n7, n8, hP1, hK1, hD1⟩ := hB
    rw [ht9] at hP1
    have hK1 := va_K.moved hvm.symm hK1
    obtain ⟨hP, hD⟩ := va_join (wr := [(h0, .inr (17, zHS a)), ((a 1), .inl (cE, 5, .inr (.inr (.inr (.inr fe)))))]) (w1 := [(q2, .inr (7, [.int 0, .int x1, .int x2, .int x3, .int x4, .ref n3, .ref n4, .ref n5, .ref n6, .ref n7, .ref n8, .int 0, .int 0]))]) hP hD [2] [0, 1] rfl rfl (by decide) (by decide) hk1 hFc hP1 hD1
    have hK := (hK.sub (tys' := [(cE, .object "HeatStadium$Event")]) [0] rfl).app hK1
    generalize H1 = H at hP hS ⊢
    have hP : va_P D vwCl [(h0, .inr (17, zHS a)), ((a 1), .inl (cE, 5, .inr (.inr (.inr (.inr fe))))), (q2, .inr (7, [.int 0, .int x1, .int x2, .int x3, .int x4, .ref n3, .ref n4, .ref n5, .ref n6, .ref n7, .ref n8, .int 0, .int 0]))] H := hP
    have hD : va_D A [(h0, .inr (17, zHS a)), ((a 1), .inl (cE, 5, .inr (.inr (.inr (.inr fe))))), (q2, .inr (7, [.int 0, .int x1, .int x2, .int x3, .int x4, .ref n3, .ref n4, .ref n5, .ref n6, .ref n7, .ref n8, .int 0, .int 0]))] := hD
    have hK : va_K D vwCl [(cE, .object "HeatStadium$Event")] s := hK
    refine va_astq hx hb hK hP hD hS 1 0 2 7 rfl rfl rfl rfl (show vp_in 0 5 by unfold vp_in; decide) dX11_event_91 (fun H locs hP hD hS => ?_)
    have hP : va_P D vwCl [(h0, .inr (17, zHS a)), ((a 1), .inl (cE, 5, .inr (.inr (.inr (.inr (va_up fe (0 : Int32).toNatClampNeg (some q2))))))), (q2, .inr (7, [.int 0, .int x1, .int x2, .int x3, .int x4, .ref n3, .ref n4, .ref n5, .ref n6, .ref n7, .ref n8, .int 0, .int 0]))] H := hP
    have hD : va_D A [(h0, .inr (17, zHS a)), ((a 1), .inl (cE, 5, .inr (.inr (.inr (.inr (va_up fe (0 : Int32).toNatClampNeg (some q2))))))), (q2, .inr (7, [.int 0, .int x1, .int x2, .int x3, .int x4, .ref n3, .ref n4, .ref n5, .ref n6, .ref n7, .ref n8, .int 0, .int 0]))] := hD
    refine lv_aload_n hx hb dX11_event_92 rfl (lv_at hl 1 rfl) ?_
    refine lv_iload hx hb dX11_event_93 (lv_at hl 0 rfl) ?_
    refine lv_iconst (v := 1) hx hb dX11_event_95 (by decide) ?_
    refine lv_iadd hx hb dX11_event_96 ?_
    refine lv_topi (fun z9 ez9 => ?_)
    obtain rfl : z9 = 1 := ez9.trans (by decide)
    refine va_put (D := D) (ci := 17) (v := .int 1) (ty := .int) (C := RX11) (T := TX11) (N := 11) hx hb hts (by decide +kernel) tyX11 tyX11_ok nmX11 hown hK hP hD hS 0 rfl rfl 8 (by decide) (hts (.fieldLink RX11 64 "HeatStadium" "eventCount" "I") (by decide +kernel)) (fun _ h9 => h9) rfl (by decide +kernel) rfl rfl (Nat.le_of_ble_eq_true rfl) dX11_event_97 (fun H locs hP hD hS => ?_)
    have hP : va_P D vwCl [(h0, .inr (17, [.ref (a 0), .ref (a 1), .ref (a 2), .ref (a 3), .ref (a 4), .ref (a 5), .ref (a 6), .ref (a 7), .int 1, .int 0, .int 0])), ((a 1), .inl (cE, 5, .inr (.inr (.inr (.inr (va_up fe (0 : Int32).toNatClampNeg (some q2))))))), (q2, .inr (7, [.int 0, .int x1, .int x2, .int x3, .int x4, .ref n3, .ref n4, .ref n5, .ref n6, .ref n7, .ref n8, .int 0, .int 0]))] H := hP
    have hD : va_D A [(h0, .inr (17, [.ref (a 0), .ref (a 1), .ref (a 2), .ref (a 3), .ref (a 4), .ref (a 5), .ref (a 6), .ref (a 7), .int 1, .int 0, .int 0])), ((a 1), .inl (cE, 5, .inr (.inr (.inr (.inr (va_up fe (0 : Int32).toNatClampNeg (some q2))))))), (q2, .inr (7, [.int 0, .int x1, .int x2, .int x3, .int x4, .ref n3, .ref n4, .ref n5, .ref n6, .ref n7, .ref n8, .int 0, .int 0]))] := hD
    refine lv_iload hx hb dX11_event_100 (lv_at hl 0 rfl) ?_
    have hP9 := hP.sub (ws' := []) [] rfl
    have hD9 := hD.sub (ws' := []) [] (by decide) rfl
    have hK9 := hK.sub (tys' := []) [] rfl
    rw [← hAe] at hD9
    refine W.widen (k := 160) (n := 1800) (by omega) (by omega) ?_
    subst hAe
    exact W.iret (v := 0) hx hb hr (fun t ht9 hW => ⟨⟨0, (), rfl, rfl, ⟨by rw [ht9]; exact hP9, va_K.moved hW.alike hK9, hD9⟩⟩, hS.F ht9⟩) hS.2.2 dX11_event_102
  · refine lv_iload_n hx hb dX11_event_6 rfl (lv_at hl 1 rfl) ?_
    refine lv_bipush (v := 106) hx hb dX11_event_7 (by decide) ?_
    refine lv_icmp_eq (tgt := 28) hx hb dX11_event_9 (by decide) (fun c10 => ?_) (fun c10 => ?_)
    · refine lv_iload_n hx hb dX11_event_28 rfl (lv_at hl 2 rfl) ?_
      refine lv_iconst (v := 1) hx hb dX11_event_29 (by decide) ?_
      refine lv_ldc (v := 999999) hx hb hown (hts (.constant RX11 97 (999999)) (by decide +kernel)) dX11_event_30 ?_
      have hPc := hP.sub (ws' := []) [] rfl
      have hDc := hD.sub (ws' := []) [] (by decide) rfl
      have hKc := hK.sub (tys' := []) [] rfl
      have hFc : ∀ q : Nat, s.heap.size ≤ q → A q := fun q h => hA q (Nat.le_trans hS.1 h)
      refine va_callv (va_runS (As := [.int x2, .int 1, .int 999999]) (rest := []) ⟨hx, hb, hml, hown, hts⟩ (c_requireRange_ok l hst D s.heap.size x2 1 999999 h2) (cwS 3 hts (goodIn_app (goodIn_of _ (by decide +kernel)) (goodIn_sub (fun _ h => List.mem_cons_of_mem _ (List.mem_append_right _ (List.mem_append_left _ h))) zrr1_good)) rfl rfl rfl (by decide +kernel) ⟨Nat.le_of_ble_eq_true rfl, Nat.le_of_ble_eq_true rfl⟩) ⟨zPre.blind, zPre.mk hPc hKc hDc hz hS (fun q h => hFc q h)⟩ rfl rfl hl.1 rfl (lv_room (Nat.le_of_ble_eq_true rfl)) dX11_event_32 ⟨Nat.le_of_ble_eq_true rfl, Nat.le_of_ble_eq_true rfl⟩) hS (fun q _ h => hFc q h) (fun q h => hFc q h) (fun u t H1 locs ht9 hvm hw hB hz1 hk1 hS => ?_)
      refine W.widen (k := 0) (n := 0) (by omega) (by omega) ?_
      have hP := zKeep hP hk1
      generalize H1 = H at hP hS ⊢
      have hP : va_P D vwCl [(h0, .inr (17, zHS a)), ((a 1), .inl (cE, 5, .inr (.inr (.inr (.inr fe)))))] H := hP
      refine lv_iload_n hx hb dX11_event_35 rfl (lv_at hl 3 rfl) ?_
      refine lv_iconst (v := 1) hx hb dX11_event_36 (by decide) ?_
      refine lv_iconst (v := 5) hx hb dX11_event_37 (by decide) ?_
      have hPc := hP.sub (ws' := []) [] rfl
      have hDc := hD.sub (ws' := []) [] (by decide) rfl
      have hKc := hK.sub (tys' := []) [] rfl
      have hFc : ∀ q : Nat, H.size ≤ q → A q := fun q h => hA q (Nat.le_trans hS.1 h)
      refine va_callv (va_runS (As := [.int x3, .int 1, .int 5]) (rest := []) ⟨hx, hb, hml, hown, hts⟩ (c_requireRange_ok l hst D H.size x3 1 5 h3) (cwS 3 hts (goodIn_app (goodIn_of _ (by decide +kernel)) (goodIn_sub (fun _ h => List.mem_cons_of_mem _ (List.mem_append_right _ (List.mem_append_left _ h))) zrr1_good)) rfl rfl rfl (by decide +kernel) ⟨Nat.le_of_ble_eq_true rfl, Nat.le_of_ble_eq_true rfl⟩) ⟨zPre.blind, zPre.mk hPc hKc hDc hz hS (fun q h => hFc q h)⟩ rfl rfl hl.1 rfl (lv_room (Nat.le_of_ble_eq_true rfl)) dX11_event_38 ⟨Nat.le_of_ble_eq_true rfl, Nat.le_of_ble_eq_true rfl⟩) hS (fun q _ h => hFc q h) (fun q h => hFc q h) (fun u t H1 locs ht9 hvm hw hB hz1 hk1 hS => ?_)
      refine W.widen (k := 0) (n := 0) (by omega) (by omega) ?_
      have hP := zKeep hP hk1
      generalize H1 = H at hP hS ⊢
      have hP : va_P D vwCl [(h0, .inr (17, zHS a)), ((a 1), .inl (cE, 5, .inr (.inr (.inr (.inr fe)))))] H := hP
      refine lv_iload hx hb dX11_event_41 (lv_at hl 4 rfl) ?_
      refine lv_iconst (v := 2) hx hb dX11_event_43 (by decide) ?_
      refine lv_bipush (v := 24) hx hb dX11_event_44 (by decide) ?_
      have hPc := hP.sub (ws' := []) [] rfl
      have hDc := hD.sub (ws' := []) [] (by decide) rfl
      have hKc := hK.sub (tys' := []) [] rfl
      have hFc : ∀ q : Nat, H.size ≤ q → A q := fun q h => hA q (Nat.le_trans hS.1 h)
      refine va_callv (va_runS (As := [.int x4, .int 2, .int 24]) (rest := []) ⟨hx, hb, hml, hown, hts⟩ (c_requireRange_ok l hst D H.size x4 2 24 h4) (cwS 3 hts (goodIn_app (goodIn_of _ (by decide +kernel)) (goodIn_sub (fun _ h => List.mem_cons_of_mem _ (List.mem_append_right _ (List.mem_append_left _ h))) zrr1_good)) rfl rfl rfl (by decide +kernel) ⟨Nat.le_of_ble_eq_true rfl, Nat.le_of_ble_eq_true rfl⟩) ⟨zPre.blind, zPre.mk hPc hKc hDc hz hS (fun q h => hFc q h)⟩ rfl rfl hl.1 rfl (lv_room (Nat.le_of_ble_eq_true rfl)) dX11_event_46 ⟨Nat.le_of_ble_eq_true rfl, Nat.le_of_ble_eq_true rfl⟩) hS (fun q _ h => hFc q h) (fun q h => hFc q h) (fun u t H1 locs ht9 hvm hw hB hz1 hk1 hS => ?_)
      refine W.widen (k := 0) (n := 0) (by omega) (by omega) ?_
      have hP := zKeep hP hk1
      generalize H1 = H at hP hS ⊢
      have hP : va_P D vwCl [(h0, .inr (17, zHS a)), ((a 1), .inl (cE, 5, .inr (.inr (.inr (.inr fe)))))] H := hP
      refine lv_aload_n hx hb dX11_event_49 rfl (lv_at hl 0 rfl) ?_
      refine va_get (D := D) (ci := 17) (v := .int 0) (C := RX11) (T := TX11) (N := 11) hx hb hts (by decide +kernel) hown hK hP 0 rfl rfl 8 (by decide) (hts (.fieldLink RX11 64 "HeatStadium" "eventCount" "I") (by decide +kernel)) (fun _ h9 => h9) rfl dX11_event_50 ?_
      refine lv_istore (lv' := [(5, .int 0), (0, .ref h0), (1, .int x1), (2, .int x2), (3, .int x3), (4, .int x4)]) hx hb dX11_event_53 hl (by decide) rfl (fun ls hl => ?_)
      refine lv_iload hx hb dX11_event_55 (lv_at hl 0 rfl) ?_
      refine lv_iconst (v := 5) hx hb dX11_event_57 (by decide) ?_
      refine lv_icmp_lt (tgt := 71) hx hb dX11_event_58 (by decide) (fun _ => ?_) (fun c => absurd (by decide) c)
      refine lv_aload_n hx hb dX11_event_71 rfl (lv_at hl 1 rfl) ?_
      refine va_get (D := D) (ci := 17) (v := .ref (a 1)) (C := RX11) (T := TX11) (N := 11) hx hb hts (by decide +kernel) hown hK hP 0 rfl rfl 1 (by decide) (hts (.fieldLink RX11 18 "HeatStadium" "events" "[LHeatStadium$Event;") (by decide +kernel)) (fun _ h9 => h9) rfl dX11_event_72 ?_
      refine lv_iload hx hb dX11_event_75 (lv_at hl 0 rfl) ?_
      refine va_new (ci := 7) (fs := [.int 0, .int 0, .int 0, .int 0, .int 0, .null, .null, .null, .null, .null, .null, .int 0, .int 0]) (C := RX1) (T := TX1) (N := 13) hx hb hts (by decide +kernel) tyX1 tyX1_ok hown (hts (.classLink RX11 16 RX1) (by decide +kernel)) (hts (.instantiable RX1 13) (by decide +kernel)) (hts (.initialized RX1) (by decide +kernel)) hK hP hD hS hA rfl (fun j hj => by rcases (show j = 0 ∨ j = 1 ∨ j = 2 ∨ j = 3 ∨ j = 4 ∨ j = 5 ∨ j = 6 ∨ j = 7 ∨ j = 8 ∨ j = 9 ∨ j = 10 ∨ j = 11 ∨ j = 12 by omega) with rfl | rfl | rfl | rfl | rfl | rfl | rfl | rfl | rfl | rfl | rfl | rfl | rfl <;> rfl) (Nat.le_of_ble_eq_true rfl) (Nat.le_of_ble_eq_true rfl) dX11_event_77 (fun q11 H hP hD hS => ?_)
      have hP : va_P D vwCl [(h0, .inr (17, zHS a)), ((a 1), .inl (cE, 5, .inr (.inr (.inr (.inr fe))))), (q11, .inr (7, [.int 0, .int 0, .int 0, .int 0, .int 0, .null, .null, .null, .null, .null, .null, .int 0, .int 0]))] H := hP
      have hD : va_D A [(h0, .inr (17, zHS a)), ((a 1), .inl (cE, 5, .inr (.inr (.inr (.inr fe))))), (q11, .inr (7, [.int 0, .int 0, .int 0, .int 0, .int 0, .null, .null, .null, .null, .null, .null, .int 0, .int 0]))] := hD
      refine W.widen (k := 1) (n := 13) (by omega) (by omega) ?_
      refine lv_dup hx hb dX11_event_80 rfl ?_
      refine lv_iload hx hb dX11_event_81 (lv_at hl 0 rfl) ?_
      refine lv_iload_n hx hb dX11_event_83 rfl (lv_at hl 2 rfl) ?_
      refine lv_iload_n hx hb dX11_event_84 rfl (lv_at hl 3 rfl) ?_
      refine lv_iload_n hx hb dX11_event_85 rfl (lv_at hl 4 rfl) ?_
      refine lv_iload hx hb dX11_event_86 (lv_at hl 5 rfl) ?_
      have hPc := hP.sub (ws' := [(q11, .inr (7, [.int 0, .int 0, .int 0, .int 0, .int 0, .null, .null, .null, .null, .null, .null, .int 0, .int 0]))]) [2] rfl
      have hDc := hD.sub (ws' := [(q11, .inr (7, [.int 0, .int 0, .int 0, .int 0, .int 0, .null, .null, .null, .null, .null, .null, .int 0, .int 0]))]) [2] (by decide) rfl
      have hKc := hK.sub (tys' := []) [] rfl
      have hFc := va_free (wc := [(q11, .inr (7, [.int 0, .int 0, .int 0, .int 0, .int 0, .null, .null, .null, .null, .null, .null, .int 0, .int 0]))]) hD hS hA [2] rfl
      refine va_callv (va_runIN (As := [.int 0, .int x1, .int x2, .int x3, .int x4]) (rest := [.ref q11, .int 0, .ref (a 1)]) ⟨hx, hb, hml, hown, hts⟩ (c_Event l hst D H.size q11 0 x1 x2 x3 x4 hkn hkf) ⟨va_cnB 5 hts (goodIn_sub (fun _ h => List.mem_cons_of_mem _ (List.mem_append_right _ (List.mem_append_right _ (List.mem_append_right _ (List.mem_append_right _ (List.mem_append_left _ h)))))) zX1_init_ws_good) rfl rfl rfl (hz.2.2.1 (.methodLinkNest RX11 104 yX1_init RX11) (by decide +kernel)) (hts (.initialized RX1) (by decide +kernel)) (by decide +kernel) ⟨Nat.le_of_ble_eq_true rfl, Nat.le_of_ble_eq_true rfl⟩, rfl, (hts (.instanceMethod yX1_init) (by decide +kernel))⟩ ⟨zPre.blind, zPre.mk hPc hKc hDc hz hS (fun q h => hFc q h)⟩ rfl rfl hl.1 rfl (lv_room (Nat.le_of_ble_eq_true rfl)) dX11_event_88 ⟨Nat.le_of_ble_eq_true rfl, Nat.le_of_ble_eq_true rfl⟩) hS (fun q _ h => hFc q h) (fun q h => hFc q h) (fun u t H1 locs ht9 hvm hw hB hz1 hk1 hS => ?_)
      refine W.widen (k := 151) (n := 1713) (by omega) (by omega) ?_
      obtain ⟨n12, n13, n14, n15, n16, n17, hP1, hK1, hD1⟩ := hB
      rw [ht9] at hP1
      have hK1 := va_K.moved hvm.symm hK1
      obtain ⟨hP, hD⟩ := va_join (wr := [(h0, .inr (17, zHS a)), ((a 1), .inl (cE, 5, .inr (.inr (.inr (.inr fe)))))]) (w1 := [(q11, .inr (7, [.int 0, .int x1, .int x2, .int x3, .int x4, .ref n12, .ref n13, .ref n14, .ref n15, .ref n16, .ref n17, .int 0, .int 0]))]) hP hD [2] [0, 1] rfl rfl (by decide) (by decide) hk1 hFc hP1 hD1
      have hK := (hK.sub (tys' := [(cE, .object "HeatStadium$Event")]) [0] rfl).app hK1
      generalize H1 = H at hP hS ⊢
      have hP : va_P D vwCl [(h0, .inr (17, zHS a)), ((a 1), .inl (cE, 5, .inr (.inr (.inr (.inr fe))))), (q11, .inr (7, [.int 0, .int x1, .int x2, .int x3, .int x4, .ref n12, .ref n13, .ref n14, .ref n15, .ref n16, .ref n17, .int 0, .int 0]))] H := hP
      have hD : va_D A [(h0, .inr (17, zHS a)), ((a 1), .inl (cE, 5, .inr (.inr (.inr (.inr fe))))), (q11, .inr (7, [.int 0, .int x1, .int x2, .int x3, .int x4, .ref n12, .ref n13, .ref n14, .ref n15, .ref n16, .ref n17, .int 0, .int 0]))] := hD
      have hK : va_K D vwCl [(cE, .object "HeatStadium$Event")] s := hK
      refine va_astq hx hb hK hP hD hS 1 0 2 7 rfl rfl rfl rfl (show vp_in 0 5 by unfold vp_in; decide) dX11_event_91 (fun H locs hP hD hS => ?_)
      have hP : va_P D vwCl [(h0, .inr (17, zHS a)), ((a 1), .inl (cE, 5, .inr (.inr (.inr (.inr (va_up fe (0 : Int32).toNatClampNeg (some q11))))))), (q11, .inr (7, [.int 0, .int x1, .int x2, .int x3, .int x4, .ref n12, .ref n13, .ref n14, .ref n15, .ref n16, .ref n17, .int 0, .int 0]))] H := hP
      have hD : va_D A [(h0, .inr (17, zHS a)), ((a 1), .inl (cE, 5, .inr (.inr (.inr (.inr (va_up fe (0 : Int32).toNatClampNeg (some q11))))))), (q11, .inr (7, [.int 0, .int x1, .int x2, .int x3, .int x4, .ref n12, .ref n13, .ref n14, .ref n15, .ref n16, .ref n17, .int 0, .int 0]))] := hD
      refine lv_aload_n hx hb dX11_event_92 rfl (lv_at hl 1 rfl) ?_
      refine lv_iload hx hb dX11_event_93 (lv_at hl 0 rfl) ?_
      refine lv_iconst (v := 1) hx hb dX11_event_95 (by decide) ?_
      refine lv_iadd hx hb dX11_event_96 ?_
      refine lv_topi (fun z18 ez18 => ?_)
      obtain rfl : z18 = 1 := ez18.trans (by decide)
      refine va_put (D := D) (ci := 17) (v := .int 1) (ty := .int) (C := RX11) (T := TX11) (N := 11) hx hb hts (by decide +kernel) tyX11 tyX11_ok nmX11 hown hK hP hD hS 0 rfl rfl 8 (by decide) (hts (.fieldLink RX11 64 "HeatStadium" "eventCount" "I") (by decide +kernel)) (fun _ h9 => h9) rfl (by decide +kernel) rfl rfl (Nat.le_of_ble_eq_true rfl) dX11_event_97 (fun H locs hP hD hS => ?_)
      have hP : va_P D vwCl [(h0, .inr (17, [.ref (a 0), .ref (a 1), .ref (a 2), .ref (a 3), .ref (a 4), .ref (a 5), .ref (a 6), .ref (a 7), .int 1, .int 0, .int 0])), ((a 1), .inl (cE, 5, .inr (.inr (.inr (.inr (va_up fe (0 : Int32).toNatClampNeg (some q11))))))), (q11, .inr (7, [.int 0, .int x1, .int x2, .int x3, .int x4, .ref n12, .ref n13, .ref n14, .ref n15, .ref n16, .ref n17, .int 0, .int 0]))] H := hP
      have hD : va_D A [(h0, .inr (17, [.ref (a 0), .ref (a 1), .ref (a 2), .ref (a 3), .ref (a 4), .ref (a 5), .ref (a 6), .ref (a 7), .int 1, .int 0, .int 0])), ((a 1), .inl (cE, 5, .inr (.inr (.inr (.inr (va_up fe (0 : Int32).toNatClampNeg (some q11))))))), (q11, .inr (7, [.int 0, .int x1, .int x2, .int x3, .int x4, .ref n12, .ref n13, .ref n14, .ref n15, .ref n16, .ref n17, .int 0, .int 0]))] := hD
      refine lv_iload hx hb dX11_event_100 (lv_at hl 0 rfl) ?_
      have hP9 := hP.sub (ws' := []) [] rfl
      have hD9 := hD.sub (ws' := []) [] (by decide) rfl
      have hK9 := hK.sub (tys' := []) [] rfl
      rw [← hAe] at hD9
      refine W.widen (k := 160) (n := 1800) (by omega) (by omega) ?_
      subst hAe
      exact W.iret (v := 0) hx hb hr (fun t ht9 hW => ⟨⟨0, (), rfl, rfl, ⟨by rw [ht9]; exact hP9, va_K.moved hW.alike hK9, hD9⟩⟩, hS.F ht9⟩) hS.2.2 dX11_event_102
    · refine lv_iload_n hx hb dX11_event_12 rfl (lv_at hl 1 rfl) ?_
      refine lv_bipush (v := 116) hx hb dX11_event_13 (by decide) ?_
      refine lv_icmp_eq (tgt := 28) hx hb dX11_event_15 (by decide) (fun _ => ?_) (fun c9 => absurd (hk.resolve_left c1 |>.resolve_left c10) c9)
      refine lv_iload_n hx hb dX11_event_28 rfl (lv_at hl 2 rfl) ?_
      refine lv_iconst (v := 1) hx hb dX11_event_29 (by decide) ?_
      refine lv_ldc (v := 999999) hx hb hown (hts (.constant RX11 97 (999999)) (by decide +kernel)) dX11_event_30 ?_
      have hPc := hP.sub (ws' := []) [] rfl
      have hDc := hD.sub (ws' := []) [] (by decide) rfl
      have hKc := hK.sub (tys' := []) [] rfl
      have hFc : ∀ q : Nat, s.heap.size ≤ q → A q := fun q h => hA q (Nat.le_trans hS.1 h)
      refine va_callv (va_runS (As := [.int x2, .int 1, .int 999999]) (rest := []) ⟨hx, hb, hml, hown, hts⟩ (c_requireRange_ok l hst D s.heap.size x2 1 999999 h2) (cwS 3 hts (goodIn_app (goodIn_of _ (by decide +kernel)) (goodIn_sub (fun _ h => List.mem_cons_of_mem _ (List.mem_append_right _ (List.mem_append_left _ h))) zrr1_good)) rfl rfl rfl (by decide +kernel) ⟨Nat.le_of_ble_eq_true rfl, Nat.le_of_ble_eq_true rfl⟩) ⟨zPre.blind, zPre.mk hPc hKc hDc hz hS (fun q h => hFc q h)⟩ rfl rfl hl.1 rfl (lv_room (Nat.le_of_ble_eq_true rfl)) dX11_event_32 ⟨Nat.le_of_ble_eq_true rfl, Nat.le_of_ble_eq_true rfl⟩) hS (fun q _ h => hFc q h) (fun q h => hFc q h) (fun u t H1 locs ht9 hvm hw hB hz1 hk1 hS => ?_)
      refine W.widen (k := 0) (n := 0) (by omega) (by omega) ?_
      have hP := zKeep hP hk1
      generalize H1 = H at hP hS ⊢
      have hP : va_P D vwCl [(h0, .inr (17, zHS a)), ((a 1), .inl (cE, 5, .inr (.inr (.inr (.inr fe)))))] H := hP
      refine lv_iload_n hx hb dX11_event_35 rfl (lv_at hl 3 rfl) ?_
      refine lv_iconst (v := 1) hx hb dX11_event_36 (by decide) ?_
      refine lv_iconst (v := 5) hx hb dX11_event_37 (by decide) ?_
      have hPc := hP.sub (ws' := []) [] rfl
      have hDc := hD.sub (ws' := []) [] (by decide) rfl
      have hKc := hK.sub (tys' := []) [] rfl
      have hFc : ∀ q : Nat, H.size ≤ q → A q := fun q h => hA q (Nat.le_trans hS.1 h)
      refine va_callv (va_runS (As := [.int x3, .int 1, .int 5]) (rest := []) ⟨hx, hb, hml, hown, hts⟩ (c_requireRange_ok l hst D H.size x3 1 5 h3) (cwS 3 hts (goodIn_app (goodIn_of _ (by decide +kernel)) (goodIn_sub (fun _ h => List.mem_cons_of_mem _ (List.mem_append_right _ (List.mem_append_left _ h))) zrr1_good)) rfl rfl rfl (by decide +kernel) ⟨Nat.le_of_ble_eq_true rfl, Nat.le_of_ble_eq_true rfl⟩) ⟨zPre.blind, zPre.mk hPc hKc hDc hz hS (fun q h => hFc q h)⟩ rfl rfl hl.1 rfl (lv_room (Nat.le_of_ble_eq_true rfl)) dX11_event_38 ⟨Nat.le_of_ble_eq_true rfl, Nat.le_of_ble_eq_true rfl⟩) hS (fun q _ h => hFc q h) (fun q h => hFc q h) (fun u t H1 locs ht9 hvm hw hB hz1 hk1 hS => ?_)
      refine W.widen (k := 0) (n := 0) (by omega) (by omega) ?_
      have hP := zKeep hP hk1
      generalize H1 = H at hP hS ⊢
      have hP : va_P D vwCl [(h0, .inr (17, zHS a)), ((a 1), .inl (cE, 5, .inr (.inr (.inr (.inr fe)))))] H := hP
      refine lv_iload hx hb dX11_event_41 (lv_at hl 4 rfl) ?_
      refine lv_iconst (v := 2) hx hb dX11_event_43 (by decide) ?_
      refine lv_bipush (v := 24) hx hb dX11_event_44 (by decide) ?_
      have hPc := hP.sub (ws' := []) [] rfl
      have hDc := hD.sub (ws' := []) [] (by decide) rfl
      have hKc := hK.sub (tys' := []) [] rfl
      have hFc : ∀ q : Nat, H.size ≤ q → A q := fun q h => hA q (Nat.le_trans hS.1 h)
      refine va_callv (va_runS (As := [.int x4, .int 2, .int 24]) (rest := []) ⟨hx, hb, hml, hown, hts⟩ (c_requireRange_ok l hst D H.size x4 2 24 h4) (cwS 3 hts (goodIn_app (goodIn_of _ (by decide +kernel)) (goodIn_sub (fun _ h => List.mem_cons_of_mem _ (List.mem_append_right _ (List.mem_append_left _ h))) zrr1_good)) rfl rfl rfl (by decide +kernel) ⟨Nat.le_of_ble_eq_true rfl, Nat.le_of_ble_eq_true rfl⟩) ⟨zPre.blind, zPre.mk hPc hKc hDc hz hS (fun q h => hFc q h)⟩ rfl rfl hl.1 rfl (lv_room (Nat.le_of_ble_eq_true rfl)) dX11_event_46 ⟨Nat.le_of_ble_eq_true rfl, Nat.le_of_ble_eq_true rfl⟩) hS (fun q _ h => hFc q h) (fun q h => hFc q h) (fun u t H1 locs ht9 hvm hw hB hz1 hk1 hS => ?_)
      refine W.widen (k := 0) (n := 0) (by omega) (by omega) ?_
      have hP := zKeep hP hk1
      generalize H1 = H at hP hS ⊢
      have hP : va_P D vwCl [(h0, .inr (17, zHS a)), ((a 1), .inl (cE, 5, .inr (.inr (.inr (.inr fe)))))] H := hP
      refine lv_aload_n hx hb dX11_event_49 rfl (lv_at hl 0 rfl) ?_
      refine va_get (D := D) (ci := 17) (v := .int 0) (C := RX11) (T := TX11) (N := 11) hx hb hts (by decide +kernel) hown hK hP 0 rfl rfl 8 (by decide) (hts (.fieldLink RX11 64 "HeatStadium" "eventCount" "I") (by decide +kernel)) (fun _ h9 => h9) rfl dX11_event_50 ?_
      refine lv_istore (lv' := [(5, .int 0), (0, .ref h0), (1, .int x1), (2, .int x2), (3, .int x3), (4, .int x4)]) hx hb dX11_event_53 hl (by decide) rfl (fun ls hl => ?_)
      refine lv_iload hx hb dX11_event_55 (lv_at hl 0 rfl) ?_
      refine lv_iconst (v := 5) hx hb dX11_event_57 (by decide) ?_
      refine lv_icmp_lt (tgt := 71) hx hb dX11_event_58 (by decide) (fun _ => ?_) (fun c => absurd (by decide) c)
      refine lv_aload_n hx hb dX11_event_71 rfl (lv_at hl 1 rfl) ?_
      refine va_get (D := D) (ci := 17) (v := .ref (a 1)) (C := RX11) (T := TX11) (N := 11) hx hb hts (by decide +kernel) hown hK hP 0 rfl rfl 1 (by decide) (hts (.fieldLink RX11 18 "HeatStadium" "events" "[LHeatStadium$Event;") (by decide +kernel)) (fun _ h9 => h9) rfl dX11_event_72 ?_
      refine lv_iload hx hb dX11_event_75 (lv_at hl 0 rfl) ?_
      refine va_new (ci := 7) (fs := [.int 0, .int 0, .int 0, .int 0, .int 0, .null, .null, .null, .null, .null, .null, .int 0, .int 0]) (C := RX1) (T := TX1) (N := 13) hx hb hts (by decide +kernel) tyX1 tyX1_ok hown (hts (.classLink RX11 16 RX1) (by decide +kernel)) (hts (.instantiable RX1 13) (by decide +kernel)) (hts (.initialized RX1) (by decide +kernel)) hK hP hD hS hA rfl (fun j hj => by rcases (show j = 0 ∨ j = 1 ∨ j = 2 ∨ j = 3 ∨ j = 4 ∨ j = 5 ∨ j = 6 ∨ j = 7 ∨ j = 8 ∨ j = 9 ∨ j = 10 ∨ j = 11 ∨ j = 12 by omega) with rfl | rfl | rfl | rfl | rfl | rfl | rfl | rfl | rfl | rfl | rfl | rfl | rfl <;> rfl) (Nat.le_of_ble_eq_true rfl) (Nat.le_of_ble_eq_true rfl) dX11_event_77 (fun q19 H hP hD hS => ?_)
      have hP : va_P D vwCl [(h0, .inr (17, zHS a)), ((a 1), .inl (cE, 5, .inr (.inr (.inr (.inr fe))))), (q19, .inr (7, [.int 0, .int 0, .int 0, .int 0, .int 0, .null, .null, .null, .null, .null, .null, .int 0, .int 0]))] H := hP
      have hD : va_D A [(h0, .inr (17, zHS a)), ((a 1), .inl (cE, 5, .inr (.inr (.inr (.inr fe))))), (q19, .inr (7, [.int 0, .int 0, .int 0, .int 0, .int 0, .null, .null, .null, .null, .null, .null, .int 0, .int 0]))] := hD
      refine W.widen (k := 1) (n := 13) (by omega) (by omega) ?_
      refine lv_dup hx hb dX11_event_80 rfl ?_
      refine lv_iload hx hb dX11_event_81 (lv_at hl 0 rfl) ?_
      refine lv_iload_n hx hb dX11_event_83 rfl (lv_at hl 2 rfl) ?_
      refine lv_iload_n hx hb dX11_event_84 rfl (lv_at hl 3 rfl) ?_
      refine lv_iload_n hx hb dX11_event_85 rfl (lv_at hl 4 rfl) ?_
      refine lv_iload hx hb dX11_event_86 (lv_at hl 5 rfl) ?_
      have hPc := hP.sub (ws' := [(q19, .inr (7, [.int 0, .int 0, .int 0, .int 0, .int 0, .null, .null, .null, .null, .null, .null, .int 0, .int 0]))]) [2] rfl
      have hDc := hD.sub (ws' := [(q19, .inr (7, [.int 0, .int 0, .int 0, .int 0, .int 0, .null, .null, .null, .null, .null, .null, .int 0, .int 0]))]) [2] (by decide) rfl
      have hKc := hK.sub (tys' := []) [] rfl
      have hFc := va_free (wc := [(q19, .inr (7, [.int 0, .int 0, .int 0, .int 0, .int 0, .null, .null, .null, .null, .null, .null, .int 0, .int 0]))]) hD hS hA [2] rfl
      refine va_callv (va_runIN (As := [.int 0, .int x1, .int x2, .int x3, .int x4]) (rest := [.ref q19, .int 0, .ref (a 1)]) ⟨hx, hb, hml, hown, hts⟩ (c_Event l hst D H.size q19 0 x1 x2 x3 x4 hkn hkf) ⟨va_cnB 5 hts (goodIn_sub (fun _ h => List.mem_cons_of_mem _ (List.mem_append_right _ (List.mem_append_right _ (List.mem_append_right _ (List.mem_append_right _ (List.mem_append_left _ h)))))) zX1_init_ws_good) rfl rfl rfl (hz.2.2.1 (.methodLinkNest RX11 104 yX1_init RX11) (by decide +kernel)) (hts (.initialized RX1) (by decide +kernel)) (by decide +kernel) ⟨Nat.le_of_ble_eq_true rfl, Nat.le_of_ble_eq_true rfl⟩, rfl, (hts (.instanceMethod yX1_init) (by decide +kernel))⟩ ⟨zPre.blind, zPre.mk hPc hKc hDc hz hS (fun q h => hFc q h)⟩ rfl rfl hl.1 rfl (lv_room (Nat.le_of_ble_eq_true rfl)) dX11_event_88 ⟨Nat.le_of_ble_eq_true rfl, Nat.le_of_ble_eq_true rfl⟩) hS (fun q _ h => hFc q h) (fun q h => hFc q h) (fun u t H1 locs ht9 hvm hw hB hz1 hk1 hS => ?_)
      refine W.widen (k := 151) (n := 1713) (by omega) (by omega) ?_
      obtain ⟨n20, n21, n22, n23, n24, n25, hP1, hK1, hD1⟩ := hB
      rw [ht9] at hP1
      have hK1 := va_K.moved hvm.symm hK1
      obtain ⟨hP, hD⟩ := va_join (wr := [(h0, .inr (17, zHS a)), ((a 1), .inl (cE, 5, .inr (.inr (.inr (.inr fe)))))]) (w1 := [(q19, .inr (7, [.int 0, .int x1, .int x2, .int x3, .int x4, .ref n20, .ref n21, .ref n22, .ref n23, .ref n24, .ref n25, .int 0, .int 0]))]) hP hD [2] [0, 1] rfl rfl (by decide) (by decide) hk1 hFc hP1 hD1
      have hK := (hK.sub (tys' := [(cE, .object "HeatStadium$Event")]) [0] rfl).app hK1
      generalize H1 = H at hP hS ⊢
      have hP : va_P D vwCl [(h0, .inr (17, zHS a)), ((a 1), .inl (cE, 5, .inr (.inr (.inr (.inr fe))))), (q19, .inr (7, [.int 0, .int x1, .int x2, .int x3, .int x4, .ref n20, .ref n21, .ref n22, .ref n23, .ref n24, .ref n25, .int 0, .int 0]))] H := hP
      have hD : va_D A [(h0, .inr (17, zHS a)), ((a 1), .inl (cE, 5, .inr (.inr (.inr (.inr fe))))), (q19, .inr (7, [.int 0, .int x1, .int x2, .int x3, .int x4, .ref n20, .ref n21, .ref n22, .ref n23, .ref n24, .ref n25, .int 0, .int 0]))] := hD
      have hK : va_K D vwCl [(cE, .object "HeatStadium$Event")] s := hK
      refine va_astq hx hb hK hP hD hS 1 0 2 7 rfl rfl rfl rfl (show vp_in 0 5 by unfold vp_in; decide) dX11_event_91 (fun H locs hP hD hS => ?_)
      have hP : va_P D vwCl [(h0, .inr (17, zHS a)), ((a 1), .inl (cE, 5, .inr (.inr (.inr (.inr (va_up fe (0 : Int32).toNatClampNeg (some q19))))))), (q19, .inr (7, [.int 0, .int x1, .int x2, .int x3, .int x4, .ref n20, .ref n21, .ref n22, .ref n23, .ref n24, .ref n25, .int 0, .int 0]))] H := hP
      have hD : va_D A [(h0, .inr (17, zHS a)), ((a 1), .inl (cE, 5, .inr (.inr (.inr (.inr (va_up fe (0 : Int32).toNatClampNeg (some q19))))))), (q19, .inr (7, [.int 0, .int x1, .int x2, .int x3, .int x4, .ref n20, .ref n21, .ref n22, .ref n23, .ref n24, .ref n25, .int 0, .int 0]))] := hD
      refine lv_aload_n hx hb dX11_event_92 rfl (lv_at hl 1 rfl) ?_
      refine lv_iload hx hb dX11_event_93 (lv_at hl 0 rfl) ?_
      refine lv_iconst (v := 1) hx hb dX11_event_95 (by decide) ?_
      refine lv_iadd hx hb dX11_event_96 ?_
      refine lv_topi (fun z26 ez26 => ?_)
      obtain rfl : z26 = 1 := ez26.trans (by decide)
      refine va_put (D := D) (ci := 17) (v := .int 1) (ty := .int) (C := RX11) (T := TX11) (N := 11) hx hb hts (by decide +kernel) tyX11 tyX11_ok nmX11 hown hK hP hD hS 0 rfl rfl 8 (by decide) (hts (.fieldLink RX11 64 "HeatStadium" "eventCount" "I") (by decide +kernel)) (fun _ h9 => h9) rfl (by decide +kernel) rfl rfl (Nat.le_of_ble_eq_true rfl) dX11_event_97 (fun H locs hP hD hS => ?_)
      have hP : va_P D vwCl [(h0, .inr (17, [.ref (a 0), .ref (a 1), .ref (a 2), .ref (a 3), .ref (a 4), .ref (a 5), .ref (a 6), .ref (a 7), .int 1, .int 0, .int 0])), ((a 1), .inl (cE, 5, .inr (.inr (.inr (.inr (va_up fe (0 : Int32).toNatClampNeg (some q19))))))), (q19, .inr (7, [.int 0, .int x1, .int x2, .int x3, .int x4, .ref n20, .ref n21, .ref n22, .ref n23, .ref n24, .ref n25, .int 0, .int 0]))] H := hP
      have hD : va_D A [(h0, .inr (17, [.ref (a 0), .ref (a 1), .ref (a 2), .ref (a 3), .ref (a 4), .ref (a 5), .ref (a 6), .ref (a 7), .int 1, .int 0, .int 0])), ((a 1), .inl (cE, 5, .inr (.inr (.inr (.inr (va_up fe (0 : Int32).toNatClampNeg (some q19))))))), (q19, .inr (7, [.int 0, .int x1, .int x2, .int x3, .int x4, .ref n20, .ref n21, .ref n22, .ref n23, .ref n24, .ref n25, .int 0, .int 0]))] := hD
      refine lv_iload hx hb dX11_event_100 (lv_at hl 0 rfl) ?_
      have hP9 := hP.sub (ws' := []) [] rfl
      have hD9 := hD.sub (ws' := []) [] (by decide) rfl
      have hK9 := hK.sub (tys' := []) [] rfl
      rw [← hAe] at hD9
      refine W.widen (k := 160) (n := 1800) (by omega) (by omega) ?_
      subst hAe
      exact W.iret (v := 0) hx hb hr (fun t ht9 hW => ⟨⟨0, (), rfl, rfl, ⟨by rw [ht9]; exact hP9, va_K.moved hW.alike hK9, hD9⟩⟩, hS.F ht9⟩) hS.2.2 dX11_event_102

def zev_no1 : List Cond := .code yX11_event cX11_event 6 (some .int) :: ([.classLink RX11 92 "java/lang/IllegalArgumentException", .initialized "java/lang/IllegalArgumentException"] ++ (((vx_atS RX11 96 "java/lang/IllegalArgumentException" ["java/lang/RuntimeException", "java/lang/Exception"]).filter goodWord) ++ ([])))
theorem zev_no1_good : zev_no1.all goodWord = true := by decide +kernel
set_option maxHeartbeats 4000000 in
set_option maxRecDepth 100000 in
/-- event: refused: throws -/
theorem c_event_no1 (l : Launch) (hst : l.stackTraces = false) (D : va_G) (sz : Nat) (h0 : Nat) (a : Nat → Nat) (x1 x2 x3 x4 : Int32) (hk : ¬ x1 = 114 ∧ ¬ x1 = 106 ∧ ¬ x1 = 116) : vx_Met l yX11_event zev_no1 (zR 3 1 6) (zPre [.ref h0, .int x1, .int x2, .int x3, .int x4] D [(h0, .inr (17, zHS a))] [] (fun q : Nat => sz ≤ q) sz) (va_Qi (S := Unit) (fun _ _ => False) (fun _ _ => True) (fun q : Nat => sz ≤ q)) (zThr "java/lang/IllegalArgumentException" (fun q : Nat => sz ≤ q)) 1 6 (fun q : Nat => sz ≤ q) := by
  refine vx_ofW (cc := cX11_event) (maxL := 6) (ret := (some .int)) (by decide) rfl ?_
  intro p e s m args below meth c s₁ B hml ht hv
  obtain ⟨rfl, hsz, hP, hK, hD0, hz⟩ := hv
  have hx := B.exec
  have hb := B.bytes
  have hr := B.returns
  have hts := atoms_spec (ws := zev_no1) B.pre
  have hown : s.vm.findClass RX11 = some m.cls := findClass_of_methodNamed B.named
  have hlocks := B.notSynchronized
  subst hsz
  obtain ⟨A, hAe⟩ : ∃ A : Nat → Prop, A = (fun q : Nat => s.heap.size ≤ q) := ⟨_, rfl⟩
  rw [← hAe] at hz ⊢
  have hA : ∀ q : Nat, s.heap.size ≤ q → A q := fun q h => by rw [hAe]; exact h
  have hD := hD0
  have hS : va_S A s.heap s.heap [] := va_S.rf
  have hP : va_P D vwCl [(h0, .inr (17, zHS a))] s.heap := hP
  have hl := lv_entry ([.ref h0, .int x1, .int x2, .int x3, .int x4]) (n := 6) (Nat.le_of_ble_eq_true rfl)
  rw [lg_entry_eq]
  generalize (lg_sl ([.ref h0, .int x1, .int x2, .int x3, .int x4]) ++ List.replicate (6 - (lg_sl ([.ref h0, .int x1, .int x2, .int x3, .int x4])).length) Slot.unset).toArray = ls at hl ⊢
  have hl : lv_has ls 6 [(0, .ref h0), (1, .int x1), (2, .int x2), (3, .int x3), (4, .int x4)] := hl
  refine lv_iload_n hx hb dX11_event_0 rfl (lv_at hl 1 rfl) ?_
  refine lv_bipush (v := 114) hx hb dX11_event_1 (by decide) ?_
  refine lv_icmp_eq (tgt := 28) hx hb dX11_event_3 (by decide) (fun c9 => absurd c9 hk.1) (fun _ => ?_)
  refine lv_iload_n hx hb dX11_event_6 rfl (lv_at hl 1 rfl) ?_
  refine lv_bipush (v := 106) hx hb dX11_event_7 (by decide) ?_
  refine lv_icmp_eq (tgt := 28) hx hb dX11_event_9 (by decide) (fun c9 => absurd c9 hk.2.1) (fun _ => ?_)
  refine lv_iload_n hx hb dX11_event_12 rfl (lv_at hl 1 rfl) ?_
  refine lv_bipush (v := 116) hx hb dX11_event_13 (by decide) ?_
  refine lv_icmp_eq (tgt := 28) hx hb dX11_event_15 (by decide) (fun c9 => absurd c9 hk.2.2) (fun _ => ?_)
  obtain ⟨sa, hstr⟩ := hz.2.1 (RX11, 94, "no such kind") (by decide +kernel)
  exact vx_throwS (names := ["java/lang/RuntimeException", "java/lang/Exception"]) hx hb hst hown (by decide +kernel) (by decide +kernel) (hts (.classLink RX11 92 "java/lang/IllegalArgumentException") (by decide +kernel)) (hts (.initialized "java/lang/IllegalArgumentException") (by decide +kernel)) hstr (vx_hat (B := zWords) (fun w hw => hts w (List.mem_cons_of_mem _ (List.mem_append_right _ (List.mem_append_left _ hw)))) (by decide +kernel) (fun w hw => hz.w w hw)) (List.all_eq_true.mp (by decide +kernel)) hz.1.1 hz.1.2 hS (hml ▸ hl.1) dX11_event_18 dX11_event_21 dX11_event_22 dX11_event_24 dX11_event_27 (fun x hx => (ht x hx).elim) (Nat.le_of_ble_eq_true rfl) (Nat.le_of_ble_eq_true rfl) (Nat.le_of_ble_eq_true rfl) (Nat.le_of_ble_eq_true rfl) hlocks (fun t _ h1 h2 => ⟨(), trivial, rfl, zF hS h1 h2⟩) hS.2.2 (Nat.le_of_ble_eq_true rfl) (Nat.le_of_ble_eq_true rfl)

def zev_no2 : List Cond := .code yX11_event cX11_event 6 (some .int) :: ([.constant RX11 97 (999999), .methodLink RX11 98 yX11_requireRange, .static yX11_requireRange, .initialized RX11] ++ (zrr2 ++ ([])))
theorem zev_no2_good : zev_no2.all goodWord = true := by decide +kernel
set_option maxHeartbeats 4000000 in
set_option maxRecDepth 100000 in
/-- event: refused: throws -/
theorem c_event_no2 (l : Launch) (hst : l.stackTraces = false) (D : va_G) (sz : Nat) (h0 : Nat) (a : Nat → Nat) (x1 x2 x3 x4 : Int32) (hk : x1 = 114 ∨ x1 = 106 ∨ x1 = 116) (h2 : zin x2 1 999999 = 0) : vx_Met l yX11_event zev_no2 (zR 3 1 6) (zPre [.ref h0, .int x1, .int x2, .int x3, .int x4] D [(h0, .inr (17, zHS a))] [] (fun q : Nat => sz ≤ q) sz) (va_Qi (S := Unit) (fun _ _ => False) (fun _ _ => True) (fun q : Nat => sz ≤ q)) (zThr "java/lang/IllegalArgumentException" (fun q : Nat => sz ≤ q)) 1 6 (fun q : Nat => sz ≤ q) := by
  refine vx_ofW (cc := cX11_event) (maxL := 6) (ret := (some .int)) (by decide) rfl ?_
  intro p e s m args below meth c s₁ B hml ht hv
  obtain ⟨rfl, hsz, hP, hK, hD0, hz⟩ := hv
  have hx := B.exec
  have hb := B.bytes
  have hr := B.returns
  have hts := atoms_spec (ws := zev_no2) B.pre
  have hown : s.vm.findClass RX11 = some m.cls := findClass_of_methodNamed B.named
  have hlocks := B.notSynchronized
  subst hsz
  obtain ⟨A, hAe⟩ : ∃ A : Nat → Prop, A = (fun q : Nat => s.heap.size ≤ q) := ⟨_, rfl⟩
  rw [← hAe] at hz ⊢
  have hA : ∀ q : Nat, s.heap.size ≤ q → A q := fun q h => by rw [hAe]; exact h
  have hD := hD0
  have hS : va_S A s.heap s.heap [] := va_S.rf
  have hP : va_P D vwCl [(h0, .inr (17, zHS a))] s.heap := hP
  have hl := lv_entry ([.ref h0, .int x1, .int x2, .int x3, .int x4]) (n := 6) (Nat.le_of_ble_eq_true rfl)
  rw [lg_entry_eq]
  generalize (lg_sl ([.ref h0, .int x1, .int x2, .int x3, .int x4]) ++ List.replicate (6 - (lg_sl ([.ref h0, .int x1, .int x2, .int x3, .int x4])).length) Slot.unset).toArray = ls at hl ⊢
  have hl : lv_has ls 6 [(0, .ref h0), (1, .int x1), (2, .int x2), (3, .int x3), (4, .int x4)] := hl
  refine lv_iload_n hx hb dX11_event_0 rfl (lv_at hl 1 rfl) ?_
  refine lv_bipush (v := 114) hx hb dX11_event_1 (by decide) ?_
  refine lv_icmp_eq (tgt := 28) hx hb dX11_event_3 (by decide) (fun c1 => ?_) (fun c1 => ?_)
  · refine lv_iload_n hx hb dX11_event_28 rfl (lv_at hl 2 rfl) ?_
    refine lv_iconst (v := 1) hx hb dX11_event_29 (by decide) ?_
    refine lv_ldc (v := 999999) hx hb hown (hts (.constant RX11 97 (999999)) (by decide +kernel)) dX11_event_30 ?_
    have hPc := hP.sub (ws' := []) [] rfl
    have hDc := hD.sub (ws' := []) [] (by decide) rfl
    have hKc := hK.sub (tys' := []) [] rfl
    have hFc : ∀ q : Nat, s.heap.size ≤ q → A q := fun q h => hA q (Nat.le_trans hS.1 h)
    refine vx_callv (vx_runS (As := [.int x2, .int 1, .int 999999]) (rest := []) ⟨hx, hb, hml, hown, hts⟩ (c_requireRange_no l hst D s.heap.size x2 1 999999 h2) (cwS 3 hts (goodIn_app (goodIn_of _ (by decide +kernel)) (goodIn_sub (fun _ h => List.mem_cons_of_mem _ (List.mem_append_right _ (List.mem_append_left _ h))) zrr2_good)) rfl rfl rfl (by decide +kernel) ⟨Nat.le_of_ble_eq_true rfl, Nat.le_of_ble_eq_true rfl⟩) ⟨zPre.blind, zPre.mk hPc hKc hDc hz hS (fun q h => hFc q h)⟩ rfl rfl hl.1 rfl (lv_room (Nat.le_of_ble_eq_true rfl)) dX11_event_32 ⟨Nat.le_of_ble_eq_true rfl, Nat.le_of_ble_eq_true rfl⟩) hS (fun q _ h => hFc q h) (fun q h => hFc q h) (fun q _ h => hFc q h) (fun E9 ce q9 u t H1 locs ht9 hvm hpx hBX hz1 hk1 hS hcell hv9 hcl => ?_) (fun _ t H1 locs _ _ hw _ _ _ _ => hw.elim)
    · cases hBX
      exact vx_out (fun x hx => (ht x hx).elim) hlocks hcell hv9 hcl (fun t9 ht9 _ => ⟨(), trivial, rfl, hS.F ht9⟩) hS.2.2 (Nat.le_of_ble_eq_true rfl) (Nat.le_of_ble_eq_true rfl)
  · refine lv_iload_n hx hb dX11_event_6 rfl (lv_at hl 1 rfl) ?_
    refine lv_bipush (v := 106) hx hb dX11_event_7 (by decide) ?_
    refine lv_icmp_eq (tgt := 28) hx hb dX11_event_9 (by decide) (fun c2 => ?_) (fun c2 => ?_)
    · refine lv_iload_n hx hb dX11_event_28 rfl (lv_at hl 2 rfl) ?_
      refine lv_iconst (v := 1) hx hb dX11_event_29 (by decide) ?_
      refine lv_ldc (v := 999999) hx hb hown (hts (.constant RX11 97 (999999)) (by decide +kernel)) dX11_event_30 ?_
      have hPc := hP.sub (ws' := []) [] rfl
      have hDc := hD.sub (ws' := []) [] (by decide) rfl
      have hKc := hK.sub (tys' := []) [] rfl
      have hFc : ∀ q : Nat, s.heap.size ≤ q → A q := fun q h => hA q (Nat.le_trans hS.1 h)
      refine vx_callv (vx_runS (As := [.int x2, .int 1, .int 999999]) (rest := []) ⟨hx, hb, hml, hown, hts⟩ (c_requireRange_no l hst D s.heap.size x2 1 999999 h2) (cwS 3 hts (goodIn_app (goodIn_of _ (by decide +kernel)) (goodIn_sub (fun _ h => List.mem_cons_of_mem _ (List.mem_append_right _ (List.mem_append_left _ h))) zrr2_good)) rfl rfl rfl (by decide +kernel) ⟨Nat.le_of_ble_eq_true rfl, Nat.le_of_ble_eq_true rfl⟩) ⟨zPre.blind, zPre.mk hPc hKc hDc hz hS (fun q h => hFc q h)⟩ rfl rfl hl.1 rfl (lv_room (Nat.le_of_ble_eq_true rfl)) dX11_event_32 ⟨Nat.le_of_ble_eq_true rfl, Nat.le_of_ble_eq_true rfl⟩) hS (fun q _ h => hFc q h) (fun q h => hFc q h) (fun q _ h => hFc q h) (fun E9 ce q9 u t H1 locs ht9 hvm hpx hBX hz1 hk1 hS hcell hv9 hcl => ?_) (fun _ t H1 locs _ _ hw _ _ _ _ => hw.elim)
      · cases hBX
        exact vx_out (fun x hx => (ht x hx).elim) hlocks hcell hv9 hcl (fun t9 ht9 _ => ⟨(), trivial, rfl, hS.F ht9⟩) hS.2.2 (Nat.le_of_ble_eq_true rfl) (Nat.le_of_ble_eq_true rfl)
    · refine lv_iload_n hx hb dX11_event_12 rfl (lv_at hl 1 rfl) ?_
      refine lv_bipush (v := 116) hx hb dX11_event_13 (by decide) ?_
      refine lv_icmp_eq (tgt := 28) hx hb dX11_event_15 (by decide) (fun _ => ?_) (fun c9 => absurd (hk.resolve_left c1 |>.resolve_left c2) c9)
      refine lv_iload_n hx hb dX11_event_28 rfl (lv_at hl 2 rfl) ?_
      refine lv_iconst (v := 1) hx hb dX11_event_29 (by decide) ?_
      refine lv_ldc (v := 999999) hx hb hown (hts (.constant RX11 97 (999999)) (by decide +kernel)) dX11_event_30 ?_
      have hPc := hP.sub (ws' := []) [] rfl
      have hDc := hD.sub (ws' := []) [] (by decide) rfl
      have hKc := hK.sub (tys' := []) [] rfl
      have hFc : ∀ q : Nat, s.heap.size ≤ q → A q := fun q h => hA q (Nat.le_trans hS.1 h)
      refine vx_callv (vx_runS (As := [.int x2, .int 1, .int 999999]) (rest := []) ⟨hx, hb, hml, hown, hts⟩ (c_requireRange_no l hst D s.heap.size x2 1 999999 h2) (cwS 3 hts (goodIn_app (goodIn_of _ (by decide +kernel)) (goodIn_sub (fun _ h => List.mem_cons_of_mem _ (List.mem_append_right _ (List.mem_append_left _ h))) zrr2_good)) rfl rfl rfl (by decide +kernel) ⟨Nat.le_of_ble_eq_true rfl, Nat.le_of_ble_eq_true rfl⟩) ⟨zPre.blind, zPre.mk hPc hKc hDc hz hS (fun q h => hFc q h)⟩ rfl rfl hl.1 rfl (lv_room (Nat.le_of_ble_eq_true rfl)) dX11_event_32 ⟨Nat.le_of_ble_eq_true rfl, Nat.le_of_ble_eq_true rfl⟩) hS (fun q _ h => hFc q h) (fun q h => hFc q h) (fun q _ h => hFc q h) (fun E9 ce q9 u t H1 locs ht9 hvm hpx hBX hz1 hk1 hS hcell hv9 hcl => ?_) (fun _ t H1 locs _ _ hw _ _ _ _ => hw.elim)
      · cases hBX
        exact vx_out (fun x hx => (ht x hx).elim) hlocks hcell hv9 hcl (fun t9 ht9 _ => ⟨(), trivial, rfl, hS.F ht9⟩) hS.2.2 (Nat.le_of_ble_eq_true rfl) (Nat.le_of_ble_eq_true rfl)

def zev_no3 : List Cond := .code yX11_event cX11_event 6 (some .int) :: ([.constant RX11 97 (999999), .methodLink RX11 98 yX11_requireRange, .static yX11_requireRange, .initialized RX11] ++ (zrr1 ++ (zrr2 ++ ([]))))
theorem zev_no3_good : zev_no3.all goodWord = true := by decide +kernel
set_option maxHeartbeats 4000000 in
set_option maxRecDepth 100000 in
/-- event: refused: throws -/
theorem c_event_no3 (l : Launch) (hst : l.stackTraces = false) (D : va_G) (sz : Nat) (h0 : Nat) (a : Nat → Nat) (x1 x2 x3 x4 : Int32) (hk : x1 = 114 ∨ x1 = 106 ∨ x1 = 116) (h2 : zin x2 1 999999 = 1) (h3 : zin x3 1 5 = 0) : vx_Met l yX11_event zev_no3 (zR 3 1 6) (zPre [.ref h0, .int x1, .int x2, .int x3, .int x4] D [(h0, .inr (17, zHS a))] [] (fun q : Nat => sz ≤ q) sz) (va_Qi (S := Unit) (fun _ _ => False) (fun _ _ => True) (fun q : Nat => sz ≤ q)) (zThr "java/lang/IllegalArgumentException" (fun q : Nat => sz ≤ q)) 1 6 (fun q : Nat => sz ≤ q) := by
  refine vx_ofW (cc := cX11_event) (maxL := 6) (ret := (some .int)) (by decide) rfl ?_
  intro p e s m args below meth c s₁ B hml ht hv
  obtain ⟨rfl, hsz, hP, hK, hD0, hz⟩ := hv
  have hx := B.exec
  have hb := B.bytes
  have hr := B.returns
  have hts := atoms_spec (ws := zev_no3) B.pre
  have hown : s.vm.findClass RX11 = some m.cls := findClass_of_methodNamed B.named
  have hlocks := B.notSynchronized
  subst hsz
  obtain ⟨A, hAe⟩ : ∃ A : Nat → Prop, A = (fun q : Nat => s.heap.size ≤ q) := ⟨_, rfl⟩
  rw [← hAe] at hz ⊢
  have hA : ∀ q : Nat, s.heap.size ≤ q → A q := fun q h => by rw [hAe]; exact h
  have hD := hD0
  have hS : va_S A s.heap s.heap [] := va_S.rf
  have hP : va_P D vwCl [(h0, .inr (17, zHS a))] s.heap := hP
  have hl := lv_entry ([.ref h0, .int x1, .int x2, .int x3, .int x4]) (n := 6) (Nat.le_of_ble_eq_true rfl)
  rw [lg_entry_eq]
  generalize (lg_sl ([.ref h0, .int x1, .int x2, .int x3, .int x4]) ++ List.replicate (6 - (lg_sl ([.ref h0, .int x1, .int x2, .int x3, .int x4])).length) Slot.unset).toArray = ls at hl ⊢
  have hl : lv_has ls 6 [(0, .ref h0), (1, .int x1), (2, .int x2), (3, .int x3), (4, .int x4)] := hl
  refine lv_iload_n hx hb dX11_event_0 rfl (lv_at hl 1 rfl) ?_
  refine lv_bipush (v := 114) hx hb dX11_event_1 (by decide) ?_
  refine lv_icmp_eq (tgt := 28) hx hb dX11_event_3 (by decide) (fun c1 => ?_) (fun c1 => ?_)
  · refine lv_iload_n hx hb dX11_event_28 rfl (lv_at hl 2 rfl) ?_
    refine lv_iconst (v := 1) hx hb dX11_event_29 (by decide) ?_
    refine lv_ldc (v := 999999) hx hb hown (hts (.constant RX11 97 (999999)) (by decide +kernel)) dX11_event_30 ?_
    have hPc := hP.sub (ws' := []) [] rfl
    have hDc := hD.sub (ws' := []) [] (by decide) rfl
    have hKc := hK.sub (tys' := []) [] rfl
    have hFc : ∀ q : Nat, s.heap.size ≤ q → A q := fun q h => hA q (Nat.le_trans hS.1 h)
    refine va_callv (va_runS (As := [.int x2, .int 1, .int 999999]) (rest := []) ⟨hx, hb, hml, hown, hts⟩ (c_requireRange_ok l hst D s.heap.size x2 1 999999 h2) (cwS 3 hts (goodIn_app (goodIn_of _ (by decide +kernel)) (goodIn_sub (fun _ h => List.mem_cons_of_mem _ (List.mem_append_right _ (List.mem_append_left _ h))) zrr1_good)) rfl rfl rfl (by decide +kernel) ⟨Nat.le_of_ble_eq_true rfl, Nat.le_of_ble_eq_true rfl⟩) ⟨zPre.blind, zPre.mk hPc hKc hDc hz hS (fun q h => hFc q h)⟩ rfl rfl hl.1 rfl (lv_room (Nat.le_of_ble_eq_true rfl)) dX11_event_32 ⟨Nat.le_of_ble_eq_true rfl, Nat.le_of_ble_eq_true rfl⟩) hS (fun q _ h => hFc q h) (fun q h => hFc q h) (fun u t H1 locs ht9 hvm hw hB hz1 hk1 hS => ?_)
    refine W.widen (k := 0) (n := 0) (by omega) (by omega) ?_
    have hP := zKeep hP hk1
    generalize H1 = H at hP hS ⊢
    have hP : va_P D vwCl [(h0, .inr (17, zHS a))] H := hP
    refine lv_iload_n hx hb dX11_event_35 rfl (lv_at hl 3 rfl) ?_
    refine lv_iconst (v := 1) hx hb dX11_event_36 (by decide) ?_
    refine lv_iconst (v := 5) hx hb dX11_event_37 (by decide) ?_
    have hPc := hP.sub (ws' := []) [] rfl
    have hDc := hD.sub (ws' := []) [] (by decide) rfl
    have hKc := hK.sub (tys' := []) [] rfl
    have hFc : ∀ q : Nat, H.size ≤ q → A q := fun q h => hA q (Nat.le_trans hS.1 h)
    refine vx_callv (vx_runS (As := [.int x3, .int 1, .int 5]) (rest := []) ⟨hx, hb, hml, hown, hts⟩ (c_requireRange_no l hst D H.size x3 1 5 h3) (cwS 3 hts (goodIn_app (goodIn_of _ (by decide +kernel)) (goodIn_sub (fun _ h => List.mem_cons_of_mem _ (List.mem_append_right _ (List.mem_append_right _ (List.mem_append_left _ h)))) zrr2_good)) rfl rfl rfl (by decide +kernel) ⟨Nat.le_of_ble_eq_true rfl, Nat.le_of_ble_eq_true rfl⟩) ⟨zPre.blind, zPre.mk hPc hKc hDc hz hS (fun q h => hFc q h)⟩ rfl rfl hl.1 rfl (lv_room (Nat.le_of_ble_eq_true rfl)) dX11_event_38 ⟨Nat.le_of_ble_eq_true rfl, Nat.le_of_ble_eq_true rfl⟩) hS (fun q _ h => hFc q h) (fun q h => hFc q h) (fun q _ h => hFc q h) (fun E9 ce q9 u t H1 locs ht9 hvm hpx hBX hz1 hk1 hS hcell hv9 hcl => ?_) (fun _ t H1 locs _ _ hw _ _ _ _ => hw.elim)
    · cases hBX
      exact vx_out (fun x hx => (ht x hx).elim) hlocks hcell hv9 hcl (fun t9 ht9 _ => ⟨(), trivial, rfl, hS.F ht9⟩) hS.2.2 (Nat.le_of_ble_eq_true rfl) (Nat.le_of_ble_eq_true rfl)
  · refine lv_iload_n hx hb dX11_event_6 rfl (lv_at hl 1 rfl) ?_
    refine lv_bipush (v := 106) hx hb dX11_event_7 (by decide) ?_
    refine lv_icmp_eq (tgt := 28) hx hb dX11_event_9 (by decide) (fun c2 => ?_) (fun c2 => ?_)
    · refine lv_iload_n hx hb dX11_event_28 rfl (lv_at hl 2 rfl) ?_
      refine lv_iconst (v := 1) hx hb dX11_event_29 (by decide) ?_
      refine lv_ldc (v := 999999) hx hb hown (hts (.constant RX11 97 (999999)) (by decide +kernel)) dX11_event_30 ?_
      have hPc := hP.sub (ws' := []) [] rfl
      have hDc := hD.sub (ws' := []) [] (by decide) rfl
      have hKc := hK.sub (tys' := []) [] rfl
      have hFc : ∀ q : Nat, s.heap.size ≤ q → A q := fun q h => hA q (Nat.le_trans hS.1 h)
      refine va_callv (va_runS (As := [.int x2, .int 1, .int 999999]) (rest := []) ⟨hx, hb, hml, hown, hts⟩ (c_requireRange_ok l hst D s.heap.size x2 1 999999 h2) (cwS 3 hts (goodIn_app (goodIn_of _ (by decide +kernel)) (goodIn_sub (fun _ h => List.mem_cons_of_mem _ (List.mem_append_right _ (List.mem_append_left _ h))) zrr1_good)) rfl rfl rfl (by decide +kernel) ⟨Nat.le_of_ble_eq_true rfl, Nat.le_of_ble_eq_true rfl⟩) ⟨zPre.blind, zPre.mk hPc hKc hDc hz hS (fun q h => hFc q h)⟩ rfl rfl hl.1 rfl (lv_room (Nat.le_of_ble_eq_true rfl)) dX11_event_32 ⟨Nat.le_of_ble_eq_true rfl, Nat.le_of_ble_eq_true rfl⟩) hS (fun q _ h => hFc q h) (fun q h => hFc q h) (fun u t H1 locs ht9 hvm hw hB hz1 hk1 hS => ?_)
      refine W.widen (k := 0) (n := 0) (by omega) (by omega) ?_
      have hP := zKeep hP hk1
      generalize H1 = H at hP hS ⊢
      have hP : va_P D vwCl [(h0, .inr (17, zHS a))] H := hP
      refine lv_iload_n hx hb dX11_event_35 rfl (lv_at hl 3 rfl) ?_
      refine lv_iconst (v := 1) hx hb dX11_event_36 (by decide) ?_
      refine lv_iconst (v := 5) hx hb dX11_event_37 (by decide) ?_
      have hPc := hP.sub (ws' := []) [] rfl
      have hDc := hD.sub (ws' := []) [] (by decide) rfl
      have hKc := hK.sub (tys' := []) [] rfl
      have hFc : ∀ q : Nat, H.size ≤ q → A q := fun q h => hA q (Nat.le_trans hS.1 h)
      refine vx_callv (vx_runS (As := [.int x3, .int 1, .int 5]) (rest := []) ⟨hx, hb, hml, hown, hts⟩ (c_requireRange_no l hst D H.size x3 1 5 h3) (cwS 3 hts (goodIn_app (goodIn_of _ (by decide +kernel)) (goodIn_sub (fun _ h => List.mem_cons_of_mem _ (List.mem_append_right _ (List.mem_append_right _ (List.mem_append_left _ h)))) zrr2_good)) rfl rfl rfl (by decide +kernel) ⟨Nat.le_of_ble_eq_true rfl, Nat.le_of_ble_eq_true rfl⟩) ⟨zPre.blind, zPre.mk hPc hKc hDc hz hS (fun q h => hFc q h)⟩ rfl rfl hl.1 rfl (lv_room (Nat.le_of_ble_eq_true rfl)) dX11_event_38 ⟨Nat.le_of_ble_eq_true rfl, Nat.le_of_ble_eq_true rfl⟩) hS (fun q _ h => hFc q h) (fun q h => hFc q h) (fun q _ h => hFc q h) (fun E9 ce q9 u t H1 locs ht9 hvm hpx hBX hz1 hk1 hS hcell hv9 hcl => ?_) (fun _ t H1 locs _ _ hw _ _ _ _ => hw.elim)
      · cases hBX
        exact vx_out (fun x hx => (ht x hx).elim) hlocks hcell hv9 hcl (fun t9 ht9 _ => ⟨(), trivial, rfl, hS.F ht9⟩) hS.2.2 (Nat.le_of_ble_eq_true rfl) (Nat.le_of_ble_eq_true rfl)
    · refine lv_iload_n hx hb dX11_event_12 rfl (lv_at hl 1 rfl) ?_
      refine lv_bipush (v := 116) hx hb dX11_event_13 (by decide) ?_
      refine lv_icmp_eq (tgt := 28) hx hb dX11_event_15 (by decide) (fun _ => ?_) (fun c9 => absurd (hk.resolve_left c1 |>.resolve_left c2) c9)
      refine lv_iload_n hx hb dX11_event_28 rfl (lv_at hl 2 rfl) ?_
      refine lv_iconst (v := 1) hx hb dX11_event_29 (by decide) ?_
      refine lv_ldc (v := 999999) hx hb hown (hts (.constant RX11 97 (999999)) (by decide +kernel)) dX11_event_30 ?_
      have hPc := hP.sub (ws' := []) [] rfl
      have hDc := hD.sub (ws' := []) [] (by decide) rfl
      have hKc := hK.sub (tys' := []) [] rfl
      have hFc : ∀ q : Nat, s.heap.size ≤ q → A q := fun q h => hA q (Nat.le_trans hS.1 h)
      refine va_callv (va_runS (As := [.int x2, .int 1, .int 999999]) (rest := []) ⟨hx, hb, hml, hown, hts⟩ (c_requireRange_ok l hst D s.heap.size x2 1 999999 h2) (cwS 3 hts (goodIn_app (goodIn_of _ (by decide +kernel)) (goodIn_sub (fun _ h => List.mem_cons_of_mem _ (List.mem_append_right _ (List.mem_append_left _ h))) zrr1_good)) rfl rfl rfl (by decide +kernel) ⟨Nat.le_of_ble_eq_true rfl, Nat.le_of_ble_eq_true rfl⟩) ⟨zPre.blind, zPre.mk hPc hKc hDc hz hS (fun q h => hFc q h)⟩ rfl rfl hl.1 rfl (lv_room (Nat.le_of_ble_eq_true rfl)) dX11_event_32 ⟨Nat.le_of_ble_eq_true rfl, Nat.le_of_ble_eq_true rfl⟩) hS (fun q _ h => hFc q h) (fun q h => hFc q h) (fun u t H1 locs ht9 hvm hw hB hz1 hk1 hS => ?_)
      refine W.widen (k := 0) (n := 0) (by omega) (by omega) ?_
      have hP := zKeep hP hk1
      generalize H1 = H at hP hS ⊢
      have hP : va_P D vwCl [(h0, .inr (17, zHS a))] H := hP
      refine lv_iload_n hx hb dX11_event_35 rfl (lv_at hl 3 rfl) ?_
      refine lv_iconst (v := 1) hx hb dX11_event_36 (by decide) ?_
      refine lv_iconst (v := 5) hx hb dX11_event_37 (by decide) ?_
      have hPc := hP.sub (ws' := []) [] rfl
      have hDc := hD.sub (ws' := []) [] (by decide) rfl
      have hKc := hK.sub (tys' := []) [] rfl
      have hFc : ∀ q : Nat, H.size ≤ q → A q := fun q h => hA q (Nat.le_trans hS.1 h)
      refine vx_callv (vx_runS (As := [.int x3, .int 1, .int 5]) (rest := []) ⟨hx, hb, hml, hown, hts⟩ (c_requireRange_no l hst D H.size x3 1 5 h3) (cwS 3 hts (goodIn_app (goodIn_of _ (by decide +kernel)) (goodIn_sub (fun _ h => List.mem_cons_of_mem _ (List.mem_append_right _ (List.mem_append_right _ (List.mem_append_left _ h)))) zrr2_good)) rfl rfl rfl (by decide +kernel) ⟨Nat.le_of_ble_eq_true rfl, Nat.le_of_ble_eq_true rfl⟩) ⟨zPre.blind, zPre.mk hPc hKc hDc hz hS (fun q h => hFc q h)⟩ rfl rfl hl.1 rfl (lv_room (Nat.le_of_ble_eq_true rfl)) dX11_event_38 ⟨Nat.le_of_ble_eq_true rfl, Nat.le_of_ble_eq_true rfl⟩) hS (fun q _ h => hFc q h) (fun q h => hFc q h) (fun q _ h => hFc q h) (fun E9 ce q9 u t H1 locs ht9 hvm hpx hBX hz1 hk1 hS hcell hv9 hcl => ?_) (fun _ t H1 locs _ _ hw _ _ _ _ => hw.elim)
      · cases hBX
        exact vx_out (fun x hx => (ht x hx).elim) hlocks hcell hv9 hcl (fun t9 ht9 _ => ⟨(), trivial, rfl, hS.F ht9⟩) hS.2.2 (Nat.le_of_ble_eq_true rfl) (Nat.le_of_ble_eq_true rfl)

def zev_no4 : List Cond := .code yX11_event cX11_event 6 (some .int) :: ([.constant RX11 97 (999999), .methodLink RX11 98 yX11_requireRange, .static yX11_requireRange, .initialized RX11] ++ (zrr1 ++ (zrr2 ++ ([]))))
theorem zev_no4_good : zev_no4.all goodWord = true := by decide +kernel
set_option maxHeartbeats 4000000 in
set_option maxRecDepth 100000 in
/-- event: refused: throws -/
theorem c_event_no4 (l : Launch) (hst : l.stackTraces = false) (D : va_G) (sz : Nat) (h0 : Nat) (a : Nat → Nat) (x1 x2 x3 x4 : Int32) (hk : x1 = 114 ∨ x1 = 106 ∨ x1 = 116) (h2 : zin x2 1 999999 = 1) (h3 : zin x3 1 5 = 1) (h4 : zin x4 2 24 = 0) : vx_Met l yX11_event zev_no4 (zR 3 1 6) (zPre [.ref h0, .int x1, .int x2, .int x3, .int x4] D [(h0, .inr (17, zHS a))] [] (fun q : Nat => sz ≤ q) sz) (va_Qi (S := Unit) (fun _ _ => False) (fun _ _ => True) (fun q : Nat => sz ≤ q)) (zThr "java/lang/IllegalArgumentException" (fun q : Nat => sz ≤ q)) 1 6 (fun q : Nat => sz ≤ q) := by
  refine vx_ofW (cc := cX11_event) (maxL := 6) (ret := (some .int)) (by decide) rfl ?_
  intro p e s m args below meth c s₁ B hml ht hv
  obtain ⟨rfl, hsz, hP, hK, hD0, hz⟩ := hv
  have hx := B.exec
  have hb := B.bytes
  have hr := B.returns
  have hts := atoms_spec (ws := zev_no4) B.pre
  have hown : s.vm.findClass RX11 = some m.cls := findClass_of_methodNamed B.named
  have hlocks := B.notSynchronized
  subst hsz
  obtain ⟨A, hAe⟩ : ∃ A : Nat → Prop, A = (fun q : Nat => s.heap.size ≤ q) := ⟨_, rfl⟩
  rw [← hAe] at hz ⊢
  have hA : ∀ q : Nat, s.heap.size ≤ q → A q := fun q h => by rw [hAe]; exact h
  have hD := hD0
  have hS : va_S A s.heap s.heap [] := va_S.rf
  have hP : va_P D vwCl [(h0, .inr (17, zHS a))] s.heap := hP
  have hl := lv_entry ([.ref h0, .int x1, .int x2, .int x3, .int x4]) (n := 6) (Nat.le_of_ble_eq_true rfl)
  rw [lg_entry_eq]
  generalize (lg_sl ([.ref h0, .int x1, .int x2, .int x3, .int x4]) ++ List.replicate (6 - (lg_sl ([.ref h0, .int x1, .int x2, .int x3, .int x4])).length) Slot.unset).toArray = ls at hl ⊢
  have hl : lv_has ls 6 [(0, .ref h0), (1, .int x1), (2, .int x2), (3, .int x3), (4, .int x4)] := hl
  refine lv_iload_n hx hb dX11_event_0 rfl (lv_at hl 1 rfl) ?_
  refine lv_bipush (v := 114) hx hb dX11_event_1 (by decide) ?_
  refine lv_icmp_eq (tgt := 28) hx hb dX11_event_3 (by decide) (fun c1 => ?_) (fun c1 => ?_)
  · refine lv_iload_n hx hb dX11_event_28 rfl (lv_at hl 2 rfl) ?_
    refine lv_iconst (v := 1) hx hb dX11_event_29 (by decide) ?_
    refine lv_ldc (v := 999999) hx hb hown (hts (.constant RX11 97 (999999)) (by decide +kernel)) dX11_event_30 ?_
    have hPc := hP.sub (ws' := []) [] rfl
    have hDc := hD.sub (ws' := []) [] (by decide) rfl
    have hKc := hK.sub (tys' := []) [] rfl
    have hFc : ∀ q : Nat, s.heap.size ≤ q → A q := fun q h => hA q (Nat.le_trans hS.1 h)
    refine va_callv (va_runS (As := [.int x2, .int 1, .int 999999]) (rest := []) ⟨hx, hb, hml, hown, hts⟩ (c_requireRange_ok l hst D s.heap.size x2 1 999999 h2) (cwS 3 hts (goodIn_app (goodIn_of _ (by decide +kernel)) (goodIn_sub (fun _ h => List.mem_cons_of_mem _ (List.mem_append_right _ (List.mem_append_left _ h))) zrr1_good)) rfl rfl rfl (by decide +kernel) ⟨Nat.le_of_ble_eq_true rfl, Nat.le_of_ble_eq_true rfl⟩) ⟨zPre.blind, zPre.mk hPc hKc hDc hz hS (fun q h => hFc q h)⟩ rfl rfl hl.1 rfl (lv_room (Nat.le_of_ble_eq_true rfl)) dX11_event_32 ⟨Nat.le_of_ble_eq_true rfl, Nat.le_of_ble_eq_true rfl⟩) hS (fun q _ h => hFc q h) (fun q h => hFc q h) (fun u t H1 locs ht9 hvm hw hB hz1 hk1 hS => ?_)
    refine W.widen (k := 0) (n := 0) (by omega) (by omega) ?_
    have hP := zKeep hP hk1
    generalize H1 = H at hP hS ⊢
    have hP : va_P D vwCl [(h0, .inr (17, zHS a))] H := hP
    refine lv_iload_n hx hb dX11_event_35 rfl (lv_at hl 3 rfl) ?_
    refine lv_iconst (v := 1) hx hb dX11_event_36 (by decide) ?_
    refine lv_iconst (v := 5) hx hb dX11_event_37 (by decide) ?_
    have hPc := hP.sub (ws' := []) [] rfl
    have hDc := hD.sub (ws' := []) [] (by decide) rfl
    have hKc := hK.sub (tys' := []) [] rfl
    have hFc : ∀ q : Nat, H.size ≤ q → A q := fun q h => hA q (Nat.le_trans hS.1 h)
    refine va_callv (va_runS (As := [.int x3, .int 1, .int 5]) (rest := []) ⟨hx, hb, hml, hown, hts⟩ (c_requireRange_ok l hst D H.size x3 1 5 h3) (cwS 3 hts (goodIn_app (goodIn_of _ (by decide +kernel)) (goodIn_sub (fun _ h => List.mem_cons_of_mem _ (List.mem_append_right _ (List.mem_append_left _ h))) zrr1_good)) rfl rfl rfl (by decide +kernel) ⟨Nat.le_of_ble_eq_true rfl, Nat.le_of_ble_eq_true rfl⟩) ⟨zPre.blind, zPre.mk hPc hKc hDc hz hS (fun q h => hFc q h)⟩ rfl rfl hl.1 rfl (lv_room (Nat.le_of_ble_eq_true rfl)) dX11_event_38 ⟨Nat.le_of_ble_eq_true rfl, Nat.le_of_ble_eq_true rfl⟩) hS (fun q _ h => hFc q h) (fun q h => hFc q h) (fun u t H1 locs ht9 hvm hw hB hz1 hk1 hS => ?_)
    refine W.widen (k := 0) (n := 0) (by omega) (by omega) ?_
    have hP := zKeep hP hk1
    generalize H1 = H at hP hS ⊢
    have hP : va_P D vwCl [(h0, .inr (17, zHS a))] H := hP
    refine lv_iload hx hb dX11_event_41 (lv_at hl 4 rfl) ?_
    refine lv_iconst (v := 2) hx hb dX11_event_43 (by decide) ?_
    refine lv_bipush (v := 24) hx hb dX11_event_44 (by decide) ?_
    have hPc := hP.sub (ws' := []) [] rfl
    have hDc := hD.sub (ws' := []) [] (by decide) rfl
    have hKc := hK.sub (tys' := []) [] rfl
    have hFc : ∀ q : Nat, H.size ≤ q → A q := fun q h => hA q (Nat.le_trans hS.1 h)
    refine vx_callv (vx_runS (As := [.int x4, .int 2, .int 24]) (rest := []) ⟨hx, hb, hml, hown, hts⟩ (c_requireRange_no l hst D H.size x4 2 24 h4) (cwS 3 hts (goodIn_app (goodIn_of _ (by decide +kernel)) (goodIn_sub (fun _ h => List.mem_cons_of_mem _ (List.mem_append_right _ (List.mem_append_right _ (List.mem_append_left _ h)))) zrr2_good)) rfl rfl rfl (by decide +kernel) ⟨Nat.le_of_ble_eq_true rfl, Nat.le_of_ble_eq_true rfl⟩) ⟨zPre.blind, zPre.mk hPc hKc hDc hz hS (fun q h => hFc q h)⟩ rfl rfl hl.1 rfl (lv_room (Nat.le_of_ble_eq_true rfl)) dX11_event_46 ⟨Nat.le_of_ble_eq_true rfl, Nat.le_of_ble_eq_true rfl⟩) hS (fun q _ h => hFc q h) (fun q h => hFc q h) (fun q _ h => hFc q h) (fun E9 ce q9 u t H1 locs ht9 hvm hpx hBX hz1 hk1 hS hcell hv9 hcl => ?_) (fun _ t H1 locs _ _ hw _ _ _ _ => hw.elim)
    · cases hBX
      exact vx_out (fun x hx => (ht x hx).elim) hlocks hcell hv9 hcl (fun t9 ht9 _ => ⟨(), trivial, rfl, hS.F ht9⟩) hS.2.2 (Nat.le_of_ble_eq_true rfl) (Nat.le_of_ble_eq_true rfl)
  · refine lv_iload_n hx hb dX11_event_6 rfl (lv_at hl 1 rfl) ?_
    refine lv_bipush (v := 106) hx hb dX11_event_7 (by decide) ?_
    refine lv_icmp_eq (tgt := 28) hx hb dX11_event_9 (by decide) (fun c2 => ?_) (fun c2 => ?_)
    · refine lv_iload_n hx hb dX11_event_28 rfl (lv_at hl 2 rfl) ?_
      refine lv_iconst (v := 1) hx hb dX11_event_29 (by decide) ?_
      refine lv_ldc (v := 999999) hx hb hown (hts (.constant RX11 97 (999999)) (by decide +kernel)) dX11_event_30 ?_
      have hPc := hP.sub (ws' := []) [] rfl
      have hDc := hD.sub (ws' := []) [] (by decide) rfl
      have hKc := hK.sub (tys' := []) [] rfl
      have hFc : ∀ q : Nat, s.heap.size ≤ q → A q := fun q h => hA q (Nat.le_trans hS.1 h)
      refine va_callv (va_runS (As := [.int x2, .int 1, .int 999999]) (rest := []) ⟨hx, hb, hml, hown, hts⟩ (c_requireRange_ok l hst D s.heap.size x2 1 999999 h2) (cwS 3 hts (goodIn_app (goodIn_of _ (by decide +kernel)) (goodIn_sub (fun _ h => List.mem_cons_of_mem _ (List.mem_append_right _ (List.mem_append_left _ h))) zrr1_good)) rfl rfl rfl (by decide +kernel) ⟨Nat.le_of_ble_eq_true rfl, Nat.le_of_ble_eq_true rfl⟩) ⟨zPre.blind, zPre.mk hPc hKc hDc hz hS (fun q h => hFc q h)⟩ rfl rfl hl.1 rfl (lv_room (Nat.le_of_ble_eq_true rfl)) dX11_event_32 ⟨Nat.le_of_ble_eq_true rfl, Nat.le_of_ble_eq_true rfl⟩) hS (fun q _ h => hFc q h) (fun q h => hFc q h) (fun u t H1 locs ht9 hvm hw hB hz1 hk1 hS => ?_)
      refine W.widen (k := 0) (n := 0) (by omega) (by omega) ?_
      have hP := zKeep hP hk1
      generalize H1 = H at hP hS ⊢
      have hP : va_P D vwCl [(h0, .inr (17, zHS a))] H := hP
      refine lv_iload_n hx hb dX11_event_35 rfl (lv_at hl 3 rfl) ?_
      refine lv_iconst (v := 1) hx hb dX11_event_36 (by decide) ?_
      refine lv_iconst (v := 5) hx hb dX11_event_37 (by decide) ?_
      have hPc := hP.sub (ws' := []) [] rfl
      have hDc := hD.sub (ws' := []) [] (by decide) rfl
      have hKc := hK.sub (tys' := []) [] rfl
      have hFc : ∀ q : Nat, H.size ≤ q → A q := fun q h => hA q (Nat.le_trans hS.1 h)
      refine va_callv (va_runS (As := [.int x3, .int 1, .int 5]) (rest := []) ⟨hx, hb, hml, hown, hts⟩ (c_requireRange_ok l hst D H.size x3 1 5 h3) (cwS 3 hts (goodIn_app (goodIn_of _ (by decide +kernel)) (goodIn_sub (fun _ h => List.mem_cons_of_mem _ (List.mem_append_right _ (List.mem_append_left _ h))) zrr1_good)) rfl rfl rfl (by decide +kernel) ⟨Nat.le_of_ble_eq_true rfl, Nat.le_of_ble_eq_true rfl⟩) ⟨zPre.blind, zPre.mk hPc hKc hDc hz hS (fun q h => hFc q h)⟩ rfl rfl hl.1 rfl (lv_room (Nat.le_of_ble_eq_true rfl)) dX11_event_38 ⟨Nat.le_of_ble_eq_true rfl, Nat.le_of_ble_eq_true rfl⟩) hS (fun q _ h => hFc q h) (fun q h => hFc q h) (fun u t H1 locs ht9 hvm hw hB hz1 hk1 hS => ?_)
      refine W.widen (k := 0) (n := 0) (by omega) (by omega) ?_
      have hP := zKeep hP hk1
      generalize H1 = H at hP hS ⊢
      have hP : va_P D vwCl [(h0, .inr (17, zHS a))] H := hP
      refine lv_iload hx hb dX11_event_41 (lv_at hl 4 rfl) ?_
      refine lv_iconst (v := 2) hx hb dX11_event_43 (by decide) ?_
      refine lv_bipush (v := 24) hx hb dX11_event_44 (by decide) ?_
      have hPc := hP.sub (ws' := []) [] rfl
      have hDc := hD.sub (ws' := []) [] (by decide) rfl
      have hKc := hK.sub (tys' := []) [] rfl
      have hFc : ∀ q : Nat, H.size ≤ q → A q := fun q h => hA q (Nat.le_trans hS.1 h)
      refine vx_callv (vx_runS (As := [.int x4, .int 2, .int 24]) (rest := []) ⟨hx, hb, hml, hown, hts⟩ (c_requireRange_no l hst D H.size x4 2 24 h4) (cwS 3 hts (goodIn_app (goodIn_of _ (by decide +kernel)) (goodIn_sub (fun _ h => List.mem_cons_of_mem _ (List.mem_append_right _ (List.mem_append_right _ (List.mem_append_left _ h)))) zrr2_good)) rfl rfl rfl (by decide +kernel) ⟨Nat.le_of_ble_eq_true rfl, Nat.le_of_ble_eq_true rfl⟩) ⟨zPre.blind, zPre.mk hPc hKc hDc hz hS (fun q h => hFc q h)⟩ rfl rfl hl.1 rfl (lv_room (Nat.le_of_ble_eq_true rfl)) dX11_event_46 ⟨Nat.le_of_ble_eq_true rfl, Nat.le_of_ble_eq_true rfl⟩) hS (fun q _ h => hFc q h) (fun q h => hFc q h) (fun q _ h => hFc q h) (fun E9 ce q9 u t H1 locs ht9 hvm hpx hBX hz1 hk1 hS hcell hv9 hcl => ?_) (fun _ t H1 locs _ _ hw _ _ _ _ => hw.elim)
      · cases hBX
        exact vx_out (fun x hx => (ht x hx).elim) hlocks hcell hv9 hcl (fun t9 ht9 _ => ⟨(), trivial, rfl, hS.F ht9⟩) hS.2.2 (Nat.le_of_ble_eq_true rfl) (Nat.le_of_ble_eq_true rfl)
    · refine lv_iload_n hx hb dX11_event_12 rfl (lv_at hl 1 rfl) ?_
      refine lv_bipush (v := 116) hx hb dX11_event_13 (by decide) ?_
      refine lv_icmp_eq (tgt := 28) hx hb dX11_event_15 (by decide) (fun _ => ?_) (fun c9 => absurd (hk.resolve_left c1 |>.resolve_left c2) c9)
      refine lv_iload_n hx hb dX11_event_28 rfl (lv_at hl 2 rfl) ?_
      refine lv_iconst (v := 1) hx hb dX11_event_29 (by decide) ?_
      refine lv_ldc (v := 999999) hx hb hown (hts (.constant RX11 97 (999999)) (by decide +kernel)) dX11_event_30 ?_
      have hPc := hP.sub (ws' := []) [] rfl
      have hDc := hD.sub (ws' := []) [] (by decide) rfl
      have hKc := hK.sub (tys' := []) [] rfl
      have hFc : ∀ q : Nat, s.heap.size ≤ q → A q := fun q h => hA q (Nat.le_trans hS.1 h)
      refine va_callv (va_runS (As := [.int x2, .int 1, .int 999999]) (rest := []) ⟨hx, hb, hml, hown, hts⟩ (c_requireRange_ok l hst D s.heap.size x2 1 999999 h2) (cwS 3 hts (goodIn_app (goodIn_of _ (by decide +kernel)) (goodIn_sub (fun _ h => List.mem_cons_of_mem _ (List.mem_append_right _ (List.mem_append_left _ h))) zrr1_good)) rfl rfl rfl (by decide +kernel) ⟨Nat.le_of_ble_eq_true rfl, Nat.le_of_ble_eq_true rfl⟩) ⟨zPre.blind, zPre.mk hPc hKc hDc hz hS (fun q h => hFc q h)⟩ rfl rfl hl.1 rfl (lv_room (Nat.le_of_ble_eq_true rfl)) dX11_event_32 ⟨Nat.le_of_ble_eq_true rfl, Nat.le_of_ble_eq_true rfl⟩) hS (fun q _ h => hFc q h) (fun q h => hFc q h) (fun u t H1 locs ht9 hvm hw hB hz1 hk1 hS => ?_)
      refine W.widen (k := 0) (n := 0) (by omega) (by omega) ?_
      have hP := zKeep hP hk1
      generalize H1 = H at hP hS ⊢
      have hP : va_P D vwCl [(h0, .inr (17, zHS a))] H := hP
      refine lv_iload_n hx hb dX11_event_35 rfl (lv_at hl 3 rfl) ?_
      refine lv_iconst (v := 1) hx hb dX11_event_36 (by decide) ?_
      refine lv_iconst (v := 5) hx hb dX11_event_37 (by decide) ?_
      have hPc := hP.sub (ws' := []) [] rfl
      have hDc := hD.sub (ws' := []) [] (by decide) rfl
      have hKc := hK.sub (tys' := []) [] rfl
      have hFc : ∀ q : Nat, H.size ≤ q → A q := fun q h => hA q (Nat.le_trans hS.1 h)
      refine va_callv (va_runS (As := [.int x3, .int 1, .int 5]) (rest := []) ⟨hx, hb, hml, hown, hts⟩ (c_requireRange_ok l hst D H.size x3 1 5 h3) (cwS 3 hts (goodIn_app (goodIn_of _ (by decide +kernel)) (goodIn_sub (fun _ h => List.mem_cons_of_mem _ (List.mem_append_right _ (List.mem_append_left _ h))) zrr1_good)) rfl rfl rfl (by decide +kernel) ⟨Nat.le_of_ble_eq_true rfl, Nat.le_of_ble_eq_true rfl⟩) ⟨zPre.blind, zPre.mk hPc hKc hDc hz hS (fun q h => hFc q h)⟩ rfl rfl hl.1 rfl (lv_room (Nat.le_of_ble_eq_true rfl)) dX11_event_38 ⟨Nat.le_of_ble_eq_true rfl, Nat.le_of_ble_eq_true rfl⟩) hS (fun q _ h => hFc q h) (fun q h => hFc q h) (fun u t H1 locs ht9 hvm hw hB hz1 hk1 hS => ?_)
      refine W.widen (k := 0) (n := 0) (by omega) (by omega) ?_
      have hP := zKeep hP hk1
      generalize H1 = H at hP hS ⊢
      have hP : va_P D vwCl [(h0, .inr (17, zHS a))] H := hP
      refine lv_iload hx hb dX11_event_41 (lv_at hl 4 rfl) ?_
      refine lv_iconst (v := 2) hx hb dX11_event_43 (by decide) ?_
      refine lv_bipush (v := 24) hx hb dX11_event_44 (by decide) ?_
      have hPc := hP.sub (ws' := []) [] rfl
      have hDc := hD.sub (ws' := []) [] (by decide) rfl
      have hKc := hK.sub (tys' := []) [] rfl
      have hFc : ∀ q : Nat, H.size ≤ q → A q := fun q h => hA q (Nat.le_trans hS.1 h)
      refine vx_callv (vx_runS (As := [.int x4, .int 2, .int 24]) (rest := []) ⟨hx, hb, hml, hown, hts⟩ (c_requireRange_no l hst D H.size x4 2 24 h4) (cwS 3 hts (goodIn_app (goodIn_of _ (by decide +kernel)) (goodIn_sub (fun _ h => List.mem_cons_of_mem _ (List.mem_append_right _ (List.mem_append_right _ (List.mem_append_left _ h)))) zrr2_good)) rfl rfl rfl (by decide +kernel) ⟨Nat.le_of_ble_eq_true rfl, Nat.le_of_ble_eq_true rfl⟩) ⟨zPre.blind, zPre.mk hPc hKc hDc hz hS (fun q h => hFc q h)⟩ rfl rfl hl.1 rfl (lv_room (Nat.le_of_ble_eq_true rfl)) dX11_event_46 ⟨Nat.le_of_ble_eq_true rfl, Nat.le_of_ble_eq_true rfl⟩) hS (fun q _ h => hFc q h) (fun q h => hFc q h) (fun q _ h => hFc q h) (fun E9 ce q9 u t H1 locs ht9 hvm hpx hBX hz1 hk1 hS hcell hv9 hcl => ?_) (fun _ t H1 locs _ _ hw _ _ _ _ => hw.elim)
      · cases hBX
        exact vx_out (fun x hx => (ht x hx).elim) hlocks hcell hv9 hcl (fun t9 ht9 _ => ⟨(), trivial, rfl, hS.F ht9⟩) hS.2.2 (Nat.le_of_ble_eq_true rfl) (Nat.le_of_ble_eq_true rfl)
