def wk_c_X11_last : List Cond := .code yX11_last cX11_last 4 (some .int) :: ([.methodLink RX11 190 yX11_hasBoth, .instanceMethod yX11_hasBoth, .selects RX11 yX11_hasBoth yX11_hasBoth, .initialized RX11, .fieldLink RX11 45 "SagMemory" "story" "LSagMemory$Story;", .methodLink RX11 165 yX8_behind, .instanceMethod yX8_behind, .selects RX8 yX8_behind yX8_behind, .initialized RX8, .fieldLink RX11 194 "SagMemory$State" "memories" "[LSagMemory$Memory;", .fieldLink RX11 198 "SagMemory$Memory" "size" "I", .methodLink RX11 201 yX2_heaviest, .instanceMethod yX2_heaviest, .selects RX2 yX2_heaviest yX2_heaviest, .initialized RX2] ++ (wk_c_X11_hasBoth ++ (wsX110 ++ (wk_c_X8_behind ++ (wsX70 ++ (wsX20 ++ (wk_c_X2_heaviest ++ [])))))))
theorem wkg_c_X11_last : wk_c_X11_last.all goodWord = true := by decide +kernel
set_option maxHeartbeats 4000000 in
set_option maxRecDepth 100000 in
theorem c_X11_last (l : Launch) (dC : Nat → ClassId) (dI : Nat → Nat → Nat) (k : Nat → ClassId) (qX : Nat → Nat) (tapeX : Nat) (actsX : Nat) (nowX : Nat) (trialX : Nat) (attemptX : Nat) (orderSearchX : Nat) (routeSearchX : Nat) (setSearchX : Nat) (probeX : Nat) (slot0X : Nat) (slot1X : Nat) (slot2X : Nat) (slot3X : Nat) (image0X : Nat) (image1X : Nat) (image2X : Nat) (aX : Nat → Nat → Int32) (qV : Nat → Nat) (vV : Nat → Int32) (bV : Nat → Int32) (cV : Nat → Int32) (wV : Nat → Int32) (aV : Nat → Nat → Int32) (eV : Nat → Nat → Int32) (qY : Nat → Nat) (sY : Nat → Nat → Nat) (planY : Nat) (vY : Nat → Nat → Int32) (nY : Nat → Nat → Int32) (aY : Nat → Nat → Nat → Int32) (p1 : Int32) (p2 : Int32) (hbV : Rg 0 3 bV) (hcV : Rg 0 7 cV) (hwV : Rg 0 5 wV) (heV : RgA 0 99 eV) (hnY : ∀ t9, Rg 0 8 (nY t9)) : Met l yX11_last wk_c_X11_last ({ frames := 2, cells := 0, slots := 0, locals := 43 }) (va_Pc [.ref (qX 0), .int p1, .int p2] (fun U => va_P (dC, dI) vwCl (List.flatten [(wSag qX k tapeX (qV 0) actsX nowX trialX (qY 0) attemptX orderSearchX routeSearchX setSearchX probeX slot0X slot1X slot2X slot3X image0X image1X image2X aX), (wValley qV k vV bV cV wV aV eV), (wStoO qY k (qV 0) planY (sY 0 0) (sY 1 0) (sY 2 0) (sY 3 0) (sY 4 0) (sY 5 0) (sY 6 0) (sY 7 0)), (wState (sY 0) k (vY 0) (nY 0) (aY 0)), (wState (sY 1) k (vY 1) (nY 1) (aY 1)), (wState (sY 2) k (vY 2) (nY 2) (aY 2)), (wState (sY 3) k (vY 3) (nY 3) (aY 3)), (wState (sY 4) k (vY 4) (nY 4) (aY 4)), (wState (sY 5) k (vY 5) (nY 5) (aY 5)), (wState (sY 6) k (vY 6) (nY 6) (aY 6)), (wState (sY 7) k (vY 7) (nY 7) (aY 7))]) U.heap ∧ va_K (dC, dI) vwCl (tK k) U)) (vp_Si (fun r : Int32 => True)) 0 0 (fun _ => False) := by
  refine Met.ofW (cc := cX11_last) (maxL := 4) (ret := (some .int)) (by decide) rfl ?_
  intro p e s m args below meth c s₁ B hml hv
  obtain ⟨rfl, hP, hK⟩ := hv
  have hx := B.exec
  have hb := B.bytes
  have hr := B.returns
  have hts := atoms_spec (ws := wk_c_X11_last) B.pre
  have hown : s.vm.findClass RX11 = some m.cls := findClass_of_methodNamed B.named
  have hlocks := B.notSynchronized
  have hP : va_P (dC, dI) vwCl (List.flatten [(wSag qX k tapeX (qV 0) actsX nowX trialX (qY 0) attemptX orderSearchX routeSearchX setSearchX probeX slot0X slot1X slot2X slot3X image0X image1X image2X aX), (wValley qV k vV bV cV wV aV eV), (wStoO qY k (qV 0) planY (sY 0 0) (sY 1 0) (sY 2 0) (sY 3 0) (sY 4 0) (sY 5 0) (sY 6 0) (sY 7 0)), (wState (sY 0) k (vY 0) (nY 0) (aY 0)), (wState (sY 1) k (vY 1) (nY 1) (aY 1)), (wState (sY 2) k (vY 2) (nY 2) (aY 2)), (wState (sY 3) k (vY 3) (nY 3) (aY 3)), (wState (sY 4) k (vY 4) (nY 4) (aY 4)), (wState (sY 5) k (vY 5) (nY 5) (aY 5)), (wState (sY 6) k (vY 6) (nY 6) (aY 6)), (wState (sY 7) k (vY 7) (nY 7) (aY 7))]) s.heap := hP
  have hl := lv_entry ([.ref (qX 0), .int p1, .int p2]) (n := 4) (Nat.le_of_ble_eq_true rfl)
  rw [lg_entry_eq]
  generalize (lg_sl ([.ref (qX 0), .int p1, .int p2]) ++ List.replicate (4 - (lg_sl ([.ref (qX 0), .int p1, .int p2])).length) Slot.unset).toArray = ls at hl ⊢
  have hl : lv_has ls 4 [(0, .ref (qX 0)), (1, .int p1), (2, .int p2)] := hl
  refine w_gen (fun Q hQ => ?_)
  refine lv_aload_n hx hb dX11_last_0 rfl (lv_at hl 0 rfl) ?_
  refine lv_iload_n hx hb dX11_last_1 rfl (lv_at hl 1 rfl) ?_
  refine lv_iload_n hx hb dX11_last_2 rfl (lv_at hl 2 rfl) ?_
  have hPc := hP.sub (ws' := (List.flatten [(wSag qX k tapeX (qV 0) actsX nowX trialX (qY 0) attemptX orderSearchX routeSearchX setSearchX probeX slot0X slot1X slot2X slot3X image0X image1X image2X aX), (wValley qV k vV bV cV wV aV eV)])) [0, 1, 2, 3, 4, 5, 6, 7, 8, 9, 10, 11, 12] rfl
  refine vp_callSi (va_Run.run (va_runV (As := [.int p1, .int p2]) (rest := []) ⟨hx, hb, hml, hown, hts⟩ (c_X11_hasBoth l dC dI k qX tapeX actsX nowX trialX (qY 0) attemptX orderSearchX routeSearchX setSearchX probeX slot0X slot1X slot2X slot3X image0X image1X image2X aX qV vV bV cV wV aV eV p1 p2 hbV hcV hwV heV) (cwV 2 hts (gk_V (wl_mem 0 rfl) (wl_mem 1 rfl) (wl_mem 2 rfl) (wl_mem 3 rfl) (fun w h => List.mem_cons_of_mem _ (List.mem_append_right _ (List.mem_append_left _ h))) wkg_c_X11_hasBoth) rfl rfl rfl (by decide +kernel) ⟨Nat.le_of_ble_eq_true rfl, Nat.le_of_ble_eq_true rfl⟩) ⟨fun a U g mk q => by obtain ⟨q0, qP, qK⟩ := q; exact ⟨q0, qP, va_K.moved (u := U) (U := U.calling g mk a) (Vm.Alike.refl U.vm) qK⟩, va_recv hK hPc (ci := 11) (q0 := 0) rfl rfl, fun U hU hW => ⟨rfl, by rw [hU]; exact hPc, va_K.moved hW.alike hK⟩⟩ rfl rfl hl.1 rfl (lv_room (Nat.le_of_ble_eq_true rfl)) dX11_last_3 ⟨Nat.le_of_ble_eq_true rfl, Nat.le_of_ble_eq_true rfl⟩)) (fun rz2 gz1 => ?_)
  clear hPc
  rcases gz1 with ⟨er, cz3⟩ | ⟨er, cz4, cz5⟩ | ⟨er, cz6, cz7, cz8⟩ | ⟨er, cz9, cz10, cz11, cz12⟩ | ⟨er, cz13, cz14, cz15, cz16⟩
  · obtain rfl := er.symm
    have bz17 := fb_rng p1
    have zz18 : p1.toInt < (0 : Int) := zi_lt.mp cz3
    refine lv_if_ne (tgt := 12) hx hb dX11_last_6 (by decide) (fun cz19 => ?_) (fun cz19 => ?_)
    · skip
      exact absurd cz19 (by decide)
    · skip
      refine lv_bipush (v := (-2)) hx hb dX11_last_9 (by decide) ?_
      rw [hQ]
      exact W.iret (v := (-2 : Int32)) hx hb hr (fun t ht hW => ⟨(-2 : Int32), rfl, trivial, ht⟩) (fun _ h => absurd h List.not_mem_nil) dX11_last_11
  · obtain rfl := er.symm
    have bz20 := fb_rng p1
    have zz21 : ¬ p1.toInt < (0 : Int) := fun h9 => cz4 (zi_lt.mpr h9)
    have bz22 := hbV 0
    have zz23 : (bV 0).toInt ≤ p1.toInt := zi_le.mp cz5
    refine lv_if_ne (tgt := 12) hx hb dX11_last_6 (by decide) (fun cz24 => ?_) (fun cz24 => ?_)
    · skip
      exact absurd cz24 (by decide)
    · skip
      refine lv_bipush (v := (-2)) hx hb dX11_last_9 (by decide) ?_
      rw [hQ]
      exact W.iret (v := (-2 : Int32)) hx hb hr (fun t ht hW => ⟨(-2 : Int32), rfl, trivial, ht⟩) (fun _ h => absurd h List.not_mem_nil) dX11_last_11
  · obtain rfl := er.symm
    have bz25 := fb_rng p1
    have zz26 : ¬ p1.toInt < (0 : Int) := fun h9 => cz6 (zi_lt.mpr h9)
    have bz27 := hbV 0
    have zz28 : ¬ (bV 0).toInt ≤ p1.toInt := fun h9 => cz7 (zi_le.mpr h9)
    have bz29 := fb_rng p2
    have zz30 : p2.toInt < (0 : Int) := zi_lt.mp cz8
    refine lv_if_ne (tgt := 12) hx hb dX11_last_6 (by decide) (fun cz31 => ?_) (fun cz31 => ?_)
    · skip
      exact absurd cz31 (by decide)
    · skip
      refine lv_bipush (v := (-2)) hx hb dX11_last_9 (by decide) ?_
      rw [hQ]
      exact W.iret (v := (-2 : Int32)) hx hb hr (fun t ht hW => ⟨(-2 : Int32), rfl, trivial, ht⟩) (fun _ h => absurd h List.not_mem_nil) dX11_last_11
  · obtain rfl := er.symm
    have bz32 := fb_rng p1
    have zz33 : ¬ p1.toInt < (0 : Int) := fun h9 => cz9 (zi_lt.mpr h9)
    have bz34 := hbV 0
    have zz35 : ¬ (bV 0).toInt ≤ p1.toInt := fun h9 => cz10 (zi_le.mpr h9)
    have bz36 := fb_rng p2
    have zz37 : ¬ p2.toInt < (0 : Int) := fun h9 => cz11 (zi_lt.mpr h9)
    have bz38 := hcV 0
    have zz39 : (cV 0).toInt ≤ p2.toInt := zi_le.mp cz12
    refine lv_if_ne (tgt := 12) hx hb dX11_last_6 (by decide) (fun cz40 => ?_) (fun cz40 => ?_)
    · skip
      exact absurd cz40 (by decide)
    · skip
      refine lv_bipush (v := (-2)) hx hb dX11_last_9 (by decide) ?_
      rw [hQ]
      exact W.iret (v := (-2 : Int32)) hx hb hr (fun t ht hW => ⟨(-2 : Int32), rfl, trivial, ht⟩) (fun _ h => absurd h List.not_mem_nil) dX11_last_11
  · obtain rfl := er.symm
    have bz41 := fb_rng p1
    have zz42 : ¬ p1.toInt < (0 : Int) := fun h9 => cz13 (zi_lt.mpr h9)
    have bz43 := hbV 0
    have zz44 : ¬ (bV 0).toInt ≤ p1.toInt := fun h9 => cz14 (zi_le.mpr h9)
    have bz45 := fb_rng p2
    have zz46 : ¬ p2.toInt < (0 : Int) := fun h9 => cz15 (zi_lt.mpr h9)
    have bz47 := hcV 0
    have zz48 : ¬ (cV 0).toInt ≤ p2.toInt := fun h9 => cz16 (zi_le.mpr h9)
    refine lv_if_ne (tgt := 12) hx hb dX11_last_6 (by decide) (fun cz49 => ?_) (fun cz49 => ?_)
    · skip
      refine lv_aload_n hx hb dX11_last_12 rfl (lv_at hl 0 rfl) ?_
      refine va_get (D := (dC, dI)) (ci := 11) (v := .ref (qY 0)) (C := RX11) (T := TX11) (N := 15) hx hb hts (fun w h => List.mem_cons_of_mem _ (List.mem_append_right _ (List.mem_append_right _ (List.mem_append_left _ h)))) hown hK hP 0 rfl rfl 5 (by decide) (hts (.fieldLink RX11 45 "SagMemory" "story" "LSagMemory$Story;") (wl_mem 4 rfl)) (fun _ h9 => h9) rfl dX11_last_13 ?_
      refine lv_iload_n hx hb dX11_last_16 rfl (lv_at hl 2 rfl) ?_
      have hPc : va_P (dC, dI) vwCl (List.flatten [(wStoO qY k (qV 0) planY (sY 0 0) (sY 1 0) (sY 2 0) (sY 3 0) (sY 4 0) (sY 5 0) (sY 6 0) (sY 7 0)), (wState (sY 0) k (vY 0) (nY 0) (aY 0)), (wState (sY 1) k (vY 1) (nY 1) (aY 1)), (wState (sY 2) k (vY 2) (nY 2) (aY 2)), (wState (sY 3) k (vY 3) (nY 3) (aY 3)), (wState (sY 4) k (vY 4) (nY 4) (aY 4)), (wState (sY 5) k (vY 5) (nY 5) (aY 5)), (wState (sY 6) k (vY 6) (nY 6) (aY 6)), (wState (sY 7) k (vY 7) (nY 7) (aY 7))]) s.heap := wc_subP0 hP [2, 3, 4, 5, 6, 7, 8, 9, 10] rfl
      refine va_csr (va_Run.run (va_runV (As := [.int p2]) (rest := []) ⟨hx, hb, hml, hown, hts⟩ (c_X8_behind l dC dI k qY sY (qV 0) planY vY nY aY p2 hnY) (cwV 1 hts (gk_V (wl_mem 5 rfl) (wl_mem 6 rfl) (wl_mem 7 rfl) (wl_mem 8 rfl) (fun w h => List.mem_cons_of_mem _ (List.mem_append_right _ (List.mem_append_right _ (List.mem_append_right _ (List.mem_append_left _ h))))) wkg_c_X8_behind) rfl rfl rfl (by decide +kernel) ⟨Nat.le_of_ble_eq_true rfl, Nat.le_of_ble_eq_true rfl⟩) ⟨fun a U g mk q => by obtain ⟨q0, qP, qK⟩ := q; exact ⟨q0, qP, va_K.moved (u := U) (U := U.calling g mk a) (Vm.Alike.refl U.vm) qK⟩, va_recv hK hPc (ci := 8) (q0 := 0) rfl rfl, fun U hU hW => ⟨rfl, by rw [hU]; exact hPc, va_K.moved hW.alike hK⟩⟩ rfl rfl hl.1 rfl (lv_room (Nat.le_of_ble_eq_true rfl)) dX11_last_17 ⟨Nat.le_of_ble_eq_true rfl, Nat.le_of_ble_eq_true rfl⟩)) (fun rz51 gz50 => ?_)
      clear hPc
      rcases gz50 with ⟨rfl, cz52⟩ | ⟨rfl, cz53, cz54⟩ | ⟨rfl, cz55, cz56, cz57⟩ | ⟨rfl, cz58, cz59, cz60⟩ | ⟨rfl, cz61, cz62, cz63⟩ | ⟨rfl, cz64, cz65, cz66⟩ | ⟨rfl, cz67, cz68, cz69⟩ | ⟨rfl, cz70, cz71, cz72⟩ | ⟨rfl, cz73, cz74, cz75⟩
      · skip
        have zz76 : p2.toInt < (0 : Int) := zi_lt.mp cz52
        omega
      · skip
        have zz77 : ¬ p2.toInt < (0 : Int) := fun h9 => cz53 (zi_lt.mpr h9)
        have zz78 : (7 : Int) ≤ p2.toInt := zi_le.mp cz54
        omega
      · skip
        have zz79 : ¬ p2.toInt < (0 : Int) := fun h9 => cz55 (zi_lt.mpr h9)
        have zz80 : ¬ (7 : Int) ≤ p2.toInt := fun h9 => cz56 (zi_le.mpr h9)
        have zz81 : p2.toInt = (0 : Int) := zi_eq.mp cz57
        refine W.eq (g2 := F0 m 20 ls [.ref (sY 1 0)]) rfl ?_
        refine va_get (D := (dC, dI)) (ci := 7) (v := .ref (sY 1 1)) (C := RX7) (T := TX7) (N := 9) hx hb hts (fun w h => List.mem_cons_of_mem _ (List.mem_append_right _ (List.mem_append_right _ (List.mem_append_right _ (List.mem_append_right _ (List.mem_append_left _ h)))))) hown hK hP 26 rfl rfl 0 (by decide) (hts (.fieldLink RX11 194 "SagMemory$State" "memories" "[LSagMemory$Memory;") (wl_mem 9 rfl)) (fun _ h9 => h9) rfl dX11_last_20 ?_
        refine lv_iload_n hx hb dX11_last_23 rfl (lv_at hl 1 rfl) ?_
        rcases (show p1 = 0 ∨ p1 = 1 ∨ p1 = 2 by simp only [zi_eq]; show p1.toInt = 0 ∨ p1.toInt = 1 ∨ p1.toInt = 2; omega) with cz82 | cz82 | cz82
        · skip
          have zz83 : p1.toInt = (0 : Int) := zi_eq.mp cz82
          refine W.eq (g2 := F0 m 24 ls [.int 0, .ref (sY 1 1)]) (by rw [cz82]) ?_
          refine va_aldq hx hb hK hP 27 4 rfl rfl (by unfold vp_in; decide) dX11_last_24 ?_
          refine W.eq (g2 := F0 m 25 ls [.ref (sY 1 2)]) rfl ?_
          refine lv_astore_n (lv' := [(3, .ref (sY 1 2)), (0, .ref (qX 0)), (1, .int p1), (2, .int p2)]) hx hb dX11_last_25 rfl hl (by decide) rfl (fun ls hl => ?_)
          refine lv_aload_n hx hb dX11_last_26 rfl (lv_at hl 0 rfl) ?_
          refine lv_aload_n hx hb dX11_last_27 rfl (lv_at hl 0 rfl) ?_
          refine va_get (D := (dC, dI)) (ci := 2) (v := .int ((nY 1) 0)) (C := RX2) (T := TX2) (N := 3) hx hb hts (fun w h => List.mem_cons_of_mem _ (List.mem_append_right _ (List.mem_append_right _ (List.mem_append_right _ (List.mem_append_right _ (List.mem_append_right _ (List.mem_append_left _ h))))))) hown hK hP 28 rfl rfl 2 (by decide) (hts (.fieldLink RX11 198 "SagMemory$Memory" "size" "I") (wl_mem 10 rfl)) (fun _ h9 => h9) rfl dX11_last_28 ?_
          have bz84 := (hnY 1) 0
          refine lv_iconst (v := 1) hx hb dX11_last_31 (by decide) ?_
          refine lv_isub hx hb dX11_last_32 ?_
          refine lv_topi (fun xz85 exz85 => ?_)
          have fxz85 : xz85.toInt = ((nY 1) 0).toInt - (1 : Int) := by rw [exz85]; exact fb_subI (x := ((nY 1) 0)) (y := (1 : Int32)) (by show -2147483648 ≤ ((nY 1) 0).toInt - (1 : Int); omega) (by show ((nY 1) 0).toInt - (1 : Int) < 2147483648; omega)
          have hPc := hP.sub (ws' := (List.flatten [(wMem (fun i => sY 1 (i + 2)) k (nY 1) (aY 1))])) [28, 29, 30] rfl
          refine vp_callSi (va_Run.run (va_runV (As := [.int xz85]) (rest := []) ⟨hx, hb, hml, hown, hts⟩ (c_X2_heaviest l dC dI k (fun i => sY 1 (i + 2)) (nY 1) (aY 1) xz85 (hnY 1)) (cwV 1 hts (gk_V (wl_mem 11 rfl) (wl_mem 12 rfl) (wl_mem 13 rfl) (wl_mem 14 rfl) (fun w h => List.mem_cons_of_mem _ (List.mem_append_right _ (List.mem_append_right _ (List.mem_append_right _ (List.mem_append_right _ (List.mem_append_right _ (List.mem_append_right _ (List.mem_append_left _ h)))))))) wkg_c_X2_heaviest) rfl rfl rfl (by decide +kernel) ⟨Nat.le_of_ble_eq_true rfl, Nat.le_of_ble_eq_true rfl⟩) ⟨fun a U g mk q => by obtain ⟨q0, qP, qK⟩ := q; exact ⟨q0, qP, va_K.moved (u := U) (U := U.calling g mk a) (Vm.Alike.refl U.vm) qK⟩, va_recv hK hPc (ci := 2) (q0 := 0) rfl rfl, fun U hU hW => ⟨rfl, by rw [hU]; exact hPc, va_K.moved hW.alike hK⟩⟩ rfl rfl hl.1 rfl (lv_room (Nat.le_of_ble_eq_true rfl)) dX11_last_33 ⟨Nat.le_of_ble_eq_true rfl, Nat.le_of_ble_eq_true rfl⟩)) (fun rz87 gz86 => ?_)
          clear hPc
          rw [hQ]
          exact W.iret (v := rz87) hx hb hr (fun t ht hW => ⟨rz87, rfl, trivial, ht⟩) (fun _ h => absurd h List.not_mem_nil) dX11_last_36
        · skip
          have zz88 : p1.toInt = (1 : Int) := zi_eq.mp cz82
          refine W.eq (g2 := F0 m 24 ls [.int 1, .ref (sY 1 1)]) (by rw [cz82]) ?_
          refine va_aldq hx hb hK hP 27 4 rfl rfl (by unfold vp_in; decide) dX11_last_24 ?_
          refine W.eq (g2 := F0 m 25 ls [.ref (sY 1 5)]) rfl ?_
          refine lv_astore_n (lv' := [(3, .ref (sY 1 5)), (0, .ref (qX 0)), (1, .int p1), (2, .int p2)]) hx hb dX11_last_25 rfl hl (by decide) rfl (fun ls hl => ?_)
          refine lv_aload_n hx hb dX11_last_26 rfl (lv_at hl 0 rfl) ?_
          refine lv_aload_n hx hb dX11_last_27 rfl (lv_at hl 0 rfl) ?_
          refine va_get (D := (dC, dI)) (ci := 2) (v := .int ((nY 1) 1)) (C := RX2) (T := TX2) (N := 3) hx hb hts (fun w h => List.mem_cons_of_mem _ (List.mem_append_right _ (List.mem_append_right _ (List.mem_append_right _ (List.mem_append_right _ (List.mem_append_right _ (List.mem_append_left _ h))))))) hown hK hP 31 rfl rfl 2 (by decide) (hts (.fieldLink RX11 198 "SagMemory$Memory" "size" "I") (wl_mem 10 rfl)) (fun _ h9 => h9) rfl dX11_last_28 ?_
          have bz89 := (hnY 1) 1
          refine lv_iconst (v := 1) hx hb dX11_last_31 (by decide) ?_
          refine lv_isub hx hb dX11_last_32 ?_
          refine lv_topi (fun xz90 exz90 => ?_)
          have fxz90 : xz90.toInt = ((nY 1) 1).toInt - (1 : Int) := by rw [exz90]; exact fb_subI (x := ((nY 1) 1)) (y := (1 : Int32)) (by show -2147483648 ≤ ((nY 1) 1).toInt - (1 : Int); omega) (by show ((nY 1) 1).toInt - (1 : Int) < 2147483648; omega)
          have hPc := hP.sub (ws' := (List.flatten [(wMem (fun i => sY 1 (i + 5)) k (fun i => (nY 1) (i + 1)) (fun i => (aY 1) (i + 2)))])) [31, 32, 33] rfl
          refine vp_callSi (va_Run.run (va_runV (As := [.int xz90]) (rest := []) ⟨hx, hb, hml, hown, hts⟩ (c_X2_heaviest l dC dI k (fun i => sY 1 (i + 5)) (fun i => (nY 1) (i + 1)) (fun i => (aY 1) (i + 2)) xz90 (fun i => (hnY 1) (i + 1))) (cwV 1 hts (gk_V (wl_mem 11 rfl) (wl_mem 12 rfl) (wl_mem 13 rfl) (wl_mem 14 rfl) (fun w h => List.mem_cons_of_mem _ (List.mem_append_right _ (List.mem_append_right _ (List.mem_append_right _ (List.mem_append_right _ (List.mem_append_right _ (List.mem_append_right _ (List.mem_append_left _ h)))))))) wkg_c_X2_heaviest) rfl rfl rfl (by decide +kernel) ⟨Nat.le_of_ble_eq_true rfl, Nat.le_of_ble_eq_true rfl⟩) ⟨fun a U g mk q => by obtain ⟨q0, qP, qK⟩ := q; exact ⟨q0, qP, va_K.moved (u := U) (U := U.calling g mk a) (Vm.Alike.refl U.vm) qK⟩, va_recv hK hPc (ci := 2) (q0 := 0) rfl rfl, fun U hU hW => ⟨rfl, by rw [hU]; exact hPc, va_K.moved hW.alike hK⟩⟩ rfl rfl hl.1 rfl (lv_room (Nat.le_of_ble_eq_true rfl)) dX11_last_33 ⟨Nat.le_of_ble_eq_true rfl, Nat.le_of_ble_eq_true rfl⟩)) (fun rz92 gz91 => ?_)
          clear hPc
          rw [hQ]
          exact W.iret (v := rz92) hx hb hr (fun t ht hW => ⟨rz92, rfl, trivial, ht⟩) (fun _ h => absurd h List.not_mem_nil) dX11_last_36
        · skip
          have zz93 : p1.toInt = (2 : Int) := zi_eq.mp cz82
          refine W.eq (g2 := F0 m 24 ls [.int 2, .ref (sY 1 1)]) (by rw [cz82]) ?_
          refine va_aldq hx hb hK hP 27 4 rfl rfl (by unfold vp_in; decide) dX11_last_24 ?_
          refine W.eq (g2 := F0 m 25 ls [.ref (sY 1 8)]) rfl ?_
          refine lv_astore_n (lv' := [(3, .ref (sY 1 8)), (0, .ref (qX 0)), (1, .int p1), (2, .int p2)]) hx hb dX11_last_25 rfl hl (by decide) rfl (fun ls hl => ?_)
          refine lv_aload_n hx hb dX11_last_26 rfl (lv_at hl 0 rfl) ?_
          refine lv_aload_n hx hb dX11_last_27 rfl (lv_at hl 0 rfl) ?_
          refine va_get (D := (dC, dI)) (ci := 2) (v := .int ((nY 1) 2)) (C := RX2) (T := TX2) (N := 3) hx hb hts (fun w h => List.mem_cons_of_mem _ (List.mem_append_right _ (List.mem_append_right _ (List.mem_append_right _ (List.mem_append_right _ (List.mem_append_right _ (List.mem_append_left _ h))))))) hown hK hP 34 rfl rfl 2 (by decide) (hts (.fieldLink RX11 198 "SagMemory$Memory" "size" "I") (wl_mem 10 rfl)) (fun _ h9 => h9) rfl dX11_last_28 ?_
          have bz94 := (hnY 1) 2
          refine lv_iconst (v := 1) hx hb dX11_last_31 (by decide) ?_
          refine lv_isub hx hb dX11_last_32 ?_
          refine lv_topi (fun xz95 exz95 => ?_)
          have fxz95 : xz95.toInt = ((nY 1) 2).toInt - (1 : Int) := by rw [exz95]; exact fb_subI (x := ((nY 1) 2)) (y := (1 : Int32)) (by show -2147483648 ≤ ((nY 1) 2).toInt - (1 : Int); omega) (by show ((nY 1) 2).toInt - (1 : Int) < 2147483648; omega)
          have hPc := hP.sub (ws' := (List.flatten [(wMem (fun i => sY 1 (i + 8)) k (fun i => (nY 1) (i + 2)) (fun i => (aY 1) (i + 4)))])) [34, 35, 36] rfl
          refine vp_callSi (va_Run.run (va_runV (As := [.int xz95]) (rest := []) ⟨hx, hb, hml, hown, hts⟩ (c_X2_heaviest l dC dI k (fun i => sY 1 (i + 8)) (fun i => (nY 1) (i + 2)) (fun i => (aY 1) (i + 4)) xz95 (fun i => (hnY 1) (i + 2))) (cwV 1 hts (gk_V (wl_mem 11 rfl) (wl_mem 12 rfl) (wl_mem 13 rfl) (wl_mem 14 rfl) (fun w h => List.mem_cons_of_mem _ (List.mem_append_right _ (List.mem_append_right _ (List.mem_append_right _ (List.mem_append_right _ (List.mem_append_right _ (List.mem_append_right _ (List.mem_append_left _ h)))))))) wkg_c_X2_heaviest) rfl rfl rfl (by decide +kernel) ⟨Nat.le_of_ble_eq_true rfl, Nat.le_of_ble_eq_true rfl⟩) ⟨fun a U g mk q => by obtain ⟨q0, qP, qK⟩ := q; exact ⟨q0, qP, va_K.moved (u := U) (U := U.calling g mk a) (Vm.Alike.refl U.vm) qK⟩, va_recv hK hPc (ci := 2) (q0 := 0) rfl rfl, fun U hU hW => ⟨rfl, by rw [hU]; exact hPc, va_K.moved hW.alike hK⟩⟩ rfl rfl hl.1 rfl (lv_room (Nat.le_of_ble_eq_true rfl)) dX11_last_33 ⟨Nat.le_of_ble_eq_true rfl, Nat.le_of_ble_eq_true rfl⟩)) (fun rz97 gz96 => ?_)
          clear hPc
          rw [hQ]
          exact W.iret (v := rz97) hx hb hr (fun t ht hW => ⟨rz97, rfl, trivial, ht⟩) (fun _ h => absurd h List.not_mem_nil) dX11_last_36
      · skip
        have zz98 : ¬ p2.toInt < (0 : Int) := fun h9 => cz58 (zi_lt.mpr h9)
        have zz99 : ¬ (7 : Int) ≤ p2.toInt := fun h9 => cz59 (zi_le.mpr h9)
        have zz100 : p2.toInt = (1 : Int) := zi_eq.mp cz60
        refine W.eq (g2 := F0 m 20 ls [.ref (sY 2 0)]) rfl ?_
        refine va_get (D := (dC, dI)) (ci := 7) (v := .ref (sY 2 1)) (C := RX7) (T := TX7) (N := 9) hx hb hts (fun w h => List.mem_cons_of_mem _ (List.mem_append_right _ (List.mem_append_right _ (List.mem_append_right _ (List.mem_append_right _ (List.mem_append_left _ h)))))) hown hK hP 37 rfl rfl 0 (by decide) (hts (.fieldLink RX11 194 "SagMemory$State" "memories" "[LSagMemory$Memory;") (wl_mem 9 rfl)) (fun _ h9 => h9) rfl dX11_last_20 ?_
        refine lv_iload_n hx hb dX11_last_23 rfl (lv_at hl 1 rfl) ?_
        rcases (show p1 = 0 ∨ p1 = 1 ∨ p1 = 2 by simp only [zi_eq]; show p1.toInt = 0 ∨ p1.toInt = 1 ∨ p1.toInt = 2; omega) with cz101 | cz101 | cz101
        · skip
          have zz102 : p1.toInt = (0 : Int) := zi_eq.mp cz101
          refine W.eq (g2 := F0 m 24 ls [.int 0, .ref (sY 2 1)]) (by rw [cz101]) ?_
          refine va_aldq hx hb hK hP 38 4 rfl rfl (by unfold vp_in; decide) dX11_last_24 ?_
          refine W.eq (g2 := F0 m 25 ls [.ref (sY 2 2)]) rfl ?_
          refine lv_astore_n (lv' := [(3, .ref (sY 2 2)), (0, .ref (qX 0)), (1, .int p1), (2, .int p2)]) hx hb dX11_last_25 rfl hl (by decide) rfl (fun ls hl => ?_)
          refine lv_aload_n hx hb dX11_last_26 rfl (lv_at hl 0 rfl) ?_
          refine lv_aload_n hx hb dX11_last_27 rfl (lv_at hl 0 rfl) ?_
          refine va_get (D := (dC, dI)) (ci := 2) (v := .int ((nY 2) 0)) (C := RX2) (T := TX2) (N := 3) hx hb hts (fun w h => List.mem_cons_of_mem _ (List.mem_append_right _ (List.mem_append_right _ (List.mem_append_right _ (List.mem_append_right _ (List.mem_append_right _ (List.mem_append_left _ h))))))) hown hK hP 39 rfl rfl 2 (by decide) (hts (.fieldLink RX11 198 "SagMemory$Memory" "size" "I") (wl_mem 10 rfl)) (fun _ h9 => h9) rfl dX11_last_28 ?_
          have bz103 := (hnY 2) 0
          refine lv_iconst (v := 1) hx hb dX11_last_31 (by decide) ?_
          refine lv_isub hx hb dX11_last_32 ?_
          refine lv_topi (fun xz104 exz104 => ?_)
          have fxz104 : xz104.toInt = ((nY 2) 0).toInt - (1 : Int) := by rw [exz104]; exact fb_subI (x := ((nY 2) 0)) (y := (1 : Int32)) (by show -2147483648 ≤ ((nY 2) 0).toInt - (1 : Int); omega) (by show ((nY 2) 0).toInt - (1 : Int) < 2147483648; omega)
          have hPc := hP.sub (ws' := (List.flatten [(wMem (fun i => sY 2 (i + 2)) k (nY 2) (aY 2))])) [39, 40, 41] rfl
          refine vp_callSi (va_Run.run (va_runV (As := [.int xz104]) (rest := []) ⟨hx, hb, hml, hown, hts⟩ (c_X2_heaviest l dC dI k (fun i => sY 2 (i + 2)) (nY 2) (aY 2) xz104 (hnY 2)) (cwV 1 hts (gk_V (wl_mem 11 rfl) (wl_mem 12 rfl) (wl_mem 13 rfl) (wl_mem 14 rfl) (fun w h => List.mem_cons_of_mem _ (List.mem_append_right _ (List.mem_append_right _ (List.mem_append_right _ (List.mem_append_right _ (List.mem_append_right _ (List.mem_append_right _ (List.mem_append_left _ h)))))))) wkg_c_X2_heaviest) rfl rfl rfl (by decide +kernel) ⟨Nat.le_of_ble_eq_true rfl, Nat.le_of_ble_eq_true rfl⟩) ⟨fun a U g mk q => by obtain ⟨q0, qP, qK⟩ := q; exact ⟨q0, qP, va_K.moved (u := U) (U := U.calling g mk a) (Vm.Alike.refl U.vm) qK⟩, va_recv hK hPc (ci := 2) (q0 := 0) rfl rfl, fun U hU hW => ⟨rfl, by rw [hU]; exact hPc, va_K.moved hW.alike hK⟩⟩ rfl rfl hl.1 rfl (lv_room (Nat.le_of_ble_eq_true rfl)) dX11_last_33 ⟨Nat.le_of_ble_eq_true rfl, Nat.le_of_ble_eq_true rfl⟩)) (fun rz106 gz105 => ?_)
          clear hPc
          rw [hQ]
          exact W.iret (v := rz106) hx hb hr (fun t ht hW => ⟨rz106, rfl, trivial, ht⟩) (fun _ h => absurd h List.not_mem_nil) dX11_last_36
        · skip
          have zz107 : p1.toInt = (1 : Int) := zi_eq.mp cz101
          refine W.eq (g2 := F0 m 24 ls [.int 1, .ref (sY 2 1)]) (by rw [cz101]) ?_
          refine va_aldq hx hb hK hP 38 4 rfl rfl (by unfold vp_in; decide) dX11_last_24 ?_
          refine W.eq (g2 := F0 m 25 ls [.ref (sY 2 5)]) rfl ?_
          refine lv_astore_n (lv' := [(3, .ref (sY 2 5)), (0, .ref (qX 0)), (1, .int p1), (2, .int p2)]) hx hb dX11_last_25 rfl hl (by decide) rfl (fun ls hl => ?_)
          refine lv_aload_n hx hb dX11_last_26 rfl (lv_at hl 0 rfl) ?_
          refine lv_aload_n hx hb dX11_last_27 rfl (lv_at hl 0 rfl) ?_
          refine va_get (D := (dC, dI)) (ci := 2) (v := .int ((nY 2) 1)) (C := RX2) (T := TX2) (N := 3) hx hb hts (fun w h => List.mem_cons_of_mem _ (List.mem_append_right _ (List.mem_append_right _ (List.mem_append_right _ (List.mem_append_right _ (List.mem_append_right _ (List.mem_append_left _ h))))))) hown hK hP 42 rfl rfl 2 (by decide) (hts (.fieldLink RX11 198 "SagMemory$Memory" "size" "I") (wl_mem 10 rfl)) (fun _ h9 => h9) rfl dX11_last_28 ?_
          have bz108 := (hnY 2) 1
          refine lv_iconst (v := 1) hx hb dX11_last_31 (by decide) ?_
          refine lv_isub hx hb dX11_last_32 ?_
          refine lv_topi (fun xz109 exz109 => ?_)
          have fxz109 : xz109.toInt = ((nY 2) 1).toInt - (1 : Int) := by rw [exz109]; exact fb_subI (x := ((nY 2) 1)) (y := (1 : Int32)) (by show -2147483648 ≤ ((nY 2) 1).toInt - (1 : Int); omega) (by show ((nY 2) 1).toInt - (1 : Int) < 2147483648; omega)
          have hPc := hP.sub (ws' := (List.flatten [(wMem (fun i => sY 2 (i + 5)) k (fun i => (nY 2) (i + 1)) (fun i => (aY 2) (i + 2)))])) [42, 43, 44] rfl
          refine vp_callSi (va_Run.run (va_runV (As := [.int xz109]) (rest := []) ⟨hx, hb, hml, hown, hts⟩ (c_X2_heaviest l dC dI k (fun i => sY 2 (i + 5)) (fun i => (nY 2) (i + 1)) (fun i => (aY 2) (i + 2)) xz109 (fun i => (hnY 2) (i + 1))) (cwV 1 hts (gk_V (wl_mem 11 rfl) (wl_mem 12 rfl) (wl_mem 13 rfl) (wl_mem 14 rfl) (fun w h => List.mem_cons_of_mem _ (List.mem_append_right _ (List.mem_append_right _ (List.mem_append_right _ (List.mem_append_right _ (List.mem_append_right _ (List.mem_append_right _ (List.mem_append_left _ h)))))))) wkg_c_X2_heaviest) rfl rfl rfl (by decide +kernel) ⟨Nat.le_of_ble_eq_true rfl, Nat.le_of_ble_eq_true rfl⟩) ⟨fun a U g mk q => by obtain ⟨q0, qP, qK⟩ := q; exact ⟨q0, qP, va_K.moved (u := U) (U := U.calling g mk a) (Vm.Alike.refl U.vm) qK⟩, va_recv hK hPc (ci := 2) (q0 := 0) rfl rfl, fun U hU hW => ⟨rfl, by rw [hU]; exact hPc, va_K.moved hW.alike hK⟩⟩ rfl rfl hl.1 rfl (lv_room (Nat.le_of_ble_eq_true rfl)) dX11_last_33 ⟨Nat.le_of_ble_eq_true rfl, Nat.le_of_ble_eq_true rfl⟩)) (fun rz111 gz110 => ?_)
          clear hPc
          rw [hQ]
          exact W.iret (v := rz111) hx hb hr (fun t ht hW => ⟨rz111, rfl, trivial, ht⟩) (fun _ h => absurd h List.not_mem_nil) dX11_last_36
        · skip
          have zz112 : p1.toInt = (2 : Int) := zi_eq.mp cz101
          refine W.eq (g2 := F0 m 24 ls [.int 2, .ref (sY 2 1)]) (by rw [cz101]) ?_
          refine va_aldq hx hb hK hP 38 4 rfl rfl (by unfold vp_in; decide) dX11_last_24 ?_
          refine W.eq (g2 := F0 m 25 ls [.ref (sY 2 8)]) rfl ?_
          refine lv_astore_n (lv' := [(3, .ref (sY 2 8)), (0, .ref (qX 0)), (1, .int p1), (2, .int p2)]) hx hb dX11_last_25 rfl hl (by decide) rfl (fun ls hl => ?_)
          refine lv_aload_n hx hb dX11_last_26 rfl (lv_at hl 0 rfl) ?_
          refine lv_aload_n hx hb dX11_last_27 rfl (lv_at hl 0 rfl) ?_
          refine va_get (D := (dC, dI)) (ci := 2) (v := .int ((nY 2) 2)) (C := RX2) (T := TX2) (N := 3) hx hb hts (fun w h => List.mem_cons_of_mem _ (List.mem_append_right _ (List.mem_append_right _ (List.mem_append_right _ (List.mem_append_right _ (List.mem_append_right _ (List.mem_append_left _ h))))))) hown hK hP 45 rfl rfl 2 (by decide) (hts (.fieldLink RX11 198 "SagMemory$Memory" "size" "I") (wl_mem 10 rfl)) (fun _ h9 => h9) rfl dX11_last_28 ?_
          have bz113 := (hnY 2) 2
          refine lv_iconst (v := 1) hx hb dX11_last_31 (by decide) ?_
          refine lv_isub hx hb dX11_last_32 ?_
          refine lv_topi (fun xz114 exz114 => ?_)
          have fxz114 : xz114.toInt = ((nY 2) 2).toInt - (1 : Int) := by rw [exz114]; exact fb_subI (x := ((nY 2) 2)) (y := (1 : Int32)) (by show -2147483648 ≤ ((nY 2) 2).toInt - (1 : Int); omega) (by show ((nY 2) 2).toInt - (1 : Int) < 2147483648; omega)
          have hPc := hP.sub (ws' := (List.flatten [(wMem (fun i => sY 2 (i + 8)) k (fun i => (nY 2) (i + 2)) (fun i => (aY 2) (i + 4)))])) [45, 46, 47] rfl
          refine vp_callSi (va_Run.run (va_runV (As := [.int xz114]) (rest := []) ⟨hx, hb, hml, hown, hts⟩ (c_X2_heaviest l dC dI k (fun i => sY 2 (i + 8)) (fun i => (nY 2) (i + 2)) (fun i => (aY 2) (i + 4)) xz114 (fun i => (hnY 2) (i + 2))) (cwV 1 hts (gk_V (wl_mem 11 rfl) (wl_mem 12 rfl) (wl_mem 13 rfl) (wl_mem 14 rfl) (fun w h => List.mem_cons_of_mem _ (List.mem_append_right _ (List.mem_append_right _ (List.mem_append_right _ (List.mem_append_right _ (List.mem_append_right _ (List.mem_append_right _ (List.mem_append_left _ h)))))))) wkg_c_X2_heaviest) rfl rfl rfl (by decide +kernel) ⟨Nat.le_of_ble_eq_true rfl, Nat.le_of_ble_eq_true rfl⟩) ⟨fun a U g mk q => by obtain ⟨q0, qP, qK⟩ := q; exact ⟨q0, qP, va_K.moved (u := U) (U := U.calling g mk a) (Vm.Alike.refl U.vm) qK⟩, va_recv hK hPc (ci := 2) (q0 := 0) rfl rfl, fun U hU hW => ⟨rfl, by rw [hU]; exact hPc, va_K.moved hW.alike hK⟩⟩ rfl rfl hl.1 rfl (lv_room (Nat.le_of_ble_eq_true rfl)) dX11_last_33 ⟨Nat.le_of_ble_eq_true rfl, Nat.le_of_ble_eq_true rfl⟩)) (fun rz116 gz115 => ?_)
          clear hPc
          rw [hQ]
          exact W.iret (v := rz116) hx hb hr (fun t ht hW => ⟨rz116, rfl, trivial, ht⟩) (fun _ h => absurd h List.not_mem_nil) dX11_last_36
      · skip
        have zz117 : ¬ p2.toInt < (0 : Int) := fun h9 => cz61 (zi_lt.mpr h9)
        have zz118 : ¬ (7 : Int) ≤ p2.toInt := fun h9 => cz62 (zi_le.mpr h9)
        have zz119 : p2.toInt = (2 : Int) := zi_eq.mp cz63
        refine W.eq (g2 := F0 m 20 ls [.ref (sY 3 0)]) rfl ?_
        refine va_get (D := (dC, dI)) (ci := 7) (v := .ref (sY 3 1)) (C := RX7) (T := TX7) (N := 9) hx hb hts (fun w h => List.mem_cons_of_mem _ (List.mem_append_right _ (List.mem_append_right _ (List.mem_append_right _ (List.mem_append_right _ (List.mem_append_left _ h)))))) hown hK hP 48 rfl rfl 0 (by decide) (hts (.fieldLink RX11 194 "SagMemory$State" "memories" "[LSagMemory$Memory;") (wl_mem 9 rfl)) (fun _ h9 => h9) rfl dX11_last_20 ?_
        refine lv_iload_n hx hb dX11_last_23 rfl (lv_at hl 1 rfl) ?_
        rcases (show p1 = 0 ∨ p1 = 1 ∨ p1 = 2 by simp only [zi_eq]; show p1.toInt = 0 ∨ p1.toInt = 1 ∨ p1.toInt = 2; omega) with cz120 | cz120 | cz120
        · skip
          have zz121 : p1.toInt = (0 : Int) := zi_eq.mp cz120
          refine W.eq (g2 := F0 m 24 ls [.int 0, .ref (sY 3 1)]) (by rw [cz120]) ?_
          refine va_aldq hx hb hK hP 49 4 rfl rfl (by unfold vp_in; decide) dX11_last_24 ?_
          refine W.eq (g2 := F0 m 25 ls [.ref (sY 3 2)]) rfl ?_
          refine lv_astore_n (lv' := [(3, .ref (sY 3 2)), (0, .ref (qX 0)), (1, .int p1), (2, .int p2)]) hx hb dX11_last_25 rfl hl (by decide) rfl (fun ls hl => ?_)
          refine lv_aload_n hx hb dX11_last_26 rfl (lv_at hl 0 rfl) ?_
          refine lv_aload_n hx hb dX11_last_27 rfl (lv_at hl 0 rfl) ?_
          refine va_get (D := (dC, dI)) (ci := 2) (v := .int ((nY 3) 0)) (C := RX2) (T := TX2) (N := 3) hx hb hts (fun w h => List.mem_cons_of_mem _ (List.mem_append_right _ (List.mem_append_right _ (List.mem_append_right _ (List.mem_append_right _ (List.mem_append_right _ (List.mem_append_left _ h))))))) hown hK hP 50 rfl rfl 2 (by decide) (hts (.fieldLink RX11 198 "SagMemory$Memory" "size" "I") (wl_mem 10 rfl)) (fun _ h9 => h9) rfl dX11_last_28 ?_
          have bz122 := (hnY 3) 0
          refine lv_iconst (v := 1) hx hb dX11_last_31 (by decide) ?_
          refine lv_isub hx hb dX11_last_32 ?_
          refine lv_topi (fun xz123 exz123 => ?_)
          have fxz123 : xz123.toInt = ((nY 3) 0).toInt - (1 : Int) := by rw [exz123]; exact fb_subI (x := ((nY 3) 0)) (y := (1 : Int32)) (by show -2147483648 ≤ ((nY 3) 0).toInt - (1 : Int); omega) (by show ((nY 3) 0).toInt - (1 : Int) < 2147483648; omega)
          have hPc := hP.sub (ws' := (List.flatten [(wMem (fun i => sY 3 (i + 2)) k (nY 3) (aY 3))])) [50, 51, 52] rfl
          refine vp_callSi (va_Run.run (va_runV (As := [.int xz123]) (rest := []) ⟨hx, hb, hml, hown, hts⟩ (c_X2_heaviest l dC dI k (fun i => sY 3 (i + 2)) (nY 3) (aY 3) xz123 (hnY 3)) (cwV 1 hts (gk_V (wl_mem 11 rfl) (wl_mem 12 rfl) (wl_mem 13 rfl) (wl_mem 14 rfl) (fun w h => List.mem_cons_of_mem _ (List.mem_append_right _ (List.mem_append_right _ (List.mem_append_right _ (List.mem_append_right _ (List.mem_append_right _ (List.mem_append_right _ (List.mem_append_left _ h)))))))) wkg_c_X2_heaviest) rfl rfl rfl (by decide +kernel) ⟨Nat.le_of_ble_eq_true rfl, Nat.le_of_ble_eq_true rfl⟩) ⟨fun a U g mk q => by obtain ⟨q0, qP, qK⟩ := q; exact ⟨q0, qP, va_K.moved (u := U) (U := U.calling g mk a) (Vm.Alike.refl U.vm) qK⟩, va_recv hK hPc (ci := 2) (q0 := 0) rfl rfl, fun U hU hW => ⟨rfl, by rw [hU]; exact hPc, va_K.moved hW.alike hK⟩⟩ rfl rfl hl.1 rfl (lv_room (Nat.le_of_ble_eq_true rfl)) dX11_last_33 ⟨Nat.le_of_ble_eq_true rfl, Nat.le_of_ble_eq_true rfl⟩)) (fun rz125 gz124 => ?_)
          clear hPc
          rw [hQ]
          exact W.iret (v := rz125) hx hb hr (fun t ht hW => ⟨rz125, rfl, trivial, ht⟩) (fun _ h => absurd h List.not_mem_nil) dX11_last_36
        · skip
          have zz126 : p1.toInt = (1 : Int) := zi_eq.mp cz120
          refine W.eq (g2 := F0 m 24 ls [.int 1, .ref (sY 3 1)]) (by rw [cz120]) ?_
          refine va_aldq hx hb hK hP 49 4 rfl rfl (by unfold vp_in; decide) dX11_last_24 ?_
          refine W.eq (g2 := F0 m 25 ls [.ref (sY 3 5)]) rfl ?_
          refine lv_astore_n (lv' := [(3, .ref (sY 3 5)), (0, .ref (qX 0)), (1, .int p1), (2, .int p2)]) hx hb dX11_last_25 rfl hl (by decide) rfl (fun ls hl => ?_)
          refine lv_aload_n hx hb dX11_last_26 rfl (lv_at hl 0 rfl) ?_
          refine lv_aload_n hx hb dX11_last_27 rfl (lv_at hl 0 rfl) ?_
          refine va_get (D := (dC, dI)) (ci := 2) (v := .int ((nY 3) 1)) (C := RX2) (T := TX2) (N := 3) hx hb hts (fun w h => List.mem_cons_of_mem _ (List.mem_append_right _ (List.mem_append_right _ (List.mem_append_right _ (List.mem_append_right _ (List.mem_append_right _ (List.mem_append_left _ h))))))) hown hK hP 53 rfl rfl 2 (by decide) (hts (.fieldLink RX11 198 "SagMemory$Memory" "size" "I") (wl_mem 10 rfl)) (fun _ h9 => h9) rfl dX11_last_28 ?_
          have bz127 := (hnY 3) 1
          refine lv_iconst (v := 1) hx hb dX11_last_31 (by decide) ?_
          refine lv_isub hx hb dX11_last_32 ?_
          refine lv_topi (fun xz128 exz128 => ?_)
          have fxz128 : xz128.toInt = ((nY 3) 1).toInt - (1 : Int) := by rw [exz128]; exact fb_subI (x := ((nY 3) 1)) (y := (1 : Int32)) (by show -2147483648 ≤ ((nY 3) 1).toInt - (1 : Int); omega) (by show ((nY 3) 1).toInt - (1 : Int) < 2147483648; omega)
          have hPc := hP.sub (ws' := (List.flatten [(wMem (fun i => sY 3 (i + 5)) k (fun i => (nY 3) (i + 1)) (fun i => (aY 3) (i + 2)))])) [53, 54, 55] rfl
          refine vp_callSi (va_Run.run (va_runV (As := [.int xz128]) (rest := []) ⟨hx, hb, hml, hown, hts⟩ (c_X2_heaviest l dC dI k (fun i => sY 3 (i + 5)) (fun i => (nY 3) (i + 1)) (fun i => (aY 3) (i + 2)) xz128 (fun i => (hnY 3) (i + 1))) (cwV 1 hts (gk_V (wl_mem 11 rfl) (wl_mem 12 rfl) (wl_mem 13 rfl) (wl_mem 14 rfl) (fun w h => List.mem_cons_of_mem _ (List.mem_append_right _ (List.mem_append_right _ (List.mem_append_right _ (List.mem_append_right _ (List.mem_append_right _ (List.mem_append_right _ (List.mem_append_left _ h)))))))) wkg_c_X2_heaviest) rfl rfl rfl (by decide +kernel) ⟨Nat.le_of_ble_eq_true rfl, Nat.le_of_ble_eq_true rfl⟩) ⟨fun a U g mk q => by obtain ⟨q0, qP, qK⟩ := q; exact ⟨q0, qP, va_K.moved (u := U) (U := U.calling g mk a) (Vm.Alike.refl U.vm) qK⟩, va_recv hK hPc (ci := 2) (q0 := 0) rfl rfl, fun U hU hW => ⟨rfl, by rw [hU]; exact hPc, va_K.moved hW.alike hK⟩⟩ rfl rfl hl.1 rfl (lv_room (Nat.le_of_ble_eq_true rfl)) dX11_last_33 ⟨Nat.le_of_ble_eq_true rfl, Nat.le_of_ble_eq_true rfl⟩)) (fun rz130 gz129 => ?_)
          clear hPc
          rw [hQ]
          exact W.iret (v := rz130) hx hb hr (fun t ht hW => ⟨rz130, rfl, trivial, ht⟩) (fun _ h => absurd h List.not_mem_nil) dX11_last_36
        · skip
          have zz131 : p1.toInt = (2 : Int) := zi_eq.mp cz120
          refine W.eq (g2 := F0 m 24 ls [.int 2, .ref (sY 3 1)]) (by rw [cz120]) ?_
          refine va_aldq hx hb hK hP 49 4 rfl rfl (by unfold vp_in; decide) dX11_last_24 ?_
          refine W.eq (g2 := F0 m 25 ls [.ref (sY 3 8)]) rfl ?_
          refine lv_astore_n (lv' := [(3, .ref (sY 3 8)), (0, .ref (qX 0)), (1, .int p1), (2, .int p2)]) hx hb dX11_last_25 rfl hl (by decide) rfl (fun ls hl => ?_)
          refine lv_aload_n hx hb dX11_last_26 rfl (lv_at hl 0 rfl) ?_
          refine lv_aload_n hx hb dX11_last_27 rfl (lv_at hl 0 rfl) ?_
          refine va_get (D := (dC, dI)) (ci := 2) (v := .int ((nY 3) 2)) (C := RX2) (T := TX2) (N := 3) hx hb hts (fun w h => List.mem_cons_of_mem _ (List.mem_append_right _ (List.mem_append_right _ (List.mem_append_right _ (List.mem_append_right _ (List.mem_append_right _ (List.mem_append_left _ h))))))) hown hK hP 56 rfl rfl 2 (by decide) (hts (.fieldLink RX11 198 "SagMemory$Memory" "size" "I") (wl_mem 10 rfl)) (fun _ h9 => h9) rfl dX11_last_28 ?_
          have bz132 := (hnY 3) 2
          refine lv_iconst (v := 1) hx hb dX11_last_31 (by decide) ?_
          refine lv_isub hx hb dX11_last_32 ?_
          refine lv_topi (fun xz133 exz133 => ?_)
          have fxz133 : xz133.toInt = ((nY 3) 2).toInt - (1 : Int) := by rw [exz133]; exact fb_subI (x := ((nY 3) 2)) (y := (1 : Int32)) (by show -2147483648 ≤ ((nY 3) 2).toInt - (1 : Int); omega) (by show ((nY 3) 2).toInt - (1 : Int) < 2147483648; omega)
          have hPc := hP.sub (ws' := (List.flatten [(wMem (fun i => sY 3 (i + 8)) k (fun i => (nY 3) (i + 2)) (fun i => (aY 3) (i + 4)))])) [56, 57, 58] rfl
          refine vp_callSi (va_Run.run (va_runV (As := [.int xz133]) (rest := []) ⟨hx, hb, hml, hown, hts⟩ (c_X2_heaviest l dC dI k (fun i => sY 3 (i + 8)) (fun i => (nY 3) (i + 2)) (fun i => (aY 3) (i + 4)) xz133 (fun i => (hnY 3) (i + 2))) (cwV 1 hts (gk_V (wl_mem 11 rfl) (wl_mem 12 rfl) (wl_mem 13 rfl) (wl_mem 14 rfl) (fun w h => List.mem_cons_of_mem _ (List.mem_append_right _ (List.mem_append_right _ (List.mem_append_right _ (List.mem_append_right _ (List.mem_append_right _ (List.mem_append_right _ (List.mem_append_left _ h)))))))) wkg_c_X2_heaviest) rfl rfl rfl (by decide +kernel) ⟨Nat.le_of_ble_eq_true rfl, Nat.le_of_ble_eq_true rfl⟩) ⟨fun a U g mk q => by obtain ⟨q0, qP, qK⟩ := q; exact ⟨q0, qP, va_K.moved (u := U) (U := U.calling g mk a) (Vm.Alike.refl U.vm) qK⟩, va_recv hK hPc (ci := 2) (q0 := 0) rfl rfl, fun U hU hW => ⟨rfl, by rw [hU]; exact hPc, va_K.moved hW.alike hK⟩⟩ rfl rfl hl.1 rfl (lv_room (Nat.le_of_ble_eq_true rfl)) dX11_last_33 ⟨Nat.le_of_ble_eq_true rfl, Nat.le_of_ble_eq_true rfl⟩)) (fun rz135 gz134 => ?_)
          clear hPc
          rw [hQ]
          exact W.iret (v := rz135) hx hb hr (fun t ht hW => ⟨rz135, rfl, trivial, ht⟩) (fun _ h => absurd h List.not_mem_nil) dX11_last_36
      · skip
        have zz136 : ¬ p2.toInt < (0 : Int) := fun h9 => cz64 (zi_lt.mpr h9)
        have zz137 : ¬ (7 : Int) ≤ p2.toInt := fun h9 => cz65 (zi_le.mpr h9)
        have zz138 : p2.toInt = (3 : Int) := zi_eq.mp cz66
        refine W.eq (g2 := F0 m 20 ls [.ref (sY 4 0)]) rfl ?_
        refine va_get (D := (dC, dI)) (ci := 7) (v := .ref (sY 4 1)) (C := RX7) (T := TX7) (N := 9) hx hb hts (fun w h => List.mem_cons_of_mem _ (List.mem_append_right _ (List.mem_append_right _ (List.mem_append_right _ (List.mem_append_right _ (List.mem_append_left _ h)))))) hown hK hP 59 rfl rfl 0 (by decide) (hts (.fieldLink RX11 194 "SagMemory$State" "memories" "[LSagMemory$Memory;") (wl_mem 9 rfl)) (fun _ h9 => h9) rfl dX11_last_20 ?_
        refine lv_iload_n hx hb dX11_last_23 rfl (lv_at hl 1 rfl) ?_
        rcases (show p1 = 0 ∨ p1 = 1 ∨ p1 = 2 by simp only [zi_eq]; show p1.toInt = 0 ∨ p1.toInt = 1 ∨ p1.toInt = 2; omega) with cz139 | cz139 | cz139
        · skip
          have zz140 : p1.toInt = (0 : Int) := zi_eq.mp cz139
          refine W.eq (g2 := F0 m 24 ls [.int 0, .ref (sY 4 1)]) (by rw [cz139]) ?_
          refine va_aldq hx hb hK hP 60 4 rfl rfl (by unfold vp_in; decide) dX11_last_24 ?_
          refine W.eq (g2 := F0 m 25 ls [.ref (sY 4 2)]) rfl ?_
          refine lv_astore_n (lv' := [(3, .ref (sY 4 2)), (0, .ref (qX 0)), (1, .int p1), (2, .int p2)]) hx hb dX11_last_25 rfl hl (by decide) rfl (fun ls hl => ?_)
          refine lv_aload_n hx hb dX11_last_26 rfl (lv_at hl 0 rfl) ?_
          refine lv_aload_n hx hb dX11_last_27 rfl (lv_at hl 0 rfl) ?_
          refine va_get (D := (dC, dI)) (ci := 2) (v := .int ((nY 4) 0)) (C := RX2) (T := TX2) (N := 3) hx hb hts (fun w h => List.mem_cons_of_mem _ (List.mem_append_right _ (List.mem_append_right _ (List.mem_append_right _ (List.mem_append_right _ (List.mem_append_right _ (List.mem_append_left _ h))))))) hown hK hP 61 rfl rfl 2 (by decide) (hts (.fieldLink RX11 198 "SagMemory$Memory" "size" "I") (wl_mem 10 rfl)) (fun _ h9 => h9) rfl dX11_last_28 ?_
          have bz141 := (hnY 4) 0
          refine lv_iconst (v := 1) hx hb dX11_last_31 (by decide) ?_
          refine lv_isub hx hb dX11_last_32 ?_
          refine lv_topi (fun xz142 exz142 => ?_)
          have fxz142 : xz142.toInt = ((nY 4) 0).toInt - (1 : Int) := by rw [exz142]; exact fb_subI (x := ((nY 4) 0)) (y := (1 : Int32)) (by show -2147483648 ≤ ((nY 4) 0).toInt - (1 : Int); omega) (by show ((nY 4) 0).toInt - (1 : Int) < 2147483648; omega)
          have hPc := hP.sub (ws' := (List.flatten [(wMem (fun i => sY 4 (i + 2)) k (nY 4) (aY 4))])) [61, 62, 63] rfl
          refine vp_callSi (va_Run.run (va_runV (As := [.int xz142]) (rest := []) ⟨hx, hb, hml, hown, hts⟩ (c_X2_heaviest l dC dI k (fun i => sY 4 (i + 2)) (nY 4) (aY 4) xz142 (hnY 4)) (cwV 1 hts (gk_V (wl_mem 11 rfl) (wl_mem 12 rfl) (wl_mem 13 rfl) (wl_mem 14 rfl) (fun w h => List.mem_cons_of_mem _ (List.mem_append_right _ (List.mem_append_right _ (List.mem_append_right _ (List.mem_append_right _ (List.mem_append_right _ (List.mem_append_right _ (List.mem_append_left _ h)))))))) wkg_c_X2_heaviest) rfl rfl rfl (by decide +kernel) ⟨Nat.le_of_ble_eq_true rfl, Nat.le_of_ble_eq_true rfl⟩) ⟨fun a U g mk q => by obtain ⟨q0, qP, qK⟩ := q; exact ⟨q0, qP, va_K.moved (u := U) (U := U.calling g mk a) (Vm.Alike.refl U.vm) qK⟩, va_recv hK hPc (ci := 2) (q0 := 0) rfl rfl, fun U hU hW => ⟨rfl, by rw [hU]; exact hPc, va_K.moved hW.alike hK⟩⟩ rfl rfl hl.1 rfl (lv_room (Nat.le_of_ble_eq_true rfl)) dX11_last_33 ⟨Nat.le_of_ble_eq_true rfl, Nat.le_of_ble_eq_true rfl⟩)) (fun rz144 gz143 => ?_)
          clear hPc
          rw [hQ]
          exact W.iret (v := rz144) hx hb hr (fun t ht hW => ⟨rz144, rfl, trivial, ht⟩) (fun _ h => absurd h List.not_mem_nil) dX11_last_36
        · skip
          have zz145 : p1.toInt = (1 : Int) := zi_eq.mp cz139
          refine W.eq (g2 := F0 m 24 ls [.int 1, .ref (sY 4 1)]) (by rw [cz139]) ?_
          refine va_aldq hx hb hK hP 60 4 rfl rfl (by unfold vp_in; decide) dX11_last_24 ?_
          refine W.eq (g2 := F0 m 25 ls [.ref (sY 4 5)]) rfl ?_
          refine lv_astore_n (lv' := [(3, .ref (sY 4 5)), (0, .ref (qX 0)), (1, .int p1), (2, .int p2)]) hx hb dX11_last_25 rfl hl (by decide) rfl (fun ls hl => ?_)
          refine lv_aload_n hx hb dX11_last_26 rfl (lv_at hl 0 rfl) ?_
          refine lv_aload_n hx hb dX11_last_27 rfl (lv_at hl 0 rfl) ?_
          refine va_get (D := (dC, dI)) (ci := 2) (v := .int ((nY 4) 1)) (C := RX2) (T := TX2) (N := 3) hx hb hts (fun w h => List.mem_cons_of_mem _ (List.mem_append_right _ (List.mem_append_right _ (List.mem_append_right _ (List.mem_append_right _ (List.mem_append_right _ (List.mem_append_left _ h))))))) hown hK hP 64 rfl rfl 2 (by decide) (hts (.fieldLink RX11 198 "SagMemory$Memory" "size" "I") (wl_mem 10 rfl)) (fun _ h9 => h9) rfl dX11_last_28 ?_
          have bz146 := (hnY 4) 1
          refine lv_iconst (v := 1) hx hb dX11_last_31 (by decide) ?_
          refine lv_isub hx hb dX11_last_32 ?_
          refine lv_topi (fun xz147 exz147 => ?_)
          have fxz147 : xz147.toInt = ((nY 4) 1).toInt - (1 : Int) := by rw [exz147]; exact fb_subI (x := ((nY 4) 1)) (y := (1 : Int32)) (by show -2147483648 ≤ ((nY 4) 1).toInt - (1 : Int); omega) (by show ((nY 4) 1).toInt - (1 : Int) < 2147483648; omega)
          have hPc := hP.sub (ws' := (List.flatten [(wMem (fun i => sY 4 (i + 5)) k (fun i => (nY 4) (i + 1)) (fun i => (aY 4) (i + 2)))])) [64, 65, 66] rfl
          refine vp_callSi (va_Run.run (va_runV (As := [.int xz147]) (rest := []) ⟨hx, hb, hml, hown, hts⟩ (c_X2_heaviest l dC dI k (fun i => sY 4 (i + 5)) (fun i => (nY 4) (i + 1)) (fun i => (aY 4) (i + 2)) xz147 (fun i => (hnY 4) (i + 1))) (cwV 1 hts (gk_V (wl_mem 11 rfl) (wl_mem 12 rfl) (wl_mem 13 rfl) (wl_mem 14 rfl) (fun w h => List.mem_cons_of_mem _ (List.mem_append_right _ (List.mem_append_right _ (List.mem_append_right _ (List.mem_append_right _ (List.mem_append_right _ (List.mem_append_right _ (List.mem_append_left _ h)))))))) wkg_c_X2_heaviest) rfl rfl rfl (by decide +kernel) ⟨Nat.le_of_ble_eq_true rfl, Nat.le_of_ble_eq_true rfl⟩) ⟨fun a U g mk q => by obtain ⟨q0, qP, qK⟩ := q; exact ⟨q0, qP, va_K.moved (u := U) (U := U.calling g mk a) (Vm.Alike.refl U.vm) qK⟩, va_recv hK hPc (ci := 2) (q0 := 0) rfl rfl, fun U hU hW => ⟨rfl, by rw [hU]; exact hPc, va_K.moved hW.alike hK⟩⟩ rfl rfl hl.1 rfl (lv_room (Nat.le_of_ble_eq_true rfl)) dX11_last_33 ⟨Nat.le_of_ble_eq_true rfl, Nat.le_of_ble_eq_true rfl⟩)) (fun rz149 gz148 => ?_)
          clear hPc
          rw [hQ]
          exact W.iret (v := rz149) hx hb hr (fun t ht hW => ⟨rz149, rfl, trivial, ht⟩) (fun _ h => absurd h List.not_mem_nil) dX11_last_36
        · skip
          have zz150 : p1.toInt = (2 : Int) := zi_eq.mp cz139
          refine W.eq (g2 := F0 m 24 ls [.int 2, .ref (sY 4 1)]) (by rw [cz139]) ?_
          refine va_aldq hx hb hK hP 60 4 rfl rfl (by unfold vp_in; decide) dX11_last_24 ?_
          refine W.eq (g2 := F0 m 25 ls [.ref (sY 4 8)]) rfl ?_
          refine lv_astore_n (lv' := [(3, .ref (sY 4 8)), (0, .ref (qX 0)), (1, .int p1), (2, .int p2)]) hx hb dX11_last_25 rfl hl (by decide) rfl (fun ls hl => ?_)
          refine lv_aload_n hx hb dX11_last_26 rfl (lv_at hl 0 rfl) ?_
          refine lv_aload_n hx hb dX11_last_27 rfl (lv_at hl 0 rfl) ?_
          refine va_get (D := (dC, dI)) (ci := 2) (v := .int ((nY 4) 2)) (C := RX2) (T := TX2) (N := 3) hx hb hts (fun w h => List.mem_cons_of_mem _ (List.mem_append_right _ (List.mem_append_right _ (List.mem_append_right _ (List.mem_append_right _ (List.mem_append_right _ (List.mem_append_left _ h))))))) hown hK hP 67 rfl rfl 2 (by decide) (hts (.fieldLink RX11 198 "SagMemory$Memory" "size" "I") (wl_mem 10 rfl)) (fun _ h9 => h9) rfl dX11_last_28 ?_
          have bz151 := (hnY 4) 2
          refine lv_iconst (v := 1) hx hb dX11_last_31 (by decide) ?_
          refine lv_isub hx hb dX11_last_32 ?_
          refine lv_topi (fun xz152 exz152 => ?_)
          have fxz152 : xz152.toInt = ((nY 4) 2).toInt - (1 : Int) := by rw [exz152]; exact fb_subI (x := ((nY 4) 2)) (y := (1 : Int32)) (by show -2147483648 ≤ ((nY 4) 2).toInt - (1 : Int); omega) (by show ((nY 4) 2).toInt - (1 : Int) < 2147483648; omega)
          have hPc := hP.sub (ws' := (List.flatten [(wMem (fun i => sY 4 (i + 8)) k (fun i => (nY 4) (i + 2)) (fun i => (aY 4) (i + 4)))])) [67, 68, 69] rfl
          refine vp_callSi (va_Run.run (va_runV (As := [.int xz152]) (rest := []) ⟨hx, hb, hml, hown, hts⟩ (c_X2_heaviest l dC dI k (fun i => sY 4 (i + 8)) (fun i => (nY 4) (i + 2)) (fun i => (aY 4) (i + 4)) xz152 (fun i => (hnY 4) (i + 2))) (cwV 1 hts (gk_V (wl_mem 11 rfl) (wl_mem 12 rfl) (wl_mem 13 rfl) (wl_mem 14 rfl) (fun w h => List.mem_cons_of_mem _ (List.mem_append_right _ (List.mem_append_right _ (List.mem_append_right _ (List.mem_append_right _ (List.mem_append_right _ (List.mem_append_right _ (List.mem_append_left _ h)))))))) wkg_c_X2_heaviest) rfl rfl rfl (by decide +kernel) ⟨Nat.le_of_ble_eq_true rfl, Nat.le_of_ble_eq_true rfl⟩) ⟨fun a U g mk q => by obtain ⟨q0, qP, qK⟩ := q; exact ⟨q0, qP, va_K.moved (u := U) (U := U.calling g mk a) (Vm.Alike.refl U.vm) qK⟩, va_recv hK hPc (ci := 2) (q0 := 0) rfl rfl, fun U hU hW => ⟨rfl, by rw [hU]; exact hPc, va_K.moved hW.alike hK⟩⟩ rfl rfl hl.1 rfl (lv_room (Nat.le_of_ble_eq_true rfl)) dX11_last_33 ⟨Nat.le_of_ble_eq_true rfl, Nat.le_of_ble_eq_true rfl⟩)) (fun rz154 gz153 => ?_)
          clear hPc
          rw [hQ]
          exact W.iret (v := rz154) hx hb hr (fun t ht hW => ⟨rz154, rfl, trivial, ht⟩) (fun _ h => absurd h List.not_mem_nil) dX11_last_36
      · skip
        have zz155 : ¬ p2.toInt < (0 : Int) := fun h9 => cz67 (zi_lt.mpr h9)
        have zz156 : ¬ (7 : Int) ≤ p2.toInt := fun h9 => cz68 (zi_le.mpr h9)
        have zz157 : p2.toInt = (4 : Int) := zi_eq.mp cz69
        refine W.eq (g2 := F0 m 20 ls [.ref (sY 5 0)]) rfl ?_
        refine va_get (D := (dC, dI)) (ci := 7) (v := .ref (sY 5 1)) (C := RX7) (T := TX7) (N := 9) hx hb hts (fun w h => List.mem_cons_of_mem _ (List.mem_append_right _ (List.mem_append_right _ (List.mem_append_right _ (List.mem_append_right _ (List.mem_append_left _ h)))))) hown hK hP 70 rfl rfl 0 (by decide) (hts (.fieldLink RX11 194 "SagMemory$State" "memories" "[LSagMemory$Memory;") (wl_mem 9 rfl)) (fun _ h9 => h9) rfl dX11_last_20 ?_
        refine lv_iload_n hx hb dX11_last_23 rfl (lv_at hl 1 rfl) ?_
        rcases (show p1 = 0 ∨ p1 = 1 ∨ p1 = 2 by simp only [zi_eq]; show p1.toInt = 0 ∨ p1.toInt = 1 ∨ p1.toInt = 2; omega) with cz158 | cz158 | cz158
        · skip
          have zz159 : p1.toInt = (0 : Int) := zi_eq.mp cz158
          refine W.eq (g2 := F0 m 24 ls [.int 0, .ref (sY 5 1)]) (by rw [cz158]) ?_
          refine va_aldq hx hb hK hP 71 4 rfl rfl (by unfold vp_in; decide) dX11_last_24 ?_
          refine W.eq (g2 := F0 m 25 ls [.ref (sY 5 2)]) rfl ?_
          refine lv_astore_n (lv' := [(3, .ref (sY 5 2)), (0, .ref (qX 0)), (1, .int p1), (2, .int p2)]) hx hb dX11_last_25 rfl hl (by decide) rfl (fun ls hl => ?_)
          refine lv_aload_n hx hb dX11_last_26 rfl (lv_at hl 0 rfl) ?_
          refine lv_aload_n hx hb dX11_last_27 rfl (lv_at hl 0 rfl) ?_
          refine va_get (D := (dC, dI)) (ci := 2) (v := .int ((nY 5) 0)) (C := RX2) (T := TX2) (N := 3) hx hb hts (fun w h => List.mem_cons_of_mem _ (List.mem_append_right _ (List.mem_append_right _ (List.mem_append_right _ (List.mem_append_right _ (List.mem_append_right _ (List.mem_append_left _ h))))))) hown hK hP 72 rfl rfl 2 (by decide) (hts (.fieldLink RX11 198 "SagMemory$Memory" "size" "I") (wl_mem 10 rfl)) (fun _ h9 => h9) rfl dX11_last_28 ?_
          have bz160 := (hnY 5) 0
          refine lv_iconst (v := 1) hx hb dX11_last_31 (by decide) ?_
          refine lv_isub hx hb dX11_last_32 ?_
          refine lv_topi (fun xz161 exz161 => ?_)
          have fxz161 : xz161.toInt = ((nY 5) 0).toInt - (1 : Int) := by rw [exz161]; exact fb_subI (x := ((nY 5) 0)) (y := (1 : Int32)) (by show -2147483648 ≤ ((nY 5) 0).toInt - (1 : Int); omega) (by show ((nY 5) 0).toInt - (1 : Int) < 2147483648; omega)
          have hPc := hP.sub (ws' := (List.flatten [(wMem (fun i => sY 5 (i + 2)) k (nY 5) (aY 5))])) [72, 73, 74] rfl
          refine vp_callSi (va_Run.run (va_runV (As := [.int xz161]) (rest := []) ⟨hx, hb, hml, hown, hts⟩ (c_X2_heaviest l dC dI k (fun i => sY 5 (i + 2)) (nY 5) (aY 5) xz161 (hnY 5)) (cwV 1 hts (gk_V (wl_mem 11 rfl) (wl_mem 12 rfl) (wl_mem 13 rfl) (wl_mem 14 rfl) (fun w h => List.mem_cons_of_mem _ (List.mem_append_right _ (List.mem_append_right _ (List.mem_append_right _ (List.mem_append_right _ (List.mem_append_right _ (List.mem_append_right _ (List.mem_append_left _ h)))))))) wkg_c_X2_heaviest) rfl rfl rfl (by decide +kernel) ⟨Nat.le_of_ble_eq_true rfl, Nat.le_of_ble_eq_true rfl⟩) ⟨fun a U g mk q => by obtain ⟨q0, qP, qK⟩ := q; exact ⟨q0, qP, va_K.moved (u := U) (U := U.calling g mk a) (Vm.Alike.refl U.vm) qK⟩, va_recv hK hPc (ci := 2) (q0 := 0) rfl rfl, fun U hU hW => ⟨rfl, by rw [hU]; exact hPc, va_K.moved hW.alike hK⟩⟩ rfl rfl hl.1 rfl (lv_room (Nat.le_of_ble_eq_true rfl)) dX11_last_33 ⟨Nat.le_of_ble_eq_true rfl, Nat.le_of_ble_eq_true rfl⟩)) (fun rz163 gz162 => ?_)
          clear hPc
          rw [hQ]
          exact W.iret (v := rz163) hx hb hr (fun t ht hW => ⟨rz163, rfl, trivial, ht⟩) (fun _ h => absurd h List.not_mem_nil) dX11_last_36
        · skip
          have zz164 : p1.toInt = (1 : Int) := zi_eq.mp cz158
          refine W.eq (g2 := F0 m 24 ls [.int 1, .ref (sY 5 1)]) (by rw [cz158]) ?_
          refine va_aldq hx hb hK hP 71 4 rfl rfl (by unfold vp_in; decide) dX11_last_24 ?_
          refine W.eq (g2 := F0 m 25 ls [.ref (sY 5 5)]) rfl ?_
          refine lv_astore_n (lv' := [(3, .ref (sY 5 5)), (0, .ref (qX 0)), (1, .int p1), (2, .int p2)]) hx hb dX11_last_25 rfl hl (by decide) rfl (fun ls hl => ?_)
          refine lv_aload_n hx hb dX11_last_26 rfl (lv_at hl 0 rfl) ?_
          refine lv_aload_n hx hb dX11_last_27 rfl (lv_at hl 0 rfl) ?_
          refine va_get (D := (dC, dI)) (ci := 2) (v := .int ((nY 5) 1)) (C := RX2) (T := TX2) (N := 3) hx hb hts (fun w h => List.mem_cons_of_mem _ (List.mem_append_right _ (List.mem_append_right _ (List.mem_append_right _ (List.mem_append_right _ (List.mem_append_right _ (List.mem_append_left _ h))))))) hown hK hP 75 rfl rfl 2 (by decide) (hts (.fieldLink RX11 198 "SagMemory$Memory" "size" "I") (wl_mem 10 rfl)) (fun _ h9 => h9) rfl dX11_last_28 ?_
          have bz165 := (hnY 5) 1
          refine lv_iconst (v := 1) hx hb dX11_last_31 (by decide) ?_
          refine lv_isub hx hb dX11_last_32 ?_
          refine lv_topi (fun xz166 exz166 => ?_)
          have fxz166 : xz166.toInt = ((nY 5) 1).toInt - (1 : Int) := by rw [exz166]; exact fb_subI (x := ((nY 5) 1)) (y := (1 : Int32)) (by show -2147483648 ≤ ((nY 5) 1).toInt - (1 : Int); omega) (by show ((nY 5) 1).toInt - (1 : Int) < 2147483648; omega)
          have hPc := hP.sub (ws' := (List.flatten [(wMem (fun i => sY 5 (i + 5)) k (fun i => (nY 5) (i + 1)) (fun i => (aY 5) (i + 2)))])) [75, 76, 77] rfl
          refine vp_callSi (va_Run.run (va_runV (As := [.int xz166]) (rest := []) ⟨hx, hb, hml, hown, hts⟩ (c_X2_heaviest l dC dI k (fun i => sY 5 (i + 5)) (fun i => (nY 5) (i + 1)) (fun i => (aY 5) (i + 2)) xz166 (fun i => (hnY 5) (i + 1))) (cwV 1 hts (gk_V (wl_mem 11 rfl) (wl_mem 12 rfl) (wl_mem 13 rfl) (wl_mem 14 rfl) (fun w h => List.mem_cons_of_mem _ (List.mem_append_right _ (List.mem_append_right _ (List.mem_append_right _ (List.mem_append_right _ (List.mem_append_right _ (List.mem_append_right _ (List.mem_append_left _ h)))))))) wkg_c_X2_heaviest) rfl rfl rfl (by decide +kernel) ⟨Nat.le_of_ble_eq_true rfl, Nat.le_of_ble_eq_true rfl⟩) ⟨fun a U g mk q => by obtain ⟨q0, qP, qK⟩ := q; exact ⟨q0, qP, va_K.moved (u := U) (U := U.calling g mk a) (Vm.Alike.refl U.vm) qK⟩, va_recv hK hPc (ci := 2) (q0 := 0) rfl rfl, fun U hU hW => ⟨rfl, by rw [hU]; exact hPc, va_K.moved hW.alike hK⟩⟩ rfl rfl hl.1 rfl (lv_room (Nat.le_of_ble_eq_true rfl)) dX11_last_33 ⟨Nat.le_of_ble_eq_true rfl, Nat.le_of_ble_eq_true rfl⟩)) (fun rz168 gz167 => ?_)
          clear hPc
          rw [hQ]
          exact W.iret (v := rz168) hx hb hr (fun t ht hW => ⟨rz168, rfl, trivial, ht⟩) (fun _ h => absurd h List.not_mem_nil) dX11_last_36
        · skip
          have zz169 : p1.toInt = (2 : Int) := zi_eq.mp cz158
          refine W.eq (g2 := F0 m 24 ls [.int 2, .ref (sY 5 1)]) (by rw [cz158]) ?_
          refine va_aldq hx hb hK hP 71 4 rfl rfl (by unfold vp_in; decide) dX11_last_24 ?_
          refine W.eq (g2 := F0 m 25 ls [.ref (sY 5 8)]) rfl ?_
          refine lv_astore_n (lv' := [(3, .ref (sY 5 8)), (0, .ref (qX 0)), (1, .int p1), (2, .int p2)]) hx hb dX11_last_25 rfl hl (by decide) rfl (fun ls hl => ?_)
          refine lv_aload_n hx hb dX11_last_26 rfl (lv_at hl 0 rfl) ?_
          refine lv_aload_n hx hb dX11_last_27 rfl (lv_at hl 0 rfl) ?_
          refine va_get (D := (dC, dI)) (ci := 2) (v := .int ((nY 5) 2)) (C := RX2) (T := TX2) (N := 3) hx hb hts (fun w h => List.mem_cons_of_mem _ (List.mem_append_right _ (List.mem_append_right _ (List.mem_append_right _ (List.mem_append_right _ (List.mem_append_right _ (List.mem_append_left _ h))))))) hown hK hP 78 rfl rfl 2 (by decide) (hts (.fieldLink RX11 198 "SagMemory$Memory" "size" "I") (wl_mem 10 rfl)) (fun _ h9 => h9) rfl dX11_last_28 ?_
          have bz170 := (hnY 5) 2
          refine lv_iconst (v := 1) hx hb dX11_last_31 (by decide) ?_
          refine lv_isub hx hb dX11_last_32 ?_
          refine lv_topi (fun xz171 exz171 => ?_)
          have fxz171 : xz171.toInt = ((nY 5) 2).toInt - (1 : Int) := by rw [exz171]; exact fb_subI (x := ((nY 5) 2)) (y := (1 : Int32)) (by show -2147483648 ≤ ((nY 5) 2).toInt - (1 : Int); omega) (by show ((nY 5) 2).toInt - (1 : Int) < 2147483648; omega)
          have hPc := hP.sub (ws' := (List.flatten [(wMem (fun i => sY 5 (i + 8)) k (fun i => (nY 5) (i + 2)) (fun i => (aY 5) (i + 4)))])) [78, 79, 80] rfl
          refine vp_callSi (va_Run.run (va_runV (As := [.int xz171]) (rest := []) ⟨hx, hb, hml, hown, hts⟩ (c_X2_heaviest l dC dI k (fun i => sY 5 (i + 8)) (fun i => (nY 5) (i + 2)) (fun i => (aY 5) (i + 4)) xz171 (fun i => (hnY 5) (i + 2))) (cwV 1 hts (gk_V (wl_mem 11 rfl) (wl_mem 12 rfl) (wl_mem 13 rfl) (wl_mem 14 rfl) (fun w h => List.mem_cons_of_mem _ (List.mem_append_right _ (List.mem_append_right _ (List.mem_append_right _ (List.mem_append_right _ (List.mem_append_right _ (List.mem_append_right _ (List.mem_append_left _ h)))))))) wkg_c_X2_heaviest) rfl rfl rfl (by decide +kernel) ⟨Nat.le_of_ble_eq_true rfl, Nat.le_of_ble_eq_true rfl⟩) ⟨fun a U g mk q => by obtain ⟨q0, qP, qK⟩ := q; exact ⟨q0, qP, va_K.moved (u := U) (U := U.calling g mk a) (Vm.Alike.refl U.vm) qK⟩, va_recv hK hPc (ci := 2) (q0 := 0) rfl rfl, fun U hU hW => ⟨rfl, by rw [hU]; exact hPc, va_K.moved hW.alike hK⟩⟩ rfl rfl hl.1 rfl (lv_room (Nat.le_of_ble_eq_true rfl)) dX11_last_33 ⟨Nat.le_of_ble_eq_true rfl, Nat.le_of_ble_eq_true rfl⟩)) (fun rz173 gz172 => ?_)
          clear hPc
          rw [hQ]
          exact W.iret (v := rz173) hx hb hr (fun t ht hW => ⟨rz173, rfl, trivial, ht⟩) (fun _ h => absurd h List.not_mem_nil) dX11_last_36
      · skip
        have zz174 : ¬ p2.toInt < (0 : Int) := fun h9 => cz70 (zi_lt.mpr h9)
        have zz175 : ¬ (7 : Int) ≤ p2.toInt := fun h9 => cz71 (zi_le.mpr h9)
        have zz176 : p2.toInt = (5 : Int) := zi_eq.mp cz72
        refine W.eq (g2 := F0 m 20 ls [.ref (sY 6 0)]) rfl ?_
        refine va_get (D := (dC, dI)) (ci := 7) (v := .ref (sY 6 1)) (C := RX7) (T := TX7) (N := 9) hx hb hts (fun w h => List.mem_cons_of_mem _ (List.mem_append_right _ (List.mem_append_right _ (List.mem_append_right _ (List.mem_append_right _ (List.mem_append_left _ h)))))) hown hK hP 81 rfl rfl 0 (by decide) (hts (.fieldLink RX11 194 "SagMemory$State" "memories" "[LSagMemory$Memory;") (wl_mem 9 rfl)) (fun _ h9 => h9) rfl dX11_last_20 ?_
        refine lv_iload_n hx hb dX11_last_23 rfl (lv_at hl 1 rfl) ?_
        rcases (show p1 = 0 ∨ p1 = 1 ∨ p1 = 2 by simp only [zi_eq]; show p1.toInt = 0 ∨ p1.toInt = 1 ∨ p1.toInt = 2; omega) with cz177 | cz177 | cz177
        · skip
          have zz178 : p1.toInt = (0 : Int) := zi_eq.mp cz177
          refine W.eq (g2 := F0 m 24 ls [.int 0, .ref (sY 6 1)]) (by rw [cz177]) ?_
          refine va_aldq hx hb hK hP 82 4 rfl rfl (by unfold vp_in; decide) dX11_last_24 ?_
          refine W.eq (g2 := F0 m 25 ls [.ref (sY 6 2)]) rfl ?_
          refine lv_astore_n (lv' := [(3, .ref (sY 6 2)), (0, .ref (qX 0)), (1, .int p1), (2, .int p2)]) hx hb dX11_last_25 rfl hl (by decide) rfl (fun ls hl => ?_)
          refine lv_aload_n hx hb dX11_last_26 rfl (lv_at hl 0 rfl) ?_
          refine lv_aload_n hx hb dX11_last_27 rfl (lv_at hl 0 rfl) ?_
          refine va_get (D := (dC, dI)) (ci := 2) (v := .int ((nY 6) 0)) (C := RX2) (T := TX2) (N := 3) hx hb hts (fun w h => List.mem_cons_of_mem _ (List.mem_append_right _ (List.mem_append_right _ (List.mem_append_right _ (List.mem_append_right _ (List.mem_append_right _ (List.mem_append_left _ h))))))) hown hK hP 83 rfl rfl 2 (by decide) (hts (.fieldLink RX11 198 "SagMemory$Memory" "size" "I") (wl_mem 10 rfl)) (fun _ h9 => h9) rfl dX11_last_28 ?_
          have bz179 := (hnY 6) 0
          refine lv_iconst (v := 1) hx hb dX11_last_31 (by decide) ?_
          refine lv_isub hx hb dX11_last_32 ?_
          refine lv_topi (fun xz180 exz180 => ?_)
          have fxz180 : xz180.toInt = ((nY 6) 0).toInt - (1 : Int) := by rw [exz180]; exact fb_subI (x := ((nY 6) 0)) (y := (1 : Int32)) (by show -2147483648 ≤ ((nY 6) 0).toInt - (1 : Int); omega) (by show ((nY 6) 0).toInt - (1 : Int) < 2147483648; omega)
          have hPc := hP.sub (ws' := (List.flatten [(wMem (fun i => sY 6 (i + 2)) k (nY 6) (aY 6))])) [83, 84, 85] rfl
          refine vp_callSi (va_Run.run (va_runV (As := [.int xz180]) (rest := []) ⟨hx, hb, hml, hown, hts⟩ (c_X2_heaviest l dC dI k (fun i => sY 6 (i + 2)) (nY 6) (aY 6) xz180 (hnY 6)) (cwV 1 hts (gk_V (wl_mem 11 rfl) (wl_mem 12 rfl) (wl_mem 13 rfl) (wl_mem 14 rfl) (fun w h => List.mem_cons_of_mem _ (List.mem_append_right _ (List.mem_append_right _ (List.mem_append_right _ (List.mem_append_right _ (List.mem_append_right _ (List.mem_append_right _ (List.mem_append_left _ h)))))))) wkg_c_X2_heaviest) rfl rfl rfl (by decide +kernel) ⟨Nat.le_of_ble_eq_true rfl, Nat.le_of_ble_eq_true rfl⟩) ⟨fun a U g mk q => by obtain ⟨q0, qP, qK⟩ := q; exact ⟨q0, qP, va_K.moved (u := U) (U := U.calling g mk a) (Vm.Alike.refl U.vm) qK⟩, va_recv hK hPc (ci := 2) (q0 := 0) rfl rfl, fun U hU hW => ⟨rfl, by rw [hU]; exact hPc, va_K.moved hW.alike hK⟩⟩ rfl rfl hl.1 rfl (lv_room (Nat.le_of_ble_eq_true rfl)) dX11_last_33 ⟨Nat.le_of_ble_eq_true rfl, Nat.le_of_ble_eq_true rfl⟩)) (fun rz182 gz181 => ?_)
          clear hPc
          rw [hQ]
          exact W.iret (v := rz182) hx hb hr (fun t ht hW => ⟨rz182, rfl, trivial, ht⟩) (fun _ h => absurd h List.not_mem_nil) dX11_last_36
        · skip
          have zz183 : p1.toInt = (1 : Int) := zi_eq.mp cz177
          refine W.eq (g2 := F0 m 24 ls [.int 1, .ref (sY 6 1)]) (by rw [cz177]) ?_
          refine va_aldq hx hb hK hP 82 4 rfl rfl (by unfold vp_in; decide) dX11_last_24 ?_
          refine W.eq (g2 := F0 m 25 ls [.ref (sY 6 5)]) rfl ?_
          refine lv_astore_n (lv' := [(3, .ref (sY 6 5)), (0, .ref (qX 0)), (1, .int p1), (2, .int p2)]) hx hb dX11_last_25 rfl hl (by decide) rfl (fun ls hl => ?_)
          refine lv_aload_n hx hb dX11_last_26 rfl (lv_at hl 0 rfl) ?_
          refine lv_aload_n hx hb dX11_last_27 rfl (lv_at hl 0 rfl) ?_
          refine va_get (D := (dC, dI)) (ci := 2) (v := .int ((nY 6) 1)) (C := RX2) (T := TX2) (N := 3) hx hb hts (fun w h => List.mem_cons_of_mem _ (List.mem_append_right _ (List.mem_append_right _ (List.mem_append_right _ (List.mem_append_right _ (List.mem_append_right _ (List.mem_append_left _ h))))))) hown hK hP 86 rfl rfl 2 (by decide) (hts (.fieldLink RX11 198 "SagMemory$Memory" "size" "I") (wl_mem 10 rfl)) (fun _ h9 => h9) rfl dX11_last_28 ?_
          have bz184 := (hnY 6) 1
          refine lv_iconst (v := 1) hx hb dX11_last_31 (by decide) ?_
          refine lv_isub hx hb dX11_last_32 ?_
          refine lv_topi (fun xz185 exz185 => ?_)
          have fxz185 : xz185.toInt = ((nY 6) 1).toInt - (1 : Int) := by rw [exz185]; exact fb_subI (x := ((nY 6) 1)) (y := (1 : Int32)) (by show -2147483648 ≤ ((nY 6) 1).toInt - (1 : Int); omega) (by show ((nY 6) 1).toInt - (1 : Int) < 2147483648; omega)
          have hPc := hP.sub (ws' := (List.flatten [(wMem (fun i => sY 6 (i + 5)) k (fun i => (nY 6) (i + 1)) (fun i => (aY 6) (i + 2)))])) [86, 87, 88] rfl
          refine vp_callSi (va_Run.run (va_runV (As := [.int xz185]) (rest := []) ⟨hx, hb, hml, hown, hts⟩ (c_X2_heaviest l dC dI k (fun i => sY 6 (i + 5)) (fun i => (nY 6) (i + 1)) (fun i => (aY 6) (i + 2)) xz185 (fun i => (hnY 6) (i + 1))) (cwV 1 hts (gk_V (wl_mem 11 rfl) (wl_mem 12 rfl) (wl_mem 13 rfl) (wl_mem 14 rfl) (fun w h => List.mem_cons_of_mem _ (List.mem_append_right _ (List.mem_append_right _ (List.mem_append_right _ (List.mem_append_right _ (List.mem_append_right _ (List.mem_append_right _ (List.mem_append_left _ h)))))))) wkg_c_X2_heaviest) rfl rfl rfl (by decide +kernel) ⟨Nat.le_of_ble_eq_true rfl, Nat.le_of_ble_eq_true rfl⟩) ⟨fun a U g mk q => by obtain ⟨q0, qP, qK⟩ := q; exact ⟨q0, qP, va_K.moved (u := U) (U := U.calling g mk a) (Vm.Alike.refl U.vm) qK⟩, va_recv hK hPc (ci := 2) (q0 := 0) rfl rfl, fun U hU hW => ⟨rfl, by rw [hU]; exact hPc, va_K.moved hW.alike hK⟩⟩ rfl rfl hl.1 rfl (lv_room (Nat.le_of_ble_eq_true rfl)) dX11_last_33 ⟨Nat.le_of_ble_eq_true rfl, Nat.le_of_ble_eq_true rfl⟩)) (fun rz187 gz186 => ?_)
          clear hPc
          rw [hQ]
          exact W.iret (v := rz187) hx hb hr (fun t ht hW => ⟨rz187, rfl, trivial, ht⟩) (fun _ h => absurd h List.not_mem_nil) dX11_last_36
        · skip
          have zz188 : p1.toInt = (2 : Int) := zi_eq.mp cz177
          refine W.eq (g2 := F0 m 24 ls [.int 2, .ref (sY 6 1)]) (by rw [cz177]) ?_
          refine va_aldq hx hb hK hP 82 4 rfl rfl (by unfold vp_in; decide) dX11_last_24 ?_
          refine W.eq (g2 := F0 m 25 ls [.ref (sY 6 8)]) rfl ?_
          refine lv_astore_n (lv' := [(3, .ref (sY 6 8)), (0, .ref (qX 0)), (1, .int p1), (2, .int p2)]) hx hb dX11_last_25 rfl hl (by decide) rfl (fun ls hl => ?_)
          refine lv_aload_n hx hb dX11_last_26 rfl (lv_at hl 0 rfl) ?_
          refine lv_aload_n hx hb dX11_last_27 rfl (lv_at hl 0 rfl) ?_
          refine va_get (D := (dC, dI)) (ci := 2) (v := .int ((nY 6) 2)) (C := RX2) (T := TX2) (N := 3) hx hb hts (fun w h => List.mem_cons_of_mem _ (List.mem_append_right _ (List.mem_append_right _ (List.mem_append_right _ (List.mem_append_right _ (List.mem_append_right _ (List.mem_append_left _ h))))))) hown hK hP 89 rfl rfl 2 (by decide) (hts (.fieldLink RX11 198 "SagMemory$Memory" "size" "I") (wl_mem 10 rfl)) (fun _ h9 => h9) rfl dX11_last_28 ?_
          have bz189 := (hnY 6) 2
          refine lv_iconst (v := 1) hx hb dX11_last_31 (by decide) ?_
          refine lv_isub hx hb dX11_last_32 ?_
          refine lv_topi (fun xz190 exz190 => ?_)
          have fxz190 : xz190.toInt = ((nY 6) 2).toInt - (1 : Int) := by rw [exz190]; exact fb_subI (x := ((nY 6) 2)) (y := (1 : Int32)) (by show -2147483648 ≤ ((nY 6) 2).toInt - (1 : Int); omega) (by show ((nY 6) 2).toInt - (1 : Int) < 2147483648; omega)
          have hPc := hP.sub (ws' := (List.flatten [(wMem (fun i => sY 6 (i + 8)) k (fun i => (nY 6) (i + 2)) (fun i => (aY 6) (i + 4)))])) [89, 90, 91] rfl
          refine vp_callSi (va_Run.run (va_runV (As := [.int xz190]) (rest := []) ⟨hx, hb, hml, hown, hts⟩ (c_X2_heaviest l dC dI k (fun i => sY 6 (i + 8)) (fun i => (nY 6) (i + 2)) (fun i => (aY 6) (i + 4)) xz190 (fun i => (hnY 6) (i + 2))) (cwV 1 hts (gk_V (wl_mem 11 rfl) (wl_mem 12 rfl) (wl_mem 13 rfl) (wl_mem 14 rfl) (fun w h => List.mem_cons_of_mem _ (List.mem_append_right _ (List.mem_append_right _ (List.mem_append_right _ (List.mem_append_right _ (List.mem_append_right _ (List.mem_append_right _ (List.mem_append_left _ h)))))))) wkg_c_X2_heaviest) rfl rfl rfl (by decide +kernel) ⟨Nat.le_of_ble_eq_true rfl, Nat.le_of_ble_eq_true rfl⟩) ⟨fun a U g mk q => by obtain ⟨q0, qP, qK⟩ := q; exact ⟨q0, qP, va_K.moved (u := U) (U := U.calling g mk a) (Vm.Alike.refl U.vm) qK⟩, va_recv hK hPc (ci := 2) (q0 := 0) rfl rfl, fun U hU hW => ⟨rfl, by rw [hU]; exact hPc, va_K.moved hW.alike hK⟩⟩ rfl rfl hl.1 rfl (lv_room (Nat.le_of_ble_eq_true rfl)) dX11_last_33 ⟨Nat.le_of_ble_eq_true rfl, Nat.le_of_ble_eq_true rfl⟩)) (fun rz192 gz191 => ?_)
          clear hPc
          rw [hQ]
          exact W.iret (v := rz192) hx hb hr (fun t ht hW => ⟨rz192, rfl, trivial, ht⟩) (fun _ h => absurd h List.not_mem_nil) dX11_last_36
      · skip
        have zz193 : ¬ p2.toInt < (0 : Int) := fun h9 => cz73 (zi_lt.mpr h9)
        have zz194 : ¬ (7 : Int) ≤ p2.toInt := fun h9 => cz74 (zi_le.mpr h9)
        have zz195 : p2.toInt = (6 : Int) := zi_eq.mp cz75
        refine W.eq (g2 := F0 m 20 ls [.ref (sY 7 0)]) rfl ?_
        refine va_get (D := (dC, dI)) (ci := 7) (v := .ref (sY 7 1)) (C := RX7) (T := TX7) (N := 9) hx hb hts (fun w h => List.mem_cons_of_mem _ (List.mem_append_right _ (List.mem_append_right _ (List.mem_append_right _ (List.mem_append_right _ (List.mem_append_left _ h)))))) hown hK hP 92 rfl rfl 0 (by decide) (hts (.fieldLink RX11 194 "SagMemory$State" "memories" "[LSagMemory$Memory;") (wl_mem 9 rfl)) (fun _ h9 => h9) rfl dX11_last_20 ?_
        refine lv_iload_n hx hb dX11_last_23 rfl (lv_at hl 1 rfl) ?_
        rcases (show p1 = 0 ∨ p1 = 1 ∨ p1 = 2 by simp only [zi_eq]; show p1.toInt = 0 ∨ p1.toInt = 1 ∨ p1.toInt = 2; omega) with cz196 | cz196 | cz196
        · skip
          have zz197 : p1.toInt = (0 : Int) := zi_eq.mp cz196
          refine W.eq (g2 := F0 m 24 ls [.int 0, .ref (sY 7 1)]) (by rw [cz196]) ?_
          refine va_aldq hx hb hK hP 93 4 rfl rfl (by unfold vp_in; decide) dX11_last_24 ?_
          refine W.eq (g2 := F0 m 25 ls [.ref (sY 7 2)]) rfl ?_
          refine lv_astore_n (lv' := [(3, .ref (sY 7 2)), (0, .ref (qX 0)), (1, .int p1), (2, .int p2)]) hx hb dX11_last_25 rfl hl (by decide) rfl (fun ls hl => ?_)
          refine lv_aload_n hx hb dX11_last_26 rfl (lv_at hl 0 rfl) ?_
          refine lv_aload_n hx hb dX11_last_27 rfl (lv_at hl 0 rfl) ?_
          refine va_get (D := (dC, dI)) (ci := 2) (v := .int ((nY 7) 0)) (C := RX2) (T := TX2) (N := 3) hx hb hts (fun w h => List.mem_cons_of_mem _ (List.mem_append_right _ (List.mem_append_right _ (List.mem_append_right _ (List.mem_append_right _ (List.mem_append_right _ (List.mem_append_left _ h))))))) hown hK hP 94 rfl rfl 2 (by decide) (hts (.fieldLink RX11 198 "SagMemory$Memory" "size" "I") (wl_mem 10 rfl)) (fun _ h9 => h9) rfl dX11_last_28 ?_
          have bz198 := (hnY 7) 0
          refine lv_iconst (v := 1) hx hb dX11_last_31 (by decide) ?_
          refine lv_isub hx hb dX11_last_32 ?_
          refine lv_topi (fun xz199 exz199 => ?_)
          have fxz199 : xz199.toInt = ((nY 7) 0).toInt - (1 : Int) := by rw [exz199]; exact fb_subI (x := ((nY 7) 0)) (y := (1 : Int32)) (by show -2147483648 ≤ ((nY 7) 0).toInt - (1 : Int); omega) (by show ((nY 7) 0).toInt - (1 : Int) < 2147483648; omega)
          have hPc := hP.sub (ws' := (List.flatten [(wMem (fun i => sY 7 (i + 2)) k (nY 7) (aY 7))])) [94, 95, 96] rfl
          refine vp_callSi (va_Run.run (va_runV (As := [.int xz199]) (rest := []) ⟨hx, hb, hml, hown, hts⟩ (c_X2_heaviest l dC dI k (fun i => sY 7 (i + 2)) (nY 7) (aY 7) xz199 (hnY 7)) (cwV 1 hts (gk_V (wl_mem 11 rfl) (wl_mem 12 rfl) (wl_mem 13 rfl) (wl_mem 14 rfl) (fun w h => List.mem_cons_of_mem _ (List.mem_append_right _ (List.mem_append_right _ (List.mem_append_right _ (List.mem_append_right _ (List.mem_append_right _ (List.mem_append_right _ (List.mem_append_left _ h)))))))) wkg_c_X2_heaviest) rfl rfl rfl (by decide +kernel) ⟨Nat.le_of_ble_eq_true rfl, Nat.le_of_ble_eq_true rfl⟩) ⟨fun a U g mk q => by obtain ⟨q0, qP, qK⟩ := q; exact ⟨q0, qP, va_K.moved (u := U) (U := U.calling g mk a) (Vm.Alike.refl U.vm) qK⟩, va_recv hK hPc (ci := 2) (q0 := 0) rfl rfl, fun U hU hW => ⟨rfl, by rw [hU]; exact hPc, va_K.moved hW.alike hK⟩⟩ rfl rfl hl.1 rfl (lv_room (Nat.le_of_ble_eq_true rfl)) dX11_last_33 ⟨Nat.le_of_ble_eq_true rfl, Nat.le_of_ble_eq_true rfl⟩)) (fun rz201 gz200 => ?_)
          clear hPc
          rw [hQ]
          exact W.iret (v := rz201) hx hb hr (fun t ht hW => ⟨rz201, rfl, trivial, ht⟩) (fun _ h => absurd h List.not_mem_nil) dX11_last_36
        · skip
          have zz202 : p1.toInt = (1 : Int) := zi_eq.mp cz196
          refine W.eq (g2 := F0 m 24 ls [.int 1, .ref (sY 7 1)]) (by rw [cz196]) ?_
          refine va_aldq hx hb hK hP 93 4 rfl rfl (by unfold vp_in; decide) dX11_last_24 ?_
          refine W.eq (g2 := F0 m 25 ls [.ref (sY 7 5)]) rfl ?_
          refine lv_astore_n (lv' := [(3, .ref (sY 7 5)), (0, .ref (qX 0)), (1, .int p1), (2, .int p2)]) hx hb dX11_last_25 rfl hl (by decide) rfl (fun ls hl => ?_)
          refine lv_aload_n hx hb dX11_last_26 rfl (lv_at hl 0 rfl) ?_
          refine lv_aload_n hx hb dX11_last_27 rfl (lv_at hl 0 rfl) ?_
          refine va_get (D := (dC, dI)) (ci := 2) (v := .int ((nY 7) 1)) (C := RX2) (T := TX2) (N := 3) hx hb hts (fun w h => List.mem_cons_of_mem _ (List.mem_append_right _ (List.mem_append_right _ (List.mem_append_right _ (List.mem_append_right _ (List.mem_append_right _ (List.mem_append_left _ h))))))) hown hK hP 97 rfl rfl 2 (by decide) (hts (.fieldLink RX11 198 "SagMemory$Memory" "size" "I") (wl_mem 10 rfl)) (fun _ h9 => h9) rfl dX11_last_28 ?_
          have bz203 := (hnY 7) 1
          refine lv_iconst (v := 1) hx hb dX11_last_31 (by decide) ?_
          refine lv_isub hx hb dX11_last_32 ?_
          refine lv_topi (fun xz204 exz204 => ?_)
          have fxz204 : xz204.toInt = ((nY 7) 1).toInt - (1 : Int) := by rw [exz204]; exact fb_subI (x := ((nY 7) 1)) (y := (1 : Int32)) (by show -2147483648 ≤ ((nY 7) 1).toInt - (1 : Int); omega) (by show ((nY 7) 1).toInt - (1 : Int) < 2147483648; omega)
          have hPc := hP.sub (ws' := (List.flatten [(wMem (fun i => sY 7 (i + 5)) k (fun i => (nY 7) (i + 1)) (fun i => (aY 7) (i + 2)))])) [97, 98, 99] rfl
          refine vp_callSi (va_Run.run (va_runV (As := [.int xz204]) (rest := []) ⟨hx, hb, hml, hown, hts⟩ (c_X2_heaviest l dC dI k (fun i => sY 7 (i + 5)) (fun i => (nY 7) (i + 1)) (fun i => (aY 7) (i + 2)) xz204 (fun i => (hnY 7) (i + 1))) (cwV 1 hts (gk_V (wl_mem 11 rfl) (wl_mem 12 rfl) (wl_mem 13 rfl) (wl_mem 14 rfl) (fun w h => List.mem_cons_of_mem _ (List.mem_append_right _ (List.mem_append_right _ (List.mem_append_right _ (List.mem_append_right _ (List.mem_append_right _ (List.mem_append_right _ (List.mem_append_left _ h)))))))) wkg_c_X2_heaviest) rfl rfl rfl (by decide +kernel) ⟨Nat.le_of_ble_eq_true rfl, Nat.le_of_ble_eq_true rfl⟩) ⟨fun a U g mk q => by obtain ⟨q0, qP, qK⟩ := q; exact ⟨q0, qP, va_K.moved (u := U) (U := U.calling g mk a) (Vm.Alike.refl U.vm) qK⟩, va_recv hK hPc (ci := 2) (q0 := 0) rfl rfl, fun U hU hW => ⟨rfl, by rw [hU]; exact hPc, va_K.moved hW.alike hK⟩⟩ rfl rfl hl.1 rfl (lv_room (Nat.le_of_ble_eq_true rfl)) dX11_last_33 ⟨Nat.le_of_ble_eq_true rfl, Nat.le_of_ble_eq_true rfl⟩)) (fun rz206 gz205 => ?_)
          clear hPc
          rw [hQ]
          exact W.iret (v := rz206) hx hb hr (fun t ht hW => ⟨rz206, rfl, trivial, ht⟩) (fun _ h => absurd h List.not_mem_nil) dX11_last_36
        · skip
          have zz207 : p1.toInt = (2 : Int) := zi_eq.mp cz196
          refine W.eq (g2 := F0 m 24 ls [.int 2, .ref (sY 7 1)]) (by rw [cz196]) ?_
          refine va_aldq hx hb hK hP 93 4 rfl rfl (by unfold vp_in; decide) dX11_last_24 ?_
          refine W.eq (g2 := F0 m 25 ls [.ref (sY 7 8)]) rfl ?_
          refine lv_astore_n (lv' := [(3, .ref (sY 7 8)), (0, .ref (qX 0)), (1, .int p1), (2, .int p2)]) hx hb dX11_last_25 rfl hl (by decide) rfl (fun ls hl => ?_)
          refine lv_aload_n hx hb dX11_last_26 rfl (lv_at hl 0 rfl) ?_
          refine lv_aload_n hx hb dX11_last_27 rfl (lv_at hl 0 rfl) ?_
          refine va_get (D := (dC, dI)) (ci := 2) (v := .int ((nY 7) 2)) (C := RX2) (T := TX2) (N := 3) hx hb hts (fun w h => List.mem_cons_of_mem _ (List.mem_append_right _ (List.mem_append_right _ (List.mem_append_right _ (List.mem_append_right _ (List.mem_append_right _ (List.mem_append_left _ h))))))) hown hK hP 100 rfl rfl 2 (by decide) (hts (.fieldLink RX11 198 "SagMemory$Memory" "size" "I") (wl_mem 10 rfl)) (fun _ h9 => h9) rfl dX11_last_28 ?_
          have bz208 := (hnY 7) 2
          refine lv_iconst (v := 1) hx hb dX11_last_31 (by decide) ?_
          refine lv_isub hx hb dX11_last_32 ?_
          refine lv_topi (fun xz209 exz209 => ?_)
          have fxz209 : xz209.toInt = ((nY 7) 2).toInt - (1 : Int) := by rw [exz209]; exact fb_subI (x := ((nY 7) 2)) (y := (1 : Int32)) (by show -2147483648 ≤ ((nY 7) 2).toInt - (1 : Int); omega) (by show ((nY 7) 2).toInt - (1 : Int) < 2147483648; omega)
          have hPc := hP.sub (ws' := (List.flatten [(wMem (fun i => sY 7 (i + 8)) k (fun i => (nY 7) (i + 2)) (fun i => (aY 7) (i + 4)))])) [100, 101, 102] rfl
          refine vp_callSi (va_Run.run (va_runV (As := [.int xz209]) (rest := []) ⟨hx, hb, hml, hown, hts⟩ (c_X2_heaviest l dC dI k (fun i => sY 7 (i + 8)) (fun i => (nY 7) (i + 2)) (fun i => (aY 7) (i + 4)) xz209 (fun i => (hnY 7) (i + 2))) (cwV 1 hts (gk_V (wl_mem 11 rfl) (wl_mem 12 rfl) (wl_mem 13 rfl) (wl_mem 14 rfl) (fun w h => List.mem_cons_of_mem _ (List.mem_append_right _ (List.mem_append_right _ (List.mem_append_right _ (List.mem_append_right _ (List.mem_append_right _ (List.mem_append_right _ (List.mem_append_left _ h)))))))) wkg_c_X2_heaviest) rfl rfl rfl (by decide +kernel) ⟨Nat.le_of_ble_eq_true rfl, Nat.le_of_ble_eq_true rfl⟩) ⟨fun a U g mk q => by obtain ⟨q0, qP, qK⟩ := q; exact ⟨q0, qP, va_K.moved (u := U) (U := U.calling g mk a) (Vm.Alike.refl U.vm) qK⟩, va_recv hK hPc (ci := 2) (q0 := 0) rfl rfl, fun U hU hW => ⟨rfl, by rw [hU]; exact hPc, va_K.moved hW.alike hK⟩⟩ rfl rfl hl.1 rfl (lv_room (Nat.le_of_ble_eq_true rfl)) dX11_last_33 ⟨Nat.le_of_ble_eq_true rfl, Nat.le_of_ble_eq_true rfl⟩)) (fun rz211 gz210 => ?_)
          clear hPc
          rw [hQ]
          exact W.iret (v := rz211) hx hb hr (fun t ht hW => ⟨rz211, rfl, trivial, ht⟩) (fun _ h => absurd h List.not_mem_nil) dX11_last_36
    · skip
      exact absurd cz49 (by decide)
def wk_c_X11_broken : List Cond := .code yX11_broken cX11_broken 2 (some .int) :: ([.fieldLink RX11 19 "SagMemory" "told" "LSagMemory$Valley;", .methodLink RX11 141 yX10_hasCart, .instanceMethod yX10_hasCart, .selects RX10 yX10_hasCart yX10_hasCart, .initialized RX10, .fieldLink RX11 45 "SagMemory" "story" "LSagMemory$Story;", .methodLink RX11 165 yX8_behind, .instanceMethod yX8_behind, .selects RX8 yX8_behind yX8_behind, .initialized RX8, .fieldLink RX11 233 "SagMemory$State" "ruined" "I"] ++ (wsX110 ++ (wk_c_X10_hasCart ++ (wk_c_X8_behind ++ (wsX70 ++ [])))))
theorem wkg_c_X11_broken : wk_c_X11_broken.all goodWord = true := by decide +kernel
set_option maxHeartbeats 4000000 in
set_option maxRecDepth 100000 in
theorem c_X11_broken (l : Launch) (dC : Nat → ClassId) (dI : Nat → Nat → Nat) (k : Nat → ClassId) (qX : Nat → Nat) (tapeX : Nat) (actsX : Nat) (nowX : Nat) (trialX : Nat) (attemptX : Nat) (orderSearchX : Nat) (routeSearchX : Nat) (setSearchX : Nat) (probeX : Nat) (slot0X : Nat) (slot1X : Nat) (slot2X : Nat) (slot3X : Nat) (image0X : Nat) (image1X : Nat) (image2X : Nat) (aX : Nat → Nat → Int32) (qV : Nat → Nat) (vV : Nat → Int32) (bV : Nat → Int32) (cV : Nat → Int32) (wV : Nat → Int32) (aV : Nat → Nat → Int32) (eV : Nat → Nat → Int32) (qY : Nat → Nat) (sY : Nat → Nat → Nat) (planY : Nat) (vY : Nat → Nat → Int32) (nY : Nat → Nat → Int32) (aY : Nat → Nat → Nat → Int32) (p1 : Int32) (hbV : Rg 0 3 bV) (hcV : Rg 0 7 cV) (hwV : Rg 0 5 wV) (heV : RgA 0 99 eV) (hnY : ∀ t9, Rg 0 8 (nY t9)) : Met l yX11_broken wk_c_X11_broken ({ frames := 1, cells := 0, slots := 0, locals := 21 }) (va_Pc [.ref (qX 0), .int p1] (fun U => va_P (dC, dI) vwCl (List.flatten [(wSag qX k tapeX (qV 0) actsX nowX trialX (qY 0) attemptX orderSearchX routeSearchX setSearchX probeX slot0X slot1X slot2X slot3X image0X image1X image2X aX), (wValley qV k vV bV cV wV aV eV), (wStoO qY k (qV 0) planY (sY 0 0) (sY 1 0) (sY 2 0) (sY 3 0) (sY 4 0) (sY 5 0) (sY 6 0) (sY 7 0)), (wState (sY 0) k (vY 0) (nY 0) (aY 0)), (wState (sY 1) k (vY 1) (nY 1) (aY 1)), (wState (sY 2) k (vY 2) (nY 2) (aY 2)), (wState (sY 3) k (vY 3) (nY 3) (aY 3)), (wState (sY 4) k (vY 4) (nY 4) (aY 4)), (wState (sY 5) k (vY 5) (nY 5) (aY 5)), (wState (sY 6) k (vY 6) (nY 6) (aY 6)), (wState (sY 7) k (vY 7) (nY 7) (aY 7))]) U.heap ∧ va_K (dC, dI) vwCl (tK k) U)) (vp_Si (fun r : Int32 => True)) 0 0 (fun _ => False) := by
  refine Met.ofW (cc := cX11_broken) (maxL := 2) (ret := (some .int)) (by decide) rfl ?_
  intro p e s m args below meth c s₁ B hml hv
  obtain ⟨rfl, hP, hK⟩ := hv
  have hx := B.exec
  have hb := B.bytes
  have hr := B.returns
  have hts := atoms_spec (ws := wk_c_X11_broken) B.pre
  have hown : s.vm.findClass RX11 = some m.cls := findClass_of_methodNamed B.named
  have hlocks := B.notSynchronized
  have hP : va_P (dC, dI) vwCl (List.flatten [(wSag qX k tapeX (qV 0) actsX nowX trialX (qY 0) attemptX orderSearchX routeSearchX setSearchX probeX slot0X slot1X slot2X slot3X image0X image1X image2X aX), (wValley qV k vV bV cV wV aV eV), (wStoO qY k (qV 0) planY (sY 0 0) (sY 1 0) (sY 2 0) (sY 3 0) (sY 4 0) (sY 5 0) (sY 6 0) (sY 7 0)), (wState (sY 0) k (vY 0) (nY 0) (aY 0)), (wState (sY 1) k (vY 1) (nY 1) (aY 1)), (wState (sY 2) k (vY 2) (nY 2) (aY 2)), (wState (sY 3) k (vY 3) (nY 3) (aY 3)), (wState (sY 4) k (vY 4) (nY 4) (aY 4)), (wState (sY 5) k (vY 5) (nY 5) (aY 5)), (wState (sY 6) k (vY 6) (nY 6) (aY 6)), (wState (sY 7) k (vY 7) (nY 7) (aY 7))]) s.heap := hP
  have hl := lv_entry ([.ref (qX 0), .int p1]) (n := 2) (Nat.le_of_ble_eq_true rfl)
  rw [lg_entry_eq]
  generalize (lg_sl ([.ref (qX 0), .int p1]) ++ List.replicate (2 - (lg_sl ([.ref (qX 0), .int p1])).length) Slot.unset).toArray = ls at hl ⊢
  have hl : lv_has ls 2 [(0, .ref (qX 0)), (1, .int p1)] := hl
  refine w_gen (fun Q hQ => ?_)
  refine lv_aload_n hx hb dX11_broken_0 rfl (lv_at hl 0 rfl) ?_
  refine va_get (D := (dC, dI)) (ci := 11) (v := .ref (qV 0)) (C := RX11) (T := TX11) (N := 15) hx hb hts (fun w h => List.mem_cons_of_mem _ (List.mem_append_right _ (List.mem_append_left _ h))) hown hK hP 0 rfl rfl 1 (by decide) (hts (.fieldLink RX11 19 "SagMemory" "told" "LSagMemory$Valley;") (wl_mem 0 rfl)) (fun _ h9 => h9) rfl dX11_broken_1 ?_
  refine lv_iload_n hx hb dX11_broken_4 rfl (lv_at hl 1 rfl) ?_
  have hPc := hP.sub (ws' := (List.flatten [(wValley qV k vV bV cV wV aV eV)])) [5, 6, 7, 8, 9, 10, 11, 12] rfl
  refine vp_callSi (va_Run.run (va_runV (As := [.int p1]) (rest := []) ⟨hx, hb, hml, hown, hts⟩ (c_X10_hasCart l dC dI k qV vV bV cV wV aV eV p1 hbV hcV hwV heV) (cwV 1 hts (gk_V (wl_mem 1 rfl) (wl_mem 2 rfl) (wl_mem 3 rfl) (wl_mem 4 rfl) (fun w h => List.mem_cons_of_mem _ (List.mem_append_right _ (List.mem_append_right _ (List.mem_append_left _ h)))) wkg_c_X10_hasCart) rfl rfl rfl (by decide +kernel) ⟨Nat.le_of_ble_eq_true rfl, Nat.le_of_ble_eq_true rfl⟩) ⟨fun a U g mk q => by obtain ⟨q0, qP, qK⟩ := q; exact ⟨q0, qP, va_K.moved (u := U) (U := U.calling g mk a) (Vm.Alike.refl U.vm) qK⟩, va_recv hK hPc (ci := 10) (q0 := 0) rfl rfl, fun U hU hW => ⟨rfl, by rw [hU]; exact hPc, va_K.moved hW.alike hK⟩⟩ rfl rfl hl.1 rfl (lv_room (Nat.le_of_ble_eq_true rfl)) dX11_broken_5 ⟨Nat.le_of_ble_eq_true rfl, Nat.le_of_ble_eq_true rfl⟩)) (fun rz2 gz1 => ?_)
  clear hPc
  rcases gz1 with ⟨er, cz3⟩ | ⟨er, cz4, cz5⟩ | ⟨er, cz6, cz7⟩
  · obtain rfl := er.symm
    have bz8 := fb_rng p1
    have zz9 : p1.toInt < (0 : Int) := zi_lt.mp cz3
    refine lv_if_eq (tgt := 25) hx hb dX11_broken_8 (by decide) (fun cz10 => ?_) (fun cz10 => ?_)
    · skip
      refine lv_bipush (v := (-2)) hx hb dX11_broken_25 (by decide) ?_
      rw [hQ]
      exact W.iret (v := (-2 : Int32)) hx hb hr (fun t ht hW => ⟨(-2 : Int32), rfl, trivial, ht⟩) (fun _ h => absurd h List.not_mem_nil) dX11_broken_27
    · skip
      exact absurd cz10 (by decide)
  · obtain rfl := er.symm
    have bz11 := fb_rng p1
    have zz12 : ¬ p1.toInt < (0 : Int) := fun h9 => cz4 (zi_lt.mpr h9)
    have bz13 := hcV 0
    have zz14 : (cV 0).toInt ≤ p1.toInt := zi_le.mp cz5
    refine lv_if_eq (tgt := 25) hx hb dX11_broken_8 (by decide) (fun cz15 => ?_) (fun cz15 => ?_)
    · skip
      refine lv_bipush (v := (-2)) hx hb dX11_broken_25 (by decide) ?_
      rw [hQ]
      exact W.iret (v := (-2 : Int32)) hx hb hr (fun t ht hW => ⟨(-2 : Int32), rfl, trivial, ht⟩) (fun _ h => absurd h List.not_mem_nil) dX11_broken_27
    · skip
      exact absurd cz15 (by decide)
  · obtain rfl := er.symm
    have bz16 := fb_rng p1
    have zz17 : ¬ p1.toInt < (0 : Int) := fun h9 => cz6 (zi_lt.mpr h9)
    have bz18 := hcV 0
    have zz19 : ¬ (cV 0).toInt ≤ p1.toInt := fun h9 => cz7 (zi_le.mpr h9)
    refine lv_if_eq (tgt := 25) hx hb dX11_broken_8 (by decide) (fun cz20 => ?_) (fun cz20 => ?_)
    · skip
      exact absurd cz20 (by decide)
    · skip
      refine lv_aload_n hx hb dX11_broken_11 rfl (lv_at hl 0 rfl) ?_
      refine va_get (D := (dC, dI)) (ci := 11) (v := .ref (qY 0)) (C := RX11) (T := TX11) (N := 15) hx hb hts (fun w h => List.mem_cons_of_mem _ (List.mem_append_right _ (List.mem_append_left _ h))) hown hK hP 0 rfl rfl 5 (by decide) (hts (.fieldLink RX11 45 "SagMemory" "story" "LSagMemory$Story;") (wl_mem 5 rfl)) (fun _ h9 => h9) rfl dX11_broken_12 ?_
      refine lv_iload_n hx hb dX11_broken_15 rfl (lv_at hl 1 rfl) ?_
      have hPc : va_P (dC, dI) vwCl (List.flatten [(wStoO qY k (qV 0) planY (sY 0 0) (sY 1 0) (sY 2 0) (sY 3 0) (sY 4 0) (sY 5 0) (sY 6 0) (sY 7 0)), (wState (sY 0) k (vY 0) (nY 0) (aY 0)), (wState (sY 1) k (vY 1) (nY 1) (aY 1)), (wState (sY 2) k (vY 2) (nY 2) (aY 2)), (wState (sY 3) k (vY 3) (nY 3) (aY 3)), (wState (sY 4) k (vY 4) (nY 4) (aY 4)), (wState (sY 5) k (vY 5) (nY 5) (aY 5)), (wState (sY 6) k (vY 6) (nY 6) (aY 6)), (wState (sY 7) k (vY 7) (nY 7) (aY 7))]) s.heap := wc_subP0 hP [2, 3, 4, 5, 6, 7, 8, 9, 10] rfl
      refine va_csr (va_Run.run (va_runV (As := [.int p1]) (rest := []) ⟨hx, hb, hml, hown, hts⟩ (c_X8_behind l dC dI k qY sY (qV 0) planY vY nY aY p1 hnY) (cwV 1 hts (gk_V (wl_mem 6 rfl) (wl_mem 7 rfl) (wl_mem 8 rfl) (wl_mem 9 rfl) (fun w h => List.mem_cons_of_mem _ (List.mem_append_right _ (List.mem_append_right _ (List.mem_append_right _ (List.mem_append_left _ h))))) wkg_c_X8_behind) rfl rfl rfl (by decide +kernel) ⟨Nat.le_of_ble_eq_true rfl, Nat.le_of_ble_eq_true rfl⟩) ⟨fun a U g mk q => by obtain ⟨q0, qP, qK⟩ := q; exact ⟨q0, qP, va_K.moved (u := U) (U := U.calling g mk a) (Vm.Alike.refl U.vm) qK⟩, va_recv hK hPc (ci := 8) (q0 := 0) rfl rfl, fun U hU hW => ⟨rfl, by rw [hU]; exact hPc, va_K.moved hW.alike hK⟩⟩ rfl rfl hl.1 rfl (lv_room (Nat.le_of_ble_eq_true rfl)) dX11_broken_16 ⟨Nat.le_of_ble_eq_true rfl, Nat.le_of_ble_eq_true rfl⟩)) (fun rz22 gz21 => ?_)
      clear hPc
      rcases gz21 with ⟨rfl, cz23⟩ | ⟨rfl, cz24, cz25⟩ | ⟨rfl, cz26, cz27, cz28⟩ | ⟨rfl, cz29, cz30, cz31⟩ | ⟨rfl, cz32, cz33, cz34⟩ | ⟨rfl, cz35, cz36, cz37⟩ | ⟨rfl, cz38, cz39, cz40⟩ | ⟨rfl, cz41, cz42, cz43⟩ | ⟨rfl, cz44, cz45, cz46⟩
      · skip
        have zz47 : p1.toInt < (0 : Int) := zi_lt.mp cz23
        omega
      · skip
        have zz48 : ¬ p1.toInt < (0 : Int) := fun h9 => cz24 (zi_lt.mpr h9)
        have zz49 : (7 : Int) ≤ p1.toInt := zi_le.mp cz25
        omega
      · skip
        have zz50 : ¬ p1.toInt < (0 : Int) := fun h9 => cz26 (zi_lt.mpr h9)
        have zz51 : ¬ (7 : Int) ≤ p1.toInt := fun h9 => cz27 (zi_le.mpr h9)
        have zz52 : p1.toInt = (0 : Int) := zi_eq.mp cz28
        refine W.eq (g2 := F0 m 19 ls [.ref (sY 1 0)]) rfl ?_
        refine va_get (D := (dC, dI)) (ci := 7) (v := .int ((vY 1) 0)) (C := RX7) (T := TX7) (N := 9) hx hb hts (fun w h => List.mem_cons_of_mem _ (List.mem_append_right _ (List.mem_append_right _ (List.mem_append_right _ (List.mem_append_right _ (List.mem_append_left _ h)))))) hown hK hP 26 rfl rfl 1 (by decide) (hts (.fieldLink RX11 233 "SagMemory$State" "ruined" "I") (wl_mem 10 rfl)) (fun _ h9 => h9) rfl dX11_broken_19 ?_
        refine lv_goto (tgt := 27) hx hb dX11_broken_22 (by decide) ?_
        rw [hQ]
        exact W.iret (v := ((vY 1) 0)) hx hb hr (fun t ht hW => ⟨((vY 1) 0), rfl, trivial, ht⟩) (fun _ h => absurd h List.not_mem_nil) dX11_broken_27
      · skip
        have zz53 : ¬ p1.toInt < (0 : Int) := fun h9 => cz29 (zi_lt.mpr h9)
        have zz54 : ¬ (7 : Int) ≤ p1.toInt := fun h9 => cz30 (zi_le.mpr h9)
        have zz55 : p1.toInt = (1 : Int) := zi_eq.mp cz31
        refine W.eq (g2 := F0 m 19 ls [.ref (sY 2 0)]) rfl ?_
        refine va_get (D := (dC, dI)) (ci := 7) (v := .int ((vY 2) 0)) (C := RX7) (T := TX7) (N := 9) hx hb hts (fun w h => List.mem_cons_of_mem _ (List.mem_append_right _ (List.mem_append_right _ (List.mem_append_right _ (List.mem_append_right _ (List.mem_append_left _ h)))))) hown hK hP 37 rfl rfl 1 (by decide) (hts (.fieldLink RX11 233 "SagMemory$State" "ruined" "I") (wl_mem 10 rfl)) (fun _ h9 => h9) rfl dX11_broken_19 ?_
        refine lv_goto (tgt := 27) hx hb dX11_broken_22 (by decide) ?_
        rw [hQ]
        exact W.iret (v := ((vY 2) 0)) hx hb hr (fun t ht hW => ⟨((vY 2) 0), rfl, trivial, ht⟩) (fun _ h => absurd h List.not_mem_nil) dX11_broken_27
      · skip
        have zz56 : ¬ p1.toInt < (0 : Int) := fun h9 => cz32 (zi_lt.mpr h9)
        have zz57 : ¬ (7 : Int) ≤ p1.toInt := fun h9 => cz33 (zi_le.mpr h9)
        have zz58 : p1.toInt = (2 : Int) := zi_eq.mp cz34
        refine W.eq (g2 := F0 m 19 ls [.ref (sY 3 0)]) rfl ?_
        refine va_get (D := (dC, dI)) (ci := 7) (v := .int ((vY 3) 0)) (C := RX7) (T := TX7) (N := 9) hx hb hts (fun w h => List.mem_cons_of_mem _ (List.mem_append_right _ (List.mem_append_right _ (List.mem_append_right _ (List.mem_append_right _ (List.mem_append_left _ h)))))) hown hK hP 48 rfl rfl 1 (by decide) (hts (.fieldLink RX11 233 "SagMemory$State" "ruined" "I") (wl_mem 10 rfl)) (fun _ h9 => h9) rfl dX11_broken_19 ?_
        refine lv_goto (tgt := 27) hx hb dX11_broken_22 (by decide) ?_
        rw [hQ]
        exact W.iret (v := ((vY 3) 0)) hx hb hr (fun t ht hW => ⟨((vY 3) 0), rfl, trivial, ht⟩) (fun _ h => absurd h List.not_mem_nil) dX11_broken_27
      · skip
        have zz59 : ¬ p1.toInt < (0 : Int) := fun h9 => cz35 (zi_lt.mpr h9)
        have zz60 : ¬ (7 : Int) ≤ p1.toInt := fun h9 => cz36 (zi_le.mpr h9)
        have zz61 : p1.toInt = (3 : Int) := zi_eq.mp cz37
        refine W.eq (g2 := F0 m 19 ls [.ref (sY 4 0)]) rfl ?_
        refine va_get (D := (dC, dI)) (ci := 7) (v := .int ((vY 4) 0)) (C := RX7) (T := TX7) (N := 9) hx hb hts (fun w h => List.mem_cons_of_mem _ (List.mem_append_right _ (List.mem_append_right _ (List.mem_append_right _ (List.mem_append_right _ (List.mem_append_left _ h)))))) hown hK hP 59 rfl rfl 1 (by decide) (hts (.fieldLink RX11 233 "SagMemory$State" "ruined" "I") (wl_mem 10 rfl)) (fun _ h9 => h9) rfl dX11_broken_19 ?_
        refine lv_goto (tgt := 27) hx hb dX11_broken_22 (by decide) ?_
        rw [hQ]
        exact W.iret (v := ((vY 4) 0)) hx hb hr (fun t ht hW => ⟨((vY 4) 0), rfl, trivial, ht⟩) (fun _ h => absurd h List.not_mem_nil) dX11_broken_27
      · skip
        have zz62 : ¬ p1.toInt < (0 : Int) := fun h9 => cz38 (zi_lt.mpr h9)
        have zz63 : ¬ (7 : Int) ≤ p1.toInt := fun h9 => cz39 (zi_le.mpr h9)
        have zz64 : p1.toInt = (4 : Int) := zi_eq.mp cz40
        refine W.eq (g2 := F0 m 19 ls [.ref (sY 5 0)]) rfl ?_
        refine va_get (D := (dC, dI)) (ci := 7) (v := .int ((vY 5) 0)) (C := RX7) (T := TX7) (N := 9) hx hb hts (fun w h => List.mem_cons_of_mem _ (List.mem_append_right _ (List.mem_append_right _ (List.mem_append_right _ (List.mem_append_right _ (List.mem_append_left _ h)))))) hown hK hP 70 rfl rfl 1 (by decide) (hts (.fieldLink RX11 233 "SagMemory$State" "ruined" "I") (wl_mem 10 rfl)) (fun _ h9 => h9) rfl dX11_broken_19 ?_
        refine lv_goto (tgt := 27) hx hb dX11_broken_22 (by decide) ?_
        rw [hQ]
        exact W.iret (v := ((vY 5) 0)) hx hb hr (fun t ht hW => ⟨((vY 5) 0), rfl, trivial, ht⟩) (fun _ h => absurd h List.not_mem_nil) dX11_broken_27
      · skip
        have zz65 : ¬ p1.toInt < (0 : Int) := fun h9 => cz41 (zi_lt.mpr h9)
        have zz66 : ¬ (7 : Int) ≤ p1.toInt := fun h9 => cz42 (zi_le.mpr h9)
        have zz67 : p1.toInt = (5 : Int) := zi_eq.mp cz43
        refine W.eq (g2 := F0 m 19 ls [.ref (sY 6 0)]) rfl ?_
        refine va_get (D := (dC, dI)) (ci := 7) (v := .int ((vY 6) 0)) (C := RX7) (T := TX7) (N := 9) hx hb hts (fun w h => List.mem_cons_of_mem _ (List.mem_append_right _ (List.mem_append_right _ (List.mem_append_right _ (List.mem_append_right _ (List.mem_append_left _ h)))))) hown hK hP 81 rfl rfl 1 (by decide) (hts (.fieldLink RX11 233 "SagMemory$State" "ruined" "I") (wl_mem 10 rfl)) (fun _ h9 => h9) rfl dX11_broken_19 ?_
        refine lv_goto (tgt := 27) hx hb dX11_broken_22 (by decide) ?_
        rw [hQ]
        exact W.iret (v := ((vY 6) 0)) hx hb hr (fun t ht hW => ⟨((vY 6) 0), rfl, trivial, ht⟩) (fun _ h => absurd h List.not_mem_nil) dX11_broken_27
      · skip
        have zz68 : ¬ p1.toInt < (0 : Int) := fun h9 => cz44 (zi_lt.mpr h9)
        have zz69 : ¬ (7 : Int) ≤ p1.toInt := fun h9 => cz45 (zi_le.mpr h9)
        have zz70 : p1.toInt = (6 : Int) := zi_eq.mp cz46
        refine W.eq (g2 := F0 m 19 ls [.ref (sY 7 0)]) rfl ?_
        refine va_get (D := (dC, dI)) (ci := 7) (v := .int ((vY 7) 0)) (C := RX7) (T := TX7) (N := 9) hx hb hts (fun w h => List.mem_cons_of_mem _ (List.mem_append_right _ (List.mem_append_right _ (List.mem_append_right _ (List.mem_append_right _ (List.mem_append_left _ h)))))) hown hK hP 92 rfl rfl 1 (by decide) (hts (.fieldLink RX11 233 "SagMemory$State" "ruined" "I") (wl_mem 10 rfl)) (fun _ h9 => h9) rfl dX11_broken_19 ?_
        refine lv_goto (tgt := 27) hx hb dX11_broken_22 (by decide) ?_
        rw [hQ]
        exact W.iret (v := ((vY 7) 0)) hx hb hr (fun t ht hW => ⟨((vY 7) 0), rfl, trivial, ht⟩) (fun _ h => absurd h List.not_mem_nil) dX11_broken_27
def wk_c_X11_free : List Cond := .code yX11_free cX11_free 6 (some .int) :: ([.methodLink RX11 190 yX11_hasBoth, .instanceMethod yX11_hasBoth, .selects RX11 yX11_hasBoth yX11_hasBoth, .initialized RX11, .fieldLink RX11 45 "SagMemory" "story" "LSagMemory$Story;", .methodLink RX11 165 yX8_behind, .instanceMethod yX8_behind, .selects RX8 yX8_behind yX8_behind, .initialized RX8, .fieldLink RX11 194 "SagMemory$State" "memories" "[LSagMemory$Memory;", .methodLink RX11 205 yX2_depth, .instanceMethod yX2_depth, .selects RX2 yX2_depth yX2_depth, .initialized RX2, .methodLink RX11 236 yX11_depthWith, .instanceMethod yX11_depthWith, .selects RX11 yX11_depthWith yX11_depthWith] ++ (wk_c_X11_hasBoth ++ (wsX110 ++ (wk_c_X8_behind ++ (wsX70 ++ (wk_c_X2_depth ++ (wk_c_X11_depthWith ++ [])))))))
theorem wkg_c_X11_free : wk_c_X11_free.all goodWord = true := by decide +kernel
set_option maxHeartbeats 4000000 in
set_option maxRecDepth 100000 in
theorem c_X11_free (l : Launch) (dC : Nat → ClassId) (dI : Nat → Nat → Nat) (k : Nat → ClassId) (sz : Nat) (qX : Nat → Nat) (tapeX : Nat) (actsX : Nat) (nowX : Nat) (trialX : Nat) (attemptX : Nat) (orderSearchX : Nat) (routeSearchX : Nat) (setSearchX : Nat) (slot0X : Nat) (slot1X : Nat) (slot2X : Nat) (slot3X : Nat) (image0X : Nat) (image1X : Nat) (image2X : Nat) (aX : Nat → Nat → Int32) (qV : Nat → Nat) (vV : Nat → Int32) (bV : Nat → Int32) (cV : Nat → Int32) (wV : Nat → Int32) (aV : Nat → Nat → Int32) (eV : Nat → Nat → Int32) (qY : Nat → Nat) (sY : Nat → Nat → Nat) (planY : Nat) (vY : Nat → Nat → Int32) (nY : Nat → Nat → Int32) (aY : Nat → Nat → Nat → Int32) (qM : Nat → Nat) (nM : Nat → Int32) (aM : Nat → Nat → Int32) (p1 : Int32) (p2 : Int32) (hbV : Rg 0 3 bV) (hcV : Rg 0 7 cV) (hwV : Rg 0 5 wV) (heV : RgA 0 99 eV) (hnY : ∀ t9, Rg 0 8 (nY t9)) (hnM : Rg 0 8 nM) : Met l yX11_free wk_c_X11_free ({ frames := 2, cells := 0, slots := 0, locals := 49 }) (va_Pc [.ref (qX 0), .int p1, .int p2] (fun U => U.heap.size = sz ∧ va_P (dC, dI) vwCl (List.flatten [(wMem qM k nM aM)] ++ List.flatten [(wSag qX k tapeX (qV 0) actsX nowX trialX (qY 0) attemptX orderSearchX routeSearchX setSearchX (qM 0) slot0X slot1X slot2X slot3X image0X image1X image2X aX), (wValley qV k vV bV cV wV aV eV), (wStoO qY k (qV 0) planY (sY 0 0) (sY 1 0) (sY 2 0) (sY 3 0) (sY 4 0) (sY 5 0) (sY 6 0) (sY 7 0)), (wState (sY 0) k (vY 0) (nY 0) (aY 0)), (wState (sY 1) k (vY 1) (nY 1) (aY 1)), (wState (sY 2) k (vY 2) (nY 2) (aY 2)), (wState (sY 3) k (vY 3) (nY 3) (aY 3)), (wState (sY 4) k (vY 4) (nY 4) (aY 4)), (wState (sY 5) k (vY 5) (nY 5) (aY 5)), (wState (sY 6) k (vY 6) (nY 6) (aY 6)), (wState (sY 7) k (vY 7) (nY 7) (aY 7))]) U.heap ∧ va_K (dC, dI) vwCl (tK k) U ∧ va_D (fun _ => True) (List.flatten [(wMem qM k nM aM)] ++ List.flatten [(wSag qX k tapeX (qV 0) actsX nowX trialX (qY 0) attemptX orderSearchX routeSearchX setSearchX (qM 0) slot0X slot1X slot2X slot3X image0X image1X image2X aX), (wValley qV k vV bV cV wV aV eV), (wStoO qY k (qV 0) planY (sY 0 0) (sY 1 0) (sY 2 0) (sY 3 0) (sY 4 0) (sY 5 0) (sY 6 0) (sY 7 0)), (wState (sY 0) k (vY 0) (nY 0) (aY 0)), (wState (sY 1) k (vY 1) (nY 1) (aY 1)), (wState (sY 2) k (vY 2) (nY 2) (aY 2)), (wState (sY 3) k (vY 3) (nY 3) (aY 3)), (wState (sY 4) k (vY 4) (nY 4) (aY 4)), (wState (sY 5) k (vY 5) (nY 5) (aY 5)), (wState (sY 6) k (vY 6) (nY 6) (aY 6)), (wState (sY 7) k (vY 7) (nY 7) (aY 7))]))) (va_Qi (fun (r : Int32) (_ : Unit) => True) (fun (_ : Unit) (t : State) => ∃ (nM' : Nat → Int32) (aM' : Nat → Nat → Int32), Rg 0 8 nM' ∧ va_P (dC, dI) vwCl (List.flatten [(wMem qM k nM' aM')] ++ List.flatten [(wSag qX k tapeX (qV 0) actsX nowX trialX (qY 0) attemptX orderSearchX routeSearchX setSearchX (qM 0) slot0X slot1X slot2X slot3X image0X image1X image2X aX), (wValley qV k vV bV cV wV aV eV), (wStoO qY k (qV 0) planY (sY 0 0) (sY 1 0) (sY 2 0) (sY 3 0) (sY 4 0) (sY 5 0) (sY 6 0) (sY 7 0)), (wState (sY 0) k (vY 0) (nY 0) (aY 0)), (wState (sY 1) k (vY 1) (nY 1) (aY 1)), (wState (sY 2) k (vY 2) (nY 2) (aY 2)), (wState (sY 3) k (vY 3) (nY 3) (aY 3)), (wState (sY 4) k (vY 4) (nY 4) (aY 4)), (wState (sY 5) k (vY 5) (nY 5) (aY 5)), (wState (sY 6) k (vY 6) (nY 6) (aY 6)), (wState (sY 7) k (vY 7) (nY 7) (aY 7))]) t.heap) (va_A (List.flatten [(wMem qM k nM aM)] ++ List.flatten [(wSag qX k tapeX (qV 0) actsX nowX trialX (qY 0) attemptX orderSearchX routeSearchX setSearchX (qM 0) slot0X slot1X slot2X slot3X image0X image1X image2X aX), (wValley qV k vV bV cV wV aV eV), (wStoO qY k (qV 0) planY (sY 0 0) (sY 1 0) (sY 2 0) (sY 3 0) (sY 4 0) (sY 5 0) (sY 6 0) (sY 7 0)), (wState (sY 0) k (vY 0) (nY 0) (aY 0)), (wState (sY 1) k (vY 1) (nY 1) (aY 1)), (wState (sY 2) k (vY 2) (nY 2) (aY 2)), (wState (sY 3) k (vY 3) (nY 3) (aY 3)), (wState (sY 4) k (vY 4) (nY 4) (aY 4)), (wState (sY 5) k (vY 5) (nY 5) (aY 5)), (wState (sY 6) k (vY 6) (nY 6) (aY 6)), (wState (sY 7) k (vY 7) (nY 7) (aY 7))]) sz)) 0 0 (va_A (List.flatten [(wMem qM k nM aM)] ++ List.flatten [(wSag qX k tapeX (qV 0) actsX nowX trialX (qY 0) attemptX orderSearchX routeSearchX setSearchX (qM 0) slot0X slot1X slot2X slot3X image0X image1X image2X aX), (wValley qV k vV bV cV wV aV eV), (wStoO qY k (qV 0) planY (sY 0 0) (sY 1 0) (sY 2 0) (sY 3 0) (sY 4 0) (sY 5 0) (sY 6 0) (sY 7 0)), (wState (sY 0) k (vY 0) (nY 0) (aY 0)), (wState (sY 1) k (vY 1) (nY 1) (aY 1)), (wState (sY 2) k (vY 2) (nY 2) (aY 2)), (wState (sY 3) k (vY 3) (nY 3) (aY 3)), (wState (sY 4) k (vY 4) (nY 4) (aY 4)), (wState (sY 5) k (vY 5) (nY 5) (aY 5)), (wState (sY 6) k (vY 6) (nY 6) (aY 6)), (wState (sY 7) k (vY 7) (nY 7) (aY 7))]) sz) := by
  refine Met.ofW (cc := cX11_free) (maxL := 6) (ret := (some .int)) (by decide) rfl ?_
  intro p e s m args below meth c s₁ B hml hv
  obtain ⟨rfl, hsz, hP, hK, hD0⟩ := hv
  have hx := B.exec
  have hb := B.bytes
  have hr := B.returns
  have hts := atoms_spec (ws := wk_c_X11_free) B.pre
  have hown : s.vm.findClass RX11 = some m.cls := findClass_of_methodNamed B.named
  have hlocks := B.notSynchronized
  subst hsz
  have hD := hD0.self (sz := s.heap.size)
  generalize hAe : va_A (List.flatten [(wMem qM k nM aM)] ++ List.flatten [(wSag qX k tapeX (qV 0) actsX nowX trialX (qY 0) attemptX orderSearchX routeSearchX setSearchX (qM 0) slot0X slot1X slot2X slot3X image0X image1X image2X aX), (wValley qV k vV bV cV wV aV eV), (wStoO qY k (qV 0) planY (sY 0 0) (sY 1 0) (sY 2 0) (sY 3 0) (sY 4 0) (sY 5 0) (sY 6 0) (sY 7 0)), (wState (sY 0) k (vY 0) (nY 0) (aY 0)), (wState (sY 1) k (vY 1) (nY 1) (aY 1)), (wState (sY 2) k (vY 2) (nY 2) (aY 2)), (wState (sY 3) k (vY 3) (nY 3) (aY 3)), (wState (sY 4) k (vY 4) (nY 4) (aY 4)), (wState (sY 5) k (vY 5) (nY 5) (aY 5)), (wState (sY 6) k (vY 6) (nY 6) (aY 6)), (wState (sY 7) k (vY 7) (nY 7) (aY 7))]) s.heap.size = A at hD ⊢
  have hA : ∀ q : Nat, s.heap.size ≤ q → A q := fun q h => by rw [← hAe]; exact Or.inr h
  have hS : va_S A s.heap s.heap [] := va_S.rf
  have hP : va_P (dC, dI) vwCl (List.flatten [(wMem qM k nM aM)] ++ List.flatten [(wSag qX k tapeX (qV 0) actsX nowX trialX (qY 0) attemptX orderSearchX routeSearchX setSearchX (qM 0) slot0X slot1X slot2X slot3X image0X image1X image2X aX), (wValley qV k vV bV cV wV aV eV), (wStoO qY k (qV 0) planY (sY 0 0) (sY 1 0) (sY 2 0) (sY 3 0) (sY 4 0) (sY 5 0) (sY 6 0) (sY 7 0)), (wState (sY 0) k (vY 0) (nY 0) (aY 0)), (wState (sY 1) k (vY 1) (nY 1) (aY 1)), (wState (sY 2) k (vY 2) (nY 2) (aY 2)), (wState (sY 3) k (vY 3) (nY 3) (aY 3)), (wState (sY 4) k (vY 4) (nY 4) (aY 4)), (wState (sY 5) k (vY 5) (nY 5) (aY 5)), (wState (sY 6) k (vY 6) (nY 6) (aY 6)), (wState (sY 7) k (vY 7) (nY 7) (aY 7))]) s.heap := hP
  have hl := lv_entry ([.ref (qX 0), .int p1, .int p2]) (n := 6) (Nat.le_of_ble_eq_true rfl)
  rw [lg_entry_eq]
  generalize (lg_sl ([.ref (qX 0), .int p1, .int p2]) ++ List.replicate (6 - (lg_sl ([.ref (qX 0), .int p1, .int p2])).length) Slot.unset).toArray = ls at hl ⊢
  have hl : lv_has ls 6 [(0, .ref (qX 0)), (1, .int p1), (2, .int p2)] := hl
  refine w_gen (fun Q hQ => ?_)
  refine lv_aload_n hx hb dX11_free_0 rfl (lv_at hl 0 rfl) ?_
  refine lv_iload_n hx hb dX11_free_1 rfl (lv_at hl 1 rfl) ?_
  refine lv_iload_n hx hb dX11_free_2 rfl (lv_at hl 2 rfl) ?_
  have hPc := hP.sub (ws' := (List.flatten [(wSag qX k tapeX (qV 0) actsX nowX trialX (qY 0) attemptX orderSearchX routeSearchX setSearchX (qM 0) slot0X slot1X slot2X slot3X image0X image1X image2X aX), (wValley qV k vV bV cV wV aV eV)])) [3, 4, 5, 6, 7, 8, 9, 10, 11, 12, 13, 14, 15] rfl
  refine vp_callSi (va_Run.run (va_runV (As := [.int p1, .int p2]) (rest := []) ⟨hx, hb, hml, hown, hts⟩ (c_X11_hasBoth l dC dI k qX tapeX actsX nowX trialX (qY 0) attemptX orderSearchX routeSearchX setSearchX (qM 0) slot0X slot1X slot2X slot3X image0X image1X image2X aX qV vV bV cV wV aV eV p1 p2 hbV hcV hwV heV) (cwV 2 hts (gk_V (wl_mem 0 rfl) (wl_mem 1 rfl) (wl_mem 2 rfl) (wl_mem 3 rfl) (fun w h => List.mem_cons_of_mem _ (List.mem_append_right _ (List.mem_append_left _ h))) wkg_c_X11_hasBoth) rfl rfl rfl (by decide +kernel) ⟨Nat.le_of_ble_eq_true rfl, Nat.le_of_ble_eq_true rfl⟩) ⟨fun a U g mk q => by obtain ⟨q0, qP, qK⟩ := q; exact ⟨q0, qP, va_K.moved (u := U) (U := U.calling g mk a) (Vm.Alike.refl U.vm) qK⟩, va_recv hK hPc (ci := 11) (q0 := 0) rfl rfl, fun U hU hW => ⟨rfl, by rw [hU]; exact hPc, va_K.moved hW.alike hK⟩⟩ rfl rfl hl.1 rfl (lv_room (Nat.le_of_ble_eq_true rfl)) dX11_free_3 ⟨Nat.le_of_ble_eq_true rfl, Nat.le_of_ble_eq_true rfl⟩)) (fun rz2 gz1 => ?_)
  clear hPc
  rcases gz1 with ⟨er, cz3⟩ | ⟨er, cz4, cz5⟩ | ⟨er, cz6, cz7, cz8⟩ | ⟨er, cz9, cz10, cz11, cz12⟩ | ⟨er, cz13, cz14, cz15, cz16⟩
  · obtain rfl := er.symm
    have bz17 := fb_rng p1
    have zz18 : p1.toInt < (0 : Int) := zi_lt.mp cz3
    refine lv_if_ne (tgt := 12) hx hb dX11_free_6 (by decide) (fun cz19 => ?_) (fun cz19 => ?_)
    · skip
      exact absurd cz19 (by decide)
    · skip
      refine lv_bipush (v := (-2)) hx hb dX11_free_9 (by decide) ?_
      rw [hQ]
      exact W.iret (v := (-2 : Int32)) hx hb hr (fun t ht hW => ⟨⟨(-2 : Int32), (), rfl, trivial, nM, aM, hnM, by rw [ht]; exact hP⟩, hS.F ht⟩) hS.2.2 dX11_free_11
  · obtain rfl := er.symm
    have bz20 := fb_rng p1
    have zz21 : ¬ p1.toInt < (0 : Int) := fun h9 => cz4 (zi_lt.mpr h9)
    have bz22 := hbV 0
    have zz23 : (bV 0).toInt ≤ p1.toInt := zi_le.mp cz5
    refine lv_if_ne (tgt := 12) hx hb dX11_free_6 (by decide) (fun cz24 => ?_) (fun cz24 => ?_)
    · skip
      exact absurd cz24 (by decide)
    · skip
      refine lv_bipush (v := (-2)) hx hb dX11_free_9 (by decide) ?_
      rw [hQ]
      exact W.iret (v := (-2 : Int32)) hx hb hr (fun t ht hW => ⟨⟨(-2 : Int32), (), rfl, trivial, nM, aM, hnM, by rw [ht]; exact hP⟩, hS.F ht⟩) hS.2.2 dX11_free_11
  · obtain rfl := er.symm
    have bz25 := fb_rng p1
    have zz26 : ¬ p1.toInt < (0 : Int) := fun h9 => cz6 (zi_lt.mpr h9)
    have bz27 := hbV 0
    have zz28 : ¬ (bV 0).toInt ≤ p1.toInt := fun h9 => cz7 (zi_le.mpr h9)
    have bz29 := fb_rng p2
    have zz30 : p2.toInt < (0 : Int) := zi_lt.mp cz8
    refine lv_if_ne (tgt := 12) hx hb dX11_free_6 (by decide) (fun cz31 => ?_) (fun cz31 => ?_)
    · skip
      exact absurd cz31 (by decide)
    · skip
      refine lv_bipush (v := (-2)) hx hb dX11_free_9 (by decide) ?_
      rw [hQ]
      exact W.iret (v := (-2 : Int32)) hx hb hr (fun t ht hW => ⟨⟨(-2 : Int32), (), rfl, trivial, nM, aM, hnM, by rw [ht]; exact hP⟩, hS.F ht⟩) hS.2.2 dX11_free_11
  · obtain rfl := er.symm
    have bz32 := fb_rng p1
    have zz33 : ¬ p1.toInt < (0 : Int) := fun h9 => cz9 (zi_lt.mpr h9)
    have bz34 := hbV 0
    have zz35 : ¬ (bV 0).toInt ≤ p1.toInt := fun h9 => cz10 (zi_le.mpr h9)
    have bz36 := fb_rng p2
    have zz37 : ¬ p2.toInt < (0 : Int) := fun h9 => cz11 (zi_lt.mpr h9)
    have bz38 := hcV 0
    have zz39 : (cV 0).toInt ≤ p2.toInt := zi_le.mp cz12
    refine lv_if_ne (tgt := 12) hx hb dX11_free_6 (by decide) (fun cz40 => ?_) (fun cz40 => ?_)
    · skip
      exact absurd cz40 (by decide)
    · skip
      refine lv_bipush (v := (-2)) hx hb dX11_free_9 (by decide) ?_
      rw [hQ]
      exact W.iret (v := (-2 : Int32)) hx hb hr (fun t ht hW => ⟨⟨(-2 : Int32), (), rfl, trivial, nM, aM, hnM, by rw [ht]; exact hP⟩, hS.F ht⟩) hS.2.2 dX11_free_11
  · obtain rfl := er.symm
    have bz41 := fb_rng p1
    have zz42 : ¬ p1.toInt < (0 : Int) := fun h9 => cz13 (zi_lt.mpr h9)
    have bz43 := hbV 0
    have zz44 : ¬ (bV 0).toInt ≤ p1.toInt := fun h9 => cz14 (zi_le.mpr h9)
    have bz45 := fb_rng p2
    have zz46 : ¬ p2.toInt < (0 : Int) := fun h9 => cz15 (zi_lt.mpr h9)
    have bz47 := hcV 0
    have zz48 : ¬ (cV 0).toInt ≤ p2.toInt := fun h9 => cz16 (zi_le.mpr h9)
    refine lv_if_ne (tgt := 12) hx hb dX11_free_6 (by decide) (fun cz49 => ?_) (fun cz49 => ?_)
    · skip
      refine lv_aload_n hx hb dX11_free_12 rfl (lv_at hl 0 rfl) ?_
      refine va_get (D := (dC, dI)) (ci := 11) (v := .ref (qY 0)) (C := RX11) (T := TX11) (N := 15) hx hb hts (fun w h => List.mem_cons_of_mem _ (List.mem_append_right _ (List.mem_append_right _ (List.mem_append_left _ h)))) hown hK hP 3 rfl rfl 5 (by decide) (hts (.fieldLink RX11 45 "SagMemory" "story" "LSagMemory$Story;") (wl_mem 4 rfl)) (fun _ h9 => h9) rfl dX11_free_13 ?_
      refine lv_iload_n hx hb dX11_free_16 rfl (lv_at hl 2 rfl) ?_
      have hPc : va_P (dC, dI) vwCl (List.flatten [(wStoO qY k (qV 0) planY (sY 0 0) (sY 1 0) (sY 2 0) (sY 3 0) (sY 4 0) (sY 5 0) (sY 6 0) (sY 7 0)), (wState (sY 0) k (vY 0) (nY 0) (aY 0)), (wState (sY 1) k (vY 1) (nY 1) (aY 1)), (wState (sY 2) k (vY 2) (nY 2) (aY 2)), (wState (sY 3) k (vY 3) (nY 3) (aY 3)), (wState (sY 4) k (vY 4) (nY 4) (aY 4)), (wState (sY 5) k (vY 5) (nY 5) (aY 5)), (wState (sY 6) k (vY 6) (nY 6) (aY 6)), (wState (sY 7) k (vY 7) (nY 7) (aY 7))]) s.heap := wc_subP1 hP [3, 4, 5, 6, 7, 8, 9, 10, 11] rfl
      refine va_csr (va_Run.run (va_runV (As := [.int p2]) (rest := []) ⟨hx, hb, hml, hown, hts⟩ (c_X8_behind l dC dI k qY sY (qV 0) planY vY nY aY p2 hnY) (cwV 1 hts (gk_V (wl_mem 5 rfl) (wl_mem 6 rfl) (wl_mem 7 rfl) (wl_mem 8 rfl) (fun w h => List.mem_cons_of_mem _ (List.mem_append_right _ (List.mem_append_right _ (List.mem_append_right _ (List.mem_append_left _ h))))) wkg_c_X8_behind) rfl rfl rfl (by decide +kernel) ⟨Nat.le_of_ble_eq_true rfl, Nat.le_of_ble_eq_true rfl⟩) ⟨fun a U g mk q => by obtain ⟨q0, qP, qK⟩ := q; exact ⟨q0, qP, va_K.moved (u := U) (U := U.calling g mk a) (Vm.Alike.refl U.vm) qK⟩, va_recv hK hPc (ci := 8) (q0 := 0) rfl rfl, fun U hU hW => ⟨rfl, by rw [hU]; exact hPc, va_K.moved hW.alike hK⟩⟩ rfl rfl hl.1 rfl (lv_room (Nat.le_of_ble_eq_true rfl)) dX11_free_17 ⟨Nat.le_of_ble_eq_true rfl, Nat.le_of_ble_eq_true rfl⟩)) (fun rz51 gz50 => ?_)
      clear hPc
      rcases gz50 with ⟨rfl, cz52⟩ | ⟨rfl, cz53, cz54⟩ | ⟨rfl, cz55, cz56, cz57⟩ | ⟨rfl, cz58, cz59, cz60⟩ | ⟨rfl, cz61, cz62, cz63⟩ | ⟨rfl, cz64, cz65, cz66⟩ | ⟨rfl, cz67, cz68, cz69⟩ | ⟨rfl, cz70, cz71, cz72⟩ | ⟨rfl, cz73, cz74, cz75⟩
      · skip
        have zz76 : p2.toInt < (0 : Int) := zi_lt.mp cz52
        omega
      · skip
        have zz77 : ¬ p2.toInt < (0 : Int) := fun h9 => cz53 (zi_lt.mpr h9)
        have zz78 : (7 : Int) ≤ p2.toInt := zi_le.mp cz54
        omega
      · skip
        have zz79 : ¬ p2.toInt < (0 : Int) := fun h9 => cz55 (zi_lt.mpr h9)
        have zz80 : ¬ (7 : Int) ≤ p2.toInt := fun h9 => cz56 (zi_le.mpr h9)
        have zz81 : p2.toInt = (0 : Int) := zi_eq.mp cz57
        refine W.eq (g2 := F0 m 20 ls [.ref (sY 1 0)]) rfl ?_
        refine va_get (D := (dC, dI)) (ci := 7) (v := .ref (sY 1 1)) (C := RX7) (T := TX7) (N := 9) hx hb hts (fun w h => List.mem_cons_of_mem _ (List.mem_append_right _ (List.mem_append_right _ (List.mem_append_right _ (List.mem_append_right _ (List.mem_append_left _ h)))))) hown hK hP 29 rfl rfl 0 (by decide) (hts (.fieldLink RX11 194 "SagMemory$State" "memories" "[LSagMemory$Memory;") (wl_mem 9 rfl)) (fun _ h9 => h9) rfl dX11_free_20 ?_
        refine lv_iload_n hx hb dX11_free_23 rfl (lv_at hl 1 rfl) ?_
        rcases (show p1 = 0 ∨ p1 = 1 ∨ p1 = 2 by simp only [zi_eq]; show p1.toInt = 0 ∨ p1.toInt = 1 ∨ p1.toInt = 2; omega) with cz82 | cz82 | cz82
        · skip
          have zz83 : p1.toInt = (0 : Int) := zi_eq.mp cz82
          refine W.eq (g2 := F0 m 24 ls [.int 0, .ref (sY 1 1)]) (by rw [cz82]) ?_
          refine va_aldq hx hb hK hP 30 4 rfl rfl (by unfold vp_in; decide) dX11_free_24 ?_
          refine W.eq (g2 := F0 m 25 ls [.ref (sY 1 2)]) rfl ?_
          refine lv_astore_n (lv' := [(3, .ref (sY 1 2)), (0, .ref (qX 0)), (1, .int p1), (2, .int p2)]) hx hb dX11_free_25 rfl hl (by decide) rfl (fun ls hl => ?_)
          refine lv_aload_n hx hb dX11_free_26 rfl (lv_at hl 0 rfl) ?_
          have hPc := hP.sub (ws' := (List.flatten [(wMem (fun i => sY 1 (i + 2)) k (nY 1) (aY 1))])) [31, 32, 33] rfl
          refine vp_callSi (va_Run.run (va_runV (As := []) (rest := []) ⟨hx, hb, hml, hown, hts⟩ (c_X2_depth l dC dI k (fun i => sY 1 (i + 2)) (nY 1) (aY 1) (hnY 1)) (cwV 0 hts (gk_V (wl_mem 10 rfl) (wl_mem 11 rfl) (wl_mem 12 rfl) (wl_mem 13 rfl) (fun w h => List.mem_cons_of_mem _ (List.mem_append_right _ (List.mem_append_right _ (List.mem_append_right _ (List.mem_append_right _ (List.mem_append_right _ (List.mem_append_left _ h))))))) wkg_c_X2_depth) rfl rfl rfl (by decide +kernel) ⟨Nat.le_of_ble_eq_true rfl, Nat.le_of_ble_eq_true rfl⟩) ⟨fun a U g mk q => by obtain ⟨q0, qP, qK⟩ := q; exact ⟨q0, qP, va_K.moved (u := U) (U := U.calling g mk a) (Vm.Alike.refl U.vm) qK⟩, va_recv hK hPc (ci := 2) (q0 := 0) rfl rfl, fun U hU hW => ⟨rfl, by rw [hU]; exact hPc, va_K.moved hW.alike hK⟩⟩ rfl rfl hl.1 rfl (lv_room (Nat.le_of_ble_eq_true rfl)) dX11_free_27 ⟨Nat.le_of_ble_eq_true rfl, Nat.le_of_ble_eq_true rfl⟩)) (fun rz85 gz84 => ?_)
          clear hPc
          refine lv_istore (lv' := [(4, .int rz85), (3, .ref (sY 1 2)), (0, .ref (qX 0)), (1, .int p1), (2, .int p2)]) hx hb dX11_free_30 hl (by decide) rfl (fun ls hl => ?_)
          refine lv_bipush (v := 99) hx hb dX11_free_32 (by decide) ?_
          refine lv_istore (lv' := [(5, .int 99), (4, .int rz85), (3, .ref (sY 1 2)), (0, .ref (qX 0)), (1, .int p1), (2, .int p2)]) hx hb dX11_free_34 hl (by decide) rfl (fun ls hl => ?_)
          have lp36_kz109 : ∀ (n9_36 : Nat) (H : Heap) (locs : List Loc) (ls : Array Slot) (az106 : Nat → Nat → Int32) (nz107 : Nat → Int32) (xz108 : Int32), (xz108.toInt + 2147483648).toNat < n9_36 → Rg 0 8 nz107 → xz108.toInt ≤ 99 → va_P (dC, dI) vwCl (List.flatten [(wMem qM k nz107 az106)] ++ List.flatten [(wSag qX k tapeX (qV 0) actsX nowX trialX (qY 0) attemptX orderSearchX routeSearchX setSearchX (qM 0) slot0X slot1X slot2X slot3X image0X image1X image2X aX), (wValley qV k vV bV cV wV aV eV), (wStoO qY k (qV 0) planY (sY 0 0) (sY 1 0) (sY 2 0) (sY 3 0) (sY 4 0) (sY 5 0) (sY 6 0) (sY 7 0)), (wState (sY 0) k (vY 0) (nY 0) (aY 0)), (wState (sY 1) k (vY 1) (nY 1) (aY 1)), (wState (sY 2) k (vY 2) (nY 2) (aY 2)), (wState (sY 3) k (vY 3) (nY 3) (aY 3)), (wState (sY 4) k (vY 4) (nY 4) (aY 4)), (wState (sY 5) k (vY 5) (nY 5) (aY 5)), (wState (sY 6) k (vY 6) (nY 6) (aY 6)), (wState (sY 7) k (vY 7) (nY 7) (aY 7))]) H → va_D A (List.flatten [(wMem qM k nz107 az106)] ++ List.flatten [(wSag qX k tapeX (qV 0) actsX nowX trialX (qY 0) attemptX orderSearchX routeSearchX setSearchX (qM 0) slot0X slot1X slot2X slot3X image0X image1X image2X aX), (wValley qV k vV bV cV wV aV eV), (wStoO qY k (qV 0) planY (sY 0 0) (sY 1 0) (sY 2 0) (sY 3 0) (sY 4 0) (sY 5 0) (sY 6 0) (sY 7 0)), (wState (sY 0) k (vY 0) (nY 0) (aY 0)), (wState (sY 1) k (vY 1) (nY 1) (aY 1)), (wState (sY 2) k (vY 2) (nY 2) (aY 2)), (wState (sY 3) k (vY 3) (nY 3) (aY 3)), (wState (sY 4) k (vY 4) (nY 4) (aY 4)), (wState (sY 5) k (vY 5) (nY 5) (aY 5)), (wState (sY 6) k (vY 6) (nY 6) (aY 6)), (wState (sY 7) k (vY 7) (nY 7) (aY 7))]) → va_S A s.heap H locs → lv_has ls 6 [(0, .ref (qX 0)), (3, .ref (sY 1 2)), (4, .int rz85), (5, .int xz108)] → W p l e (headSpec wk_c_X11_free ({ frames := 2, cells := 0, slots := 0, locals := 49 })).room s m ([.ref (qX 0), .int p1, .int p2] : List Value).toArray below meth c H locs 0 0 Q (F0 m 36 ls []) := by
            intro n9_36
            induction n9_36 with
            | zero => intro H locs ls az106 nz107 xz108 hm; exact absurd hm (Nat.not_lt_zero _)
            | succ n9_36 ih36 =>
              intro H locs ls az106 nz107 xz108 hm36 hnz107 jz110 hP hD hS hl
              refine lv_iload hx hb dX11_free_36 (lv_at hl 3 rfl) ?_
              refine lv_if_le (tgt := 62) hx hb dX11_free_38 (by decide) (fun cz111 => ?_) (fun cz111 => ?_)
              · skip
                have bz112 := fb_rng xz108
                have zz113 : xz108.toInt ≤ (0 : Int) := zi_le.mp cz111
                refine lv_iconst (v := 0) hx hb dX11_free_62 (by decide) ?_
                rw [hQ]
                exact W.iret (v := (0 : Int32)) hx hb hr (fun t ht hW => ⟨⟨(0 : Int32), (), rfl, trivial, nz107, az106, hnz107, by rw [ht]; exact hP⟩, hS.F ht⟩) hS.2.2 dX11_free_63
              · skip
                have bz114 := fb_rng xz108
                have zz115 : ¬ xz108.toInt ≤ (0 : Int) := fun h9 => cz111 (zi_le.mpr h9)
                refine lv_aload_n hx hb dX11_free_41 rfl (lv_at hl 0 rfl) ?_
                refine lv_aload_n hx hb dX11_free_42 rfl (lv_at hl 1 rfl) ?_
                refine lv_iload hx hb dX11_free_43 (lv_at hl 3 rfl) ?_
                have hPc := hP.sub (ws' := (List.flatten [(wMem qM k nz107 az106)] ++ List.flatten [(wSag qX k tapeX (qV 0) actsX nowX trialX (qY 0) attemptX orderSearchX routeSearchX setSearchX (qM 0) slot0X slot1X slot2X slot3X image0X image1X image2X aX), (wValley qV k vV bV cV wV aV eV), (wMem (fun i => sY 1 (i + 2)) k (nY 1) (aY 1))])) [0, 1, 2, 3, 4, 5, 6, 7, 8, 9, 10, 11, 12, 13, 14, 15, 31, 32, 33] rfl
                have hC : [0, 1, 2, 3, 4, 5, 6, 7, 8, 9, 10, 11, 12, 13, 14, 15, 31, 32, 33].map (fun i => (List.flatten [(wMem qM k nz107 az106)] ++ List.flatten [(wSag qX k tapeX (qV 0) actsX nowX trialX (qY 0) attemptX orderSearchX routeSearchX setSearchX (qM 0) slot0X slot1X slot2X slot3X image0X image1X image2X aX), (wValley qV k vV bV cV wV aV eV), (wStoO qY k (qV 0) planY (sY 0 0) (sY 1 0) (sY 2 0) (sY 3 0) (sY 4 0) (sY 5 0) (sY 6 0) (sY 7 0)), (wState (sY 0) k (vY 0) (nY 0) (aY 0)), (wState (sY 1) k (vY 1) (nY 1) (aY 1)), (wState (sY 2) k (vY 2) (nY 2) (aY 2)), (wState (sY 3) k (vY 3) (nY 3) (aY 3)), (wState (sY 4) k (vY 4) (nY 4) (aY 4)), (wState (sY 5) k (vY 5) (nY 5) (aY 5)), (wState (sY 6) k (vY 6) (nY 6) (aY 6)), (wState (sY 7) k (vY 7) (nY 7) (aY 7))])[i]?) = (List.flatten [(wMem qM k nz107 az106)] ++ List.flatten [(wSag qX k tapeX (qV 0) actsX nowX trialX (qY 0) attemptX orderSearchX routeSearchX setSearchX (qM 0) slot0X slot1X slot2X slot3X image0X image1X image2X aX), (wValley qV k vV bV cV wV aV eV), (wMem (fun i => sY 1 (i + 2)) k (nY 1) (aY 1))]).map some := rfl
                have hDc := hD.sub [0, 1, 2, 3, 4, 5, 6, 7, 8, 9, 10, 11, 12, 13, 14, 15, 31, 32, 33] (by decide) hC
                have hFc := va_free hD hS hA [0, 1, 2, 3, 4, 5, 6, 7, 8, 9, 10, 11, 12, 13, 14, 15, 31, 32, 33] hC
                refine va_calli (va_runV (As := [.ref (sY 1 2), .int xz108]) (rest := []) ⟨hx, hb, hml, hown, hts⟩ (c_X11_depthWith l dC dI k H.size qX tapeX actsX nowX trialX (qY 0) attemptX orderSearchX routeSearchX setSearchX slot0X slot1X slot2X slot3X image0X image1X image2X aX qV vV bV cV wV aV eV qM nz107 az106 (fun i => sY 1 (i + 2)) (nY 1) (aY 1) xz108 hbV hcV hwV heV hnz107 (hnY 1) (by show 0 ≤ xz108.toInt ∧ xz108.toInt ≤ 99; omega)) (cwV 2 hts (gk_V (wl_mem 14 rfl) (wl_mem 15 rfl) (wl_mem 16 rfl) (wl_mem 3 rfl) (fun w h => List.mem_cons_of_mem _ (List.mem_append_right _ (List.mem_append_right _ (List.mem_append_right _ (List.mem_append_right _ (List.mem_append_right _ (List.mem_append_right _ (List.mem_append_left _ h)))))))) wkg_c_X11_depthWith) rfl rfl rfl (by decide +kernel) ⟨Nat.le_of_ble_eq_true rfl, Nat.le_of_ble_eq_true rfl⟩) ⟨fun a U g mk q => by obtain ⟨q0, q1, qP, qK, qD⟩ := q; exact ⟨q0, q1, qP, va_K.moved (u := U) (U := U.calling g mk a) (Vm.Alike.refl U.vm) qK, qD⟩, va_recv hK hPc (ci := 11) (q0 := 3) rfl rfl, fun U hU hW => ⟨rfl, by rw [hU], by rw [hU]; exact hPc, va_K.moved hW.alike hK, hDc.weaken (fun _ _ _ _ => trivial)⟩⟩ rfl rfl hl.1 rfl (lv_room (Nat.le_of_ble_eq_true rfl)) dX11_free_45 ⟨Nat.le_of_ble_eq_true rfl, Nat.le_of_ble_eq_true rfl⟩) hS (fun q _ h => hFc q h) hFc (fun rz117 u t H1 locs ht hvm gz116 hB hz1 hk1 hS => ?_)
                obtain ⟨nz118, az119, hnz118, hP1⟩ := hB
                rw [ht] at hP1
                obtain ⟨hP, hD⟩ := w_callR hP hD hk1 hP1 [0] rfl rfl (wk_mem [3, 4, 5, 6, 7, 8, 9, 10, 11, 12, 13, 14, 15, 31, 32, 33] rfl) rfl [some 0] rfl rfl
                clear hPc hC hDc hFc hk1 hP1
                generalize H1 = H at hP hS ⊢
                have hP : va_P (dC, dI) vwCl (List.flatten [(wMem qM k nz118 az119)] ++ List.flatten [(wSag qX k tapeX (qV 0) actsX nowX trialX (qY 0) attemptX orderSearchX routeSearchX setSearchX (qM 0) slot0X slot1X slot2X slot3X image0X image1X image2X aX), (wValley qV k vV bV cV wV aV eV), (wStoO qY k (qV 0) planY (sY 0 0) (sY 1 0) (sY 2 0) (sY 3 0) (sY 4 0) (sY 5 0) (sY 6 0) (sY 7 0)), (wState (sY 0) k (vY 0) (nY 0) (aY 0)), (wState (sY 1) k (vY 1) (nY 1) (aY 1)), (wState (sY 2) k (vY 2) (nY 2) (aY 2)), (wState (sY 3) k (vY 3) (nY 3) (aY 3)), (wState (sY 4) k (vY 4) (nY 4) (aY 4)), (wState (sY 5) k (vY 5) (nY 5) (aY 5)), (wState (sY 6) k (vY 6) (nY 6) (aY 6)), (wState (sY 7) k (vY 7) (nY 7) (aY 7))]) H := hP
                have hD : va_D A (List.flatten [(wMem qM k nz118 az119)] ++ List.flatten [(wSag qX k tapeX (qV 0) actsX nowX trialX (qY 0) attemptX orderSearchX routeSearchX setSearchX (qM 0) slot0X slot1X slot2X slot3X image0X image1X image2X aX), (wValley qV k vV bV cV wV aV eV), (wStoO qY k (qV 0) planY (sY 0 0) (sY 1 0) (sY 2 0) (sY 3 0) (sY 4 0) (sY 5 0) (sY 6 0) (sY 7 0)), (wState (sY 0) k (vY 0) (nY 0) (aY 0)), (wState (sY 1) k (vY 1) (nY 1) (aY 1)), (wState (sY 2) k (vY 2) (nY 2) (aY 2)), (wState (sY 3) k (vY 3) (nY 3) (aY 3)), (wState (sY 4) k (vY 4) (nY 4) (aY 4)), (wState (sY 5) k (vY 5) (nY 5) (aY 5)), (wState (sY 6) k (vY 6) (nY 6) (aY 6)), (wState (sY 7) k (vY 7) (nY 7) (aY 7))]) := hD
                refine W.widen (k := 0) (n := 0) (Nat.le_refl 0) (Nat.le_refl 0) ?_
                refine lv_iload hx hb dX11_free_48 (lv_at hl 2 rfl) ?_
                refine lv_icmp_gt (tgt := 56) hx hb dX11_free_50 (by decide) (fun cz120 => ?_) (fun cz120 => ?_)
                · skip
                  have bz121 := fb_rng rz85
                  have bz122 := fb_rng rz117
                  have zz123 : rz85.toInt < rz117.toInt := zi_lt.mp cz120
                  obtain ⟨xz124, exz124⟩ : ∃ y : Int32, y = xz108 + Int32.ofInt (-1) := ⟨_, rfl⟩
                  have fxz124 : xz124.toInt = xz108.toInt + (-1) := by rw [exz124]; exact fb_addI (y := Int32.ofInt (-1)) (by show -2147483648 ≤ xz108.toInt + (-1); omega) (by show xz108.toInt + (-1) < 2147483648; omega)
                  refine lv_iinc (v := xz124) (lv' := [(5, .int xz124), (0, .ref (qX 0)), (3, .ref (sY 1 2)), (4, .int rz85)]) hx hb dX11_free_56 hl (k := 3) rfl exz124.symm (by decide) rfl (fun ls hl => ?_)
                  refine lv_goto (tgt := 36) hx hb dX11_free_59 (by decide) ?_
                  exact ih36 H locs ls az119 nz118 xz124 (by show (xz124.toInt + 2147483648).toNat < n9_36; omega) hnz118 (by show xz124.toInt ≤ 99; omega) hP hD hS (lv_sub hl [1, 2, 3, 0] rfl)
                · skip
                  have bz125 := fb_rng rz85
                  have bz126 := fb_rng rz117
                  have zz127 : ¬ rz85.toInt < rz117.toInt := fun h9 => cz120 (zi_lt.mpr h9)
                  refine lv_iload hx hb dX11_free_53 (lv_at hl 3 rfl) ?_
                  rw [hQ]
                  exact W.iret (v := xz108) hx hb hr (fun t ht hW => ⟨⟨xz108, (), rfl, trivial, nz118, az119, hnz118, by rw [ht]; exact hP⟩, hS.F ht⟩) hS.2.2 dX11_free_55
          exact lp36_kz109 _ s.heap [] ls aM nM (99 : Int32) (Nat.lt_succ_self _) hnM (by show (99 : Int) ≤ 99; omega) hP hD hS (lv_sub hl [3, 2, 1, 0] rfl)
        · skip
          have zz128 : p1.toInt = (1 : Int) := zi_eq.mp cz82
          refine W.eq (g2 := F0 m 24 ls [.int 1, .ref (sY 1 1)]) (by rw [cz82]) ?_
          refine va_aldq hx hb hK hP 30 4 rfl rfl (by unfold vp_in; decide) dX11_free_24 ?_
          refine W.eq (g2 := F0 m 25 ls [.ref (sY 1 5)]) rfl ?_
          refine lv_astore_n (lv' := [(3, .ref (sY 1 5)), (0, .ref (qX 0)), (1, .int p1), (2, .int p2)]) hx hb dX11_free_25 rfl hl (by decide) rfl (fun ls hl => ?_)
          refine lv_aload_n hx hb dX11_free_26 rfl (lv_at hl 0 rfl) ?_
          have hPc := hP.sub (ws' := (List.flatten [(wMem (fun i => sY 1 (i + 5)) k (fun i => (nY 1) (i + 1)) (fun i => (aY 1) (i + 2)))])) [34, 35, 36] rfl
          refine vp_callSi (va_Run.run (va_runV (As := []) (rest := []) ⟨hx, hb, hml, hown, hts⟩ (c_X2_depth l dC dI k (fun i => sY 1 (i + 5)) (fun i => (nY 1) (i + 1)) (fun i => (aY 1) (i + 2)) (fun i => (hnY 1) (i + 1))) (cwV 0 hts (gk_V (wl_mem 10 rfl) (wl_mem 11 rfl) (wl_mem 12 rfl) (wl_mem 13 rfl) (fun w h => List.mem_cons_of_mem _ (List.mem_append_right _ (List.mem_append_right _ (List.mem_append_right _ (List.mem_append_right _ (List.mem_append_right _ (List.mem_append_left _ h))))))) wkg_c_X2_depth) rfl rfl rfl (by decide +kernel) ⟨Nat.le_of_ble_eq_true rfl, Nat.le_of_ble_eq_true rfl⟩) ⟨fun a U g mk q => by obtain ⟨q0, qP, qK⟩ := q; exact ⟨q0, qP, va_K.moved (u := U) (U := U.calling g mk a) (Vm.Alike.refl U.vm) qK⟩, va_recv hK hPc (ci := 2) (q0 := 0) rfl rfl, fun U hU hW => ⟨rfl, by rw [hU]; exact hPc, va_K.moved hW.alike hK⟩⟩ rfl rfl hl.1 rfl (lv_room (Nat.le_of_ble_eq_true rfl)) dX11_free_27 ⟨Nat.le_of_ble_eq_true rfl, Nat.le_of_ble_eq_true rfl⟩)) (fun rz130 gz129 => ?_)
          clear hPc
          refine lv_istore (lv' := [(4, .int rz130), (3, .ref (sY 1 5)), (0, .ref (qX 0)), (1, .int p1), (2, .int p2)]) hx hb dX11_free_30 hl (by decide) rfl (fun ls hl => ?_)
          refine lv_bipush (v := 99) hx hb dX11_free_32 (by decide) ?_
          refine lv_istore (lv' := [(5, .int 99), (4, .int rz130), (3, .ref (sY 1 5)), (0, .ref (qX 0)), (1, .int p1), (2, .int p2)]) hx hb dX11_free_34 hl (by decide) rfl (fun ls hl => ?_)
          have lp36_kz154 : ∀ (n9_36 : Nat) (H : Heap) (locs : List Loc) (ls : Array Slot) (az151 : Nat → Nat → Int32) (nz152 : Nat → Int32) (xz153 : Int32), (xz153.toInt + 2147483648).toNat < n9_36 → Rg 0 8 nz152 → xz153.toInt ≤ 99 → va_P (dC, dI) vwCl (List.flatten [(wMem qM k nz152 az151)] ++ List.flatten [(wSag qX k tapeX (qV 0) actsX nowX trialX (qY 0) attemptX orderSearchX routeSearchX setSearchX (qM 0) slot0X slot1X slot2X slot3X image0X image1X image2X aX), (wValley qV k vV bV cV wV aV eV), (wStoO qY k (qV 0) planY (sY 0 0) (sY 1 0) (sY 2 0) (sY 3 0) (sY 4 0) (sY 5 0) (sY 6 0) (sY 7 0)), (wState (sY 0) k (vY 0) (nY 0) (aY 0)), (wState (sY 1) k (vY 1) (nY 1) (aY 1)), (wState (sY 2) k (vY 2) (nY 2) (aY 2)), (wState (sY 3) k (vY 3) (nY 3) (aY 3)), (wState (sY 4) k (vY 4) (nY 4) (aY 4)), (wState (sY 5) k (vY 5) (nY 5) (aY 5)), (wState (sY 6) k (vY 6) (nY 6) (aY 6)), (wState (sY 7) k (vY 7) (nY 7) (aY 7))]) H → va_D A (List.flatten [(wMem qM k nz152 az151)] ++ List.flatten [(wSag qX k tapeX (qV 0) actsX nowX trialX (qY 0) attemptX orderSearchX routeSearchX setSearchX (qM 0) slot0X slot1X slot2X slot3X image0X image1X image2X aX), (wValley qV k vV bV cV wV aV eV), (wStoO qY k (qV 0) planY (sY 0 0) (sY 1 0) (sY 2 0) (sY 3 0) (sY 4 0) (sY 5 0) (sY 6 0) (sY 7 0)), (wState (sY 0) k (vY 0) (nY 0) (aY 0)), (wState (sY 1) k (vY 1) (nY 1) (aY 1)), (wState (sY 2) k (vY 2) (nY 2) (aY 2)), (wState (sY 3) k (vY 3) (nY 3) (aY 3)), (wState (sY 4) k (vY 4) (nY 4) (aY 4)), (wState (sY 5) k (vY 5) (nY 5) (aY 5)), (wState (sY 6) k (vY 6) (nY 6) (aY 6)), (wState (sY 7) k (vY 7) (nY 7) (aY 7))]) → va_S A s.heap H locs → lv_has ls 6 [(0, .ref (qX 0)), (3, .ref (sY 1 5)), (4, .int rz130), (5, .int xz153)] → W p l e (headSpec wk_c_X11_free ({ frames := 2, cells := 0, slots := 0, locals := 49 })).room s m ([.ref (qX 0), .int p1, .int p2] : List Value).toArray below meth c H locs 0 0 Q (F0 m 36 ls []) := by
            intro n9_36
            induction n9_36 with
            | zero => intro H locs ls az151 nz152 xz153 hm; exact absurd hm (Nat.not_lt_zero _)
            | succ n9_36 ih36 =>
              intro H locs ls az151 nz152 xz153 hm36 hnz152 jz155 hP hD hS hl
              refine lv_iload hx hb dX11_free_36 (lv_at hl 3 rfl) ?_
              refine lv_if_le (tgt := 62) hx hb dX11_free_38 (by decide) (fun cz156 => ?_) (fun cz156 => ?_)
              · skip
                have bz157 := fb_rng xz153
                have zz158 : xz153.toInt ≤ (0 : Int) := zi_le.mp cz156
                refine lv_iconst (v := 0) hx hb dX11_free_62 (by decide) ?_
                rw [hQ]
                exact W.iret (v := (0 : Int32)) hx hb hr (fun t ht hW => ⟨⟨(0 : Int32), (), rfl, trivial, nz152, az151, hnz152, by rw [ht]; exact hP⟩, hS.F ht⟩) hS.2.2 dX11_free_63
              · skip
                have bz159 := fb_rng xz153
                have zz160 : ¬ xz153.toInt ≤ (0 : Int) := fun h9 => cz156 (zi_le.mpr h9)
                refine lv_aload_n hx hb dX11_free_41 rfl (lv_at hl 0 rfl) ?_
                refine lv_aload_n hx hb dX11_free_42 rfl (lv_at hl 1 rfl) ?_
                refine lv_iload hx hb dX11_free_43 (lv_at hl 3 rfl) ?_
                have hPc := hP.sub (ws' := (List.flatten [(wMem qM k nz152 az151)] ++ List.flatten [(wSag qX k tapeX (qV 0) actsX nowX trialX (qY 0) attemptX orderSearchX routeSearchX setSearchX (qM 0) slot0X slot1X slot2X slot3X image0X image1X image2X aX), (wValley qV k vV bV cV wV aV eV), (wMem (fun i => sY 1 (i + 5)) k (fun i => (nY 1) (i + 1)) (fun i => (aY 1) (i + 2)))])) [0, 1, 2, 3, 4, 5, 6, 7, 8, 9, 10, 11, 12, 13, 14, 15, 34, 35, 36] rfl
                have hC : [0, 1, 2, 3, 4, 5, 6, 7, 8, 9, 10, 11, 12, 13, 14, 15, 34, 35, 36].map (fun i => (List.flatten [(wMem qM k nz152 az151)] ++ List.flatten [(wSag qX k tapeX (qV 0) actsX nowX trialX (qY 0) attemptX orderSearchX routeSearchX setSearchX (qM 0) slot0X slot1X slot2X slot3X image0X image1X image2X aX), (wValley qV k vV bV cV wV aV eV), (wStoO qY k (qV 0) planY (sY 0 0) (sY 1 0) (sY 2 0) (sY 3 0) (sY 4 0) (sY 5 0) (sY 6 0) (sY 7 0)), (wState (sY 0) k (vY 0) (nY 0) (aY 0)), (wState (sY 1) k (vY 1) (nY 1) (aY 1)), (wState (sY 2) k (vY 2) (nY 2) (aY 2)), (wState (sY 3) k (vY 3) (nY 3) (aY 3)), (wState (sY 4) k (vY 4) (nY 4) (aY 4)), (wState (sY 5) k (vY 5) (nY 5) (aY 5)), (wState (sY 6) k (vY 6) (nY 6) (aY 6)), (wState (sY 7) k (vY 7) (nY 7) (aY 7))])[i]?) = (List.flatten [(wMem qM k nz152 az151)] ++ List.flatten [(wSag qX k tapeX (qV 0) actsX nowX trialX (qY 0) attemptX orderSearchX routeSearchX setSearchX (qM 0) slot0X slot1X slot2X slot3X image0X image1X image2X aX), (wValley qV k vV bV cV wV aV eV), (wMem (fun i => sY 1 (i + 5)) k (fun i => (nY 1) (i + 1)) (fun i => (aY 1) (i + 2)))]).map some := rfl
                have hDc := hD.sub [0, 1, 2, 3, 4, 5, 6, 7, 8, 9, 10, 11, 12, 13, 14, 15, 34, 35, 36] (by decide) hC
                have hFc := va_free hD hS hA [0, 1, 2, 3, 4, 5, 6, 7, 8, 9, 10, 11, 12, 13, 14, 15, 34, 35, 36] hC
                refine va_calli (va_runV (As := [.ref (sY 1 5), .int xz153]) (rest := []) ⟨hx, hb, hml, hown, hts⟩ (c_X11_depthWith l dC dI k H.size qX tapeX actsX nowX trialX (qY 0) attemptX orderSearchX routeSearchX setSearchX slot0X slot1X slot2X slot3X image0X image1X image2X aX qV vV bV cV wV aV eV qM nz152 az151 (fun i => sY 1 (i + 5)) (fun i => (nY 1) (i + 1)) (fun i => (aY 1) (i + 2)) xz153 hbV hcV hwV heV hnz152 (fun i => (hnY 1) (i + 1)) (by show 0 ≤ xz153.toInt ∧ xz153.toInt ≤ 99; omega)) (cwV 2 hts (gk_V (wl_mem 14 rfl) (wl_mem 15 rfl) (wl_mem 16 rfl) (wl_mem 3 rfl) (fun w h => List.mem_cons_of_mem _ (List.mem_append_right _ (List.mem_append_right _ (List.mem_append_right _ (List.mem_append_right _ (List.mem_append_right _ (List.mem_append_right _ (List.mem_append_left _ h)))))))) wkg_c_X11_depthWith) rfl rfl rfl (by decide +kernel) ⟨Nat.le_of_ble_eq_true rfl, Nat.le_of_ble_eq_true rfl⟩) ⟨fun a U g mk q => by obtain ⟨q0, q1, qP, qK, qD⟩ := q; exact ⟨q0, q1, qP, va_K.moved (u := U) (U := U.calling g mk a) (Vm.Alike.refl U.vm) qK, qD⟩, va_recv hK hPc (ci := 11) (q0 := 3) rfl rfl, fun U hU hW => ⟨rfl, by rw [hU], by rw [hU]; exact hPc, va_K.moved hW.alike hK, hDc.weaken (fun _ _ _ _ => trivial)⟩⟩ rfl rfl hl.1 rfl (lv_room (Nat.le_of_ble_eq_true rfl)) dX11_free_45 ⟨Nat.le_of_ble_eq_true rfl, Nat.le_of_ble_eq_true rfl⟩) hS (fun q _ h => hFc q h) hFc (fun rz162 u t H1 locs ht hvm gz161 hB hz1 hk1 hS => ?_)
                obtain ⟨nz163, az164, hnz163, hP1⟩ := hB
                rw [ht] at hP1
                obtain ⟨hP, hD⟩ := w_callR hP hD hk1 hP1 [0] rfl rfl (wk_mem [3, 4, 5, 6, 7, 8, 9, 10, 11, 12, 13, 14, 15, 34, 35, 36] rfl) rfl [some 0] rfl rfl
                clear hPc hC hDc hFc hk1 hP1
                generalize H1 = H at hP hS ⊢
                have hP : va_P (dC, dI) vwCl (List.flatten [(wMem qM k nz163 az164)] ++ List.flatten [(wSag qX k tapeX (qV 0) actsX nowX trialX (qY 0) attemptX orderSearchX routeSearchX setSearchX (qM 0) slot0X slot1X slot2X slot3X image0X image1X image2X aX), (wValley qV k vV bV cV wV aV eV), (wStoO qY k (qV 0) planY (sY 0 0) (sY 1 0) (sY 2 0) (sY 3 0) (sY 4 0) (sY 5 0) (sY 6 0) (sY 7 0)), (wState (sY 0) k (vY 0) (nY 0) (aY 0)), (wState (sY 1) k (vY 1) (nY 1) (aY 1)), (wState (sY 2) k (vY 2) (nY 2) (aY 2)), (wState (sY 3) k (vY 3) (nY 3) (aY 3)), (wState (sY 4) k (vY 4) (nY 4) (aY 4)), (wState (sY 5) k (vY 5) (nY 5) (aY 5)), (wState (sY 6) k (vY 6) (nY 6) (aY 6)), (wState (sY 7) k (vY 7) (nY 7) (aY 7))]) H := hP
                have hD : va_D A (List.flatten [(wMem qM k nz163 az164)] ++ List.flatten [(wSag qX k tapeX (qV 0) actsX nowX trialX (qY 0) attemptX orderSearchX routeSearchX setSearchX (qM 0) slot0X slot1X slot2X slot3X image0X image1X image2X aX), (wValley qV k vV bV cV wV aV eV), (wStoO qY k (qV 0) planY (sY 0 0) (sY 1 0) (sY 2 0) (sY 3 0) (sY 4 0) (sY 5 0) (sY 6 0) (sY 7 0)), (wState (sY 0) k (vY 0) (nY 0) (aY 0)), (wState (sY 1) k (vY 1) (nY 1) (aY 1)), (wState (sY 2) k (vY 2) (nY 2) (aY 2)), (wState (sY 3) k (vY 3) (nY 3) (aY 3)), (wState (sY 4) k (vY 4) (nY 4) (aY 4)), (wState (sY 5) k (vY 5) (nY 5) (aY 5)), (wState (sY 6) k (vY 6) (nY 6) (aY 6)), (wState (sY 7) k (vY 7) (nY 7) (aY 7))]) := hD
                refine W.widen (k := 0) (n := 0) (Nat.le_refl 0) (Nat.le_refl 0) ?_
                refine lv_iload hx hb dX11_free_48 (lv_at hl 2 rfl) ?_
                refine lv_icmp_gt (tgt := 56) hx hb dX11_free_50 (by decide) (fun cz165 => ?_) (fun cz165 => ?_)
                · skip
                  have bz166 := fb_rng rz130
                  have bz167 := fb_rng rz162
                  have zz168 : rz130.toInt < rz162.toInt := zi_lt.mp cz165
                  obtain ⟨xz169, exz169⟩ : ∃ y : Int32, y = xz153 + Int32.ofInt (-1) := ⟨_, rfl⟩
                  have fxz169 : xz169.toInt = xz153.toInt + (-1) := by rw [exz169]; exact fb_addI (y := Int32.ofInt (-1)) (by show -2147483648 ≤ xz153.toInt + (-1); omega) (by show xz153.toInt + (-1) < 2147483648; omega)
                  refine lv_iinc (v := xz169) (lv' := [(5, .int xz169), (0, .ref (qX 0)), (3, .ref (sY 1 5)), (4, .int rz130)]) hx hb dX11_free_56 hl (k := 3) rfl exz169.symm (by decide) rfl (fun ls hl => ?_)
                  refine lv_goto (tgt := 36) hx hb dX11_free_59 (by decide) ?_
                  exact ih36 H locs ls az164 nz163 xz169 (by show (xz169.toInt + 2147483648).toNat < n9_36; omega) hnz163 (by show xz169.toInt ≤ 99; omega) hP hD hS (lv_sub hl [1, 2, 3, 0] rfl)
                · skip
                  have bz170 := fb_rng rz130
                  have bz171 := fb_rng rz162
                  have zz172 : ¬ rz130.toInt < rz162.toInt := fun h9 => cz165 (zi_lt.mpr h9)
                  refine lv_iload hx hb dX11_free_53 (lv_at hl 3 rfl) ?_
                  rw [hQ]
                  exact W.iret (v := xz153) hx hb hr (fun t ht hW => ⟨⟨xz153, (), rfl, trivial, nz163, az164, hnz163, by rw [ht]; exact hP⟩, hS.F ht⟩) hS.2.2 dX11_free_55
          exact lp36_kz154 _ s.heap [] ls aM nM (99 : Int32) (Nat.lt_succ_self _) hnM (by show (99 : Int) ≤ 99; omega) hP hD hS (lv_sub hl [3, 2, 1, 0] rfl)
        · skip
          have zz173 : p1.toInt = (2 : Int) := zi_eq.mp cz82
          refine W.eq (g2 := F0 m 24 ls [.int 2, .ref (sY 1 1)]) (by rw [cz82]) ?_
          refine va_aldq hx hb hK hP 30 4 rfl rfl (by unfold vp_in; decide) dX11_free_24 ?_
          refine W.eq (g2 := F0 m 25 ls [.ref (sY 1 8)]) rfl ?_
          refine lv_astore_n (lv' := [(3, .ref (sY 1 8)), (0, .ref (qX 0)), (1, .int p1), (2, .int p2)]) hx hb dX11_free_25 rfl hl (by decide) rfl (fun ls hl => ?_)
          refine lv_aload_n hx hb dX11_free_26 rfl (lv_at hl 0 rfl) ?_
          have hPc := hP.sub (ws' := (List.flatten [(wMem (fun i => sY 1 (i + 8)) k (fun i => (nY 1) (i + 2)) (fun i => (aY 1) (i + 4)))])) [37, 38, 39] rfl
          refine vp_callSi (va_Run.run (va_runV (As := []) (rest := []) ⟨hx, hb, hml, hown, hts⟩ (c_X2_depth l dC dI k (fun i => sY 1 (i + 8)) (fun i => (nY 1) (i + 2)) (fun i => (aY 1) (i + 4)) (fun i => (hnY 1) (i + 2))) (cwV 0 hts (gk_V (wl_mem 10 rfl) (wl_mem 11 rfl) (wl_mem 12 rfl) (wl_mem 13 rfl) (fun w h => List.mem_cons_of_mem _ (List.mem_append_right _ (List.mem_append_right _ (List.mem_append_right _ (List.mem_append_right _ (List.mem_append_right _ (List.mem_append_left _ h))))))) wkg_c_X2_depth) rfl rfl rfl (by decide +kernel) ⟨Nat.le_of_ble_eq_true rfl, Nat.le_of_ble_eq_true rfl⟩) ⟨fun a U g mk q => by obtain ⟨q0, qP, qK⟩ := q; exact ⟨q0, qP, va_K.moved (u := U) (U := U.calling g mk a) (Vm.Alike.refl U.vm) qK⟩, va_recv hK hPc (ci := 2) (q0 := 0) rfl rfl, fun U hU hW => ⟨rfl, by rw [hU]; exact hPc, va_K.moved hW.alike hK⟩⟩ rfl rfl hl.1 rfl (lv_room (Nat.le_of_ble_eq_true rfl)) dX11_free_27 ⟨Nat.le_of_ble_eq_true rfl, Nat.le_of_ble_eq_true rfl⟩)) (fun rz175 gz174 => ?_)
          clear hPc
          refine lv_istore (lv' := [(4, .int rz175), (3, .ref (sY 1 8)), (0, .ref (qX 0)), (1, .int p1), (2, .int p2)]) hx hb dX11_free_30 hl (by decide) rfl (fun ls hl => ?_)
          refine lv_bipush (v := 99) hx hb dX11_free_32 (by decide) ?_
          refine lv_istore (lv' := [(5, .int 99), (4, .int rz175), (3, .ref (sY 1 8)), (0, .ref (qX 0)), (1, .int p1), (2, .int p2)]) hx hb dX11_free_34 hl (by decide) rfl (fun ls hl => ?_)
          have lp36_kz199 : ∀ (n9_36 : Nat) (H : Heap) (locs : List Loc) (ls : Array Slot) (az196 : Nat → Nat → Int32) (nz197 : Nat → Int32) (xz198 : Int32), (xz198.toInt + 2147483648).toNat < n9_36 → Rg 0 8 nz197 → xz198.toInt ≤ 99 → va_P (dC, dI) vwCl (List.flatten [(wMem qM k nz197 az196)] ++ List.flatten [(wSag qX k tapeX (qV 0) actsX nowX trialX (qY 0) attemptX orderSearchX routeSearchX setSearchX (qM 0) slot0X slot1X slot2X slot3X image0X image1X image2X aX), (wValley qV k vV bV cV wV aV eV), (wStoO qY k (qV 0) planY (sY 0 0) (sY 1 0) (sY 2 0) (sY 3 0) (sY 4 0) (sY 5 0) (sY 6 0) (sY 7 0)), (wState (sY 0) k (vY 0) (nY 0) (aY 0)), (wState (sY 1) k (vY 1) (nY 1) (aY 1)), (wState (sY 2) k (vY 2) (nY 2) (aY 2)), (wState (sY 3) k (vY 3) (nY 3) (aY 3)), (wState (sY 4) k (vY 4) (nY 4) (aY 4)), (wState (sY 5) k (vY 5) (nY 5) (aY 5)), (wState (sY 6) k (vY 6) (nY 6) (aY 6)), (wState (sY 7) k (vY 7) (nY 7) (aY 7))]) H → va_D A (List.flatten [(wMem qM k nz197 az196)] ++ List.flatten [(wSag qX k tapeX (qV 0) actsX nowX trialX (qY 0) attemptX orderSearchX routeSearchX setSearchX (qM 0) slot0X slot1X slot2X slot3X image0X image1X image2X aX), (wValley qV k vV bV cV wV aV eV), (wStoO qY k (qV 0) planY (sY 0 0) (sY 1 0) (sY 2 0) (sY 3 0) (sY 4 0) (sY 5 0) (sY 6 0) (sY 7 0)), (wState (sY 0) k (vY 0) (nY 0) (aY 0)), (wState (sY 1) k (vY 1) (nY 1) (aY 1)), (wState (sY 2) k (vY 2) (nY 2) (aY 2)), (wState (sY 3) k (vY 3) (nY 3) (aY 3)), (wState (sY 4) k (vY 4) (nY 4) (aY 4)), (wState (sY 5) k (vY 5) (nY 5) (aY 5)), (wState (sY 6) k (vY 6) (nY 6) (aY 6)), (wState (sY 7) k (vY 7) (nY 7) (aY 7))]) → va_S A s.heap H locs → lv_has ls 6 [(0, .ref (qX 0)), (3, .ref (sY 1 8)), (4, .int rz175), (5, .int xz198)] → W p l e (headSpec wk_c_X11_free ({ frames := 2, cells := 0, slots := 0, locals := 49 })).room s m ([.ref (qX 0), .int p1, .int p2] : List Value).toArray below meth c H locs 0 0 Q (F0 m 36 ls []) := by
            intro n9_36
            induction n9_36 with
            | zero => intro H locs ls az196 nz197 xz198 hm; exact absurd hm (Nat.not_lt_zero _)
            | succ n9_36 ih36 =>
              intro H locs ls az196 nz197 xz198 hm36 hnz197 jz200 hP hD hS hl
              refine lv_iload hx hb dX11_free_36 (lv_at hl 3 rfl) ?_
              refine lv_if_le (tgt := 62) hx hb dX11_free_38 (by decide) (fun cz201 => ?_) (fun cz201 => ?_)
              · skip
                have bz202 := fb_rng xz198
                have zz203 : xz198.toInt ≤ (0 : Int) := zi_le.mp cz201
                refine lv_iconst (v := 0) hx hb dX11_free_62 (by decide) ?_
                rw [hQ]
                exact W.iret (v := (0 : Int32)) hx hb hr (fun t ht hW => ⟨⟨(0 : Int32), (), rfl, trivial, nz197, az196, hnz197, by rw [ht]; exact hP⟩, hS.F ht⟩) hS.2.2 dX11_free_63
              · skip
                have bz204 := fb_rng xz198
                have zz205 : ¬ xz198.toInt ≤ (0 : Int) := fun h9 => cz201 (zi_le.mpr h9)
                refine lv_aload_n hx hb dX11_free_41 rfl (lv_at hl 0 rfl) ?_
                refine lv_aload_n hx hb dX11_free_42 rfl (lv_at hl 1 rfl) ?_
                refine lv_iload hx hb dX11_free_43 (lv_at hl 3 rfl) ?_
                have hPc := hP.sub (ws' := (List.flatten [(wMem qM k nz197 az196)] ++ List.flatten [(wSag qX k tapeX (qV 0) actsX nowX trialX (qY 0) attemptX orderSearchX routeSearchX setSearchX (qM 0) slot0X slot1X slot2X slot3X image0X image1X image2X aX), (wValley qV k vV bV cV wV aV eV), (wMem (fun i => sY 1 (i + 8)) k (fun i => (nY 1) (i + 2)) (fun i => (aY 1) (i + 4)))])) [0, 1, 2, 3, 4, 5, 6, 7, 8, 9, 10, 11, 12, 13, 14, 15, 37, 38, 39] rfl
                have hC : [0, 1, 2, 3, 4, 5, 6, 7, 8, 9, 10, 11, 12, 13, 14, 15, 37, 38, 39].map (fun i => (List.flatten [(wMem qM k nz197 az196)] ++ List.flatten [(wSag qX k tapeX (qV 0) actsX nowX trialX (qY 0) attemptX orderSearchX routeSearchX setSearchX (qM 0) slot0X slot1X slot2X slot3X image0X image1X image2X aX), (wValley qV k vV bV cV wV aV eV), (wStoO qY k (qV 0) planY (sY 0 0) (sY 1 0) (sY 2 0) (sY 3 0) (sY 4 0) (sY 5 0) (sY 6 0) (sY 7 0)), (wState (sY 0) k (vY 0) (nY 0) (aY 0)), (wState (sY 1) k (vY 1) (nY 1) (aY 1)), (wState (sY 2) k (vY 2) (nY 2) (aY 2)), (wState (sY 3) k (vY 3) (nY 3) (aY 3)), (wState (sY 4) k (vY 4) (nY 4) (aY 4)), (wState (sY 5) k (vY 5) (nY 5) (aY 5)), (wState (sY 6) k (vY 6) (nY 6) (aY 6)), (wState (sY 7) k (vY 7) (nY 7) (aY 7))])[i]?) = (List.flatten [(wMem qM k nz197 az196)] ++ List.flatten [(wSag qX k tapeX (qV 0) actsX nowX trialX (qY 0) attemptX orderSearchX routeSearchX setSearchX (qM 0) slot0X slot1X slot2X slot3X image0X image1X image2X aX), (wValley qV k vV bV cV wV aV eV), (wMem (fun i => sY 1 (i + 8)) k (fun i => (nY 1) (i + 2)) (fun i => (aY 1) (i + 4)))]).map some := rfl
                have hDc := hD.sub [0, 1, 2, 3, 4, 5, 6, 7, 8, 9, 10, 11, 12, 13, 14, 15, 37, 38, 39] (by decide) hC
                have hFc := va_free hD hS hA [0, 1, 2, 3, 4, 5, 6, 7, 8, 9, 10, 11, 12, 13, 14, 15, 37, 38, 39] hC
                refine va_calli (va_runV (As := [.ref (sY 1 8), .int xz198]) (rest := []) ⟨hx, hb, hml, hown, hts⟩ (c_X11_depthWith l dC dI k H.size qX tapeX actsX nowX trialX (qY 0) attemptX orderSearchX routeSearchX setSearchX slot0X slot1X slot2X slot3X image0X image1X image2X aX qV vV bV cV wV aV eV qM nz197 az196 (fun i => sY 1 (i + 8)) (fun i => (nY 1) (i + 2)) (fun i => (aY 1) (i + 4)) xz198 hbV hcV hwV heV hnz197 (fun i => (hnY 1) (i + 2)) (by show 0 ≤ xz198.toInt ∧ xz198.toInt ≤ 99; omega)) (cwV 2 hts (gk_V (wl_mem 14 rfl) (wl_mem 15 rfl) (wl_mem 16 rfl) (wl_mem 3 rfl) (fun w h => List.mem_cons_of_mem _ (List.mem_append_right _ (List.mem_append_right _ (List.mem_append_right _ (List.mem_append_right _ (List.mem_append_right _ (List.mem_append_right _ (List.mem_append_left _ h)))))))) wkg_c_X11_depthWith) rfl rfl rfl (by decide +kernel) ⟨Nat.le_of_ble_eq_true rfl, Nat.le_of_ble_eq_true rfl⟩) ⟨fun a U g mk q => by obtain ⟨q0, q1, qP, qK, qD⟩ := q; exact ⟨q0, q1, qP, va_K.moved (u := U) (U := U.calling g mk a) (Vm.Alike.refl U.vm) qK, qD⟩, va_recv hK hPc (ci := 11) (q0 := 3) rfl rfl, fun U hU hW => ⟨rfl, by rw [hU], by rw [hU]; exact hPc, va_K.moved hW.alike hK, hDc.weaken (fun _ _ _ _ => trivial)⟩⟩ rfl rfl hl.1 rfl (lv_room (Nat.le_of_ble_eq_true rfl)) dX11_free_45 ⟨Nat.le_of_ble_eq_true rfl, Nat.le_of_ble_eq_true rfl⟩) hS (fun q _ h => hFc q h) hFc (fun rz207 u t H1 locs ht hvm gz206 hB hz1 hk1 hS => ?_)
                obtain ⟨nz208, az209, hnz208, hP1⟩ := hB
                rw [ht] at hP1
                obtain ⟨hP, hD⟩ := w_callR hP hD hk1 hP1 [0] rfl rfl (wk_mem [3, 4, 5, 6, 7, 8, 9, 10, 11, 12, 13, 14, 15, 37, 38, 39] rfl) rfl [some 0] rfl rfl
                clear hPc hC hDc hFc hk1 hP1
                generalize H1 = H at hP hS ⊢
                have hP : va_P (dC, dI) vwCl (List.flatten [(wMem qM k nz208 az209)] ++ List.flatten [(wSag qX k tapeX (qV 0) actsX nowX trialX (qY 0) attemptX orderSearchX routeSearchX setSearchX (qM 0) slot0X slot1X slot2X slot3X image0X image1X image2X aX), (wValley qV k vV bV cV wV aV eV), (wStoO qY k (qV 0) planY (sY 0 0) (sY 1 0) (sY 2 0) (sY 3 0) (sY 4 0) (sY 5 0) (sY 6 0) (sY 7 0)), (wState (sY 0) k (vY 0) (nY 0) (aY 0)), (wState (sY 1) k (vY 1) (nY 1) (aY 1)), (wState (sY 2) k (vY 2) (nY 2) (aY 2)), (wState (sY 3) k (vY 3) (nY 3) (aY 3)), (wState (sY 4) k (vY 4) (nY 4) (aY 4)), (wState (sY 5) k (vY 5) (nY 5) (aY 5)), (wState (sY 6) k (vY 6) (nY 6) (aY 6)), (wState (sY 7) k (vY 7) (nY 7) (aY 7))]) H := hP
                have hD : va_D A (List.flatten [(wMem qM k nz208 az209)] ++ List.flatten [(wSag qX k tapeX (qV 0) actsX nowX trialX (qY 0) attemptX orderSearchX routeSearchX setSearchX (qM 0) slot0X slot1X slot2X slot3X image0X image1X image2X aX), (wValley qV k vV bV cV wV aV eV), (wStoO qY k (qV 0) planY (sY 0 0) (sY 1 0) (sY 2 0) (sY 3 0) (sY 4 0) (sY 5 0) (sY 6 0) (sY 7 0)), (wState (sY 0) k (vY 0) (nY 0) (aY 0)), (wState (sY 1) k (vY 1) (nY 1) (aY 1)), (wState (sY 2) k (vY 2) (nY 2) (aY 2)), (wState (sY 3) k (vY 3) (nY 3) (aY 3)), (wState (sY 4) k (vY 4) (nY 4) (aY 4)), (wState (sY 5) k (vY 5) (nY 5) (aY 5)), (wState (sY 6) k (vY 6) (nY 6) (aY 6)), (wState (sY 7) k (vY 7) (nY 7) (aY 7))]) := hD
                refine W.widen (k := 0) (n := 0) (Nat.le_refl 0) (Nat.le_refl 0) ?_
                refine lv_iload hx hb dX11_free_48 (lv_at hl 2 rfl) ?_
                refine lv_icmp_gt (tgt := 56) hx hb dX11_free_50 (by decide) (fun cz210 => ?_) (fun cz210 => ?_)
                · skip
                  have bz211 := fb_rng rz175
                  have bz212 := fb_rng rz207
                  have zz213 : rz175.toInt < rz207.toInt := zi_lt.mp cz210
                  obtain ⟨xz214, exz214⟩ : ∃ y : Int32, y = xz198 + Int32.ofInt (-1) := ⟨_, rfl⟩
                  have fxz214 : xz214.toInt = xz198.toInt + (-1) := by rw [exz214]; exact fb_addI (y := Int32.ofInt (-1)) (by show -2147483648 ≤ xz198.toInt + (-1); omega) (by show xz198.toInt + (-1) < 2147483648; omega)
                  refine lv_iinc (v := xz214) (lv' := [(5, .int xz214), (0, .ref (qX 0)), (3, .ref (sY 1 8)), (4, .int rz175)]) hx hb dX11_free_56 hl (k := 3) rfl exz214.symm (by decide) rfl (fun ls hl => ?_)
                  refine lv_goto (tgt := 36) hx hb dX11_free_59 (by decide) ?_
                  exact ih36 H locs ls az209 nz208 xz214 (by show (xz214.toInt + 2147483648).toNat < n9_36; omega) hnz208 (by show xz214.toInt ≤ 99; omega) hP hD hS (lv_sub hl [1, 2, 3, 0] rfl)
                · skip
                  have bz215 := fb_rng rz175
                  have bz216 := fb_rng rz207
                  have zz217 : ¬ rz175.toInt < rz207.toInt := fun h9 => cz210 (zi_lt.mpr h9)
                  refine lv_iload hx hb dX11_free_53 (lv_at hl 3 rfl) ?_
                  rw [hQ]
                  exact W.iret (v := xz198) hx hb hr (fun t ht hW => ⟨⟨xz198, (), rfl, trivial, nz208, az209, hnz208, by rw [ht]; exact hP⟩, hS.F ht⟩) hS.2.2 dX11_free_55
          exact lp36_kz199 _ s.heap [] ls aM nM (99 : Int32) (Nat.lt_succ_self _) hnM (by show (99 : Int) ≤ 99; omega) hP hD hS (lv_sub hl [3, 2, 1, 0] rfl)
      · skip
        have zz218 : ¬ p2.toInt < (0 : Int) := fun h9 => cz58 (zi_lt.mpr h9)
        have zz219 : ¬ (7 : Int) ≤ p2.toInt := fun h9 => cz59 (zi_le.mpr h9)
        have zz220 : p2.toInt = (1 : Int) := zi_eq.mp cz60
        refine W.eq (g2 := F0 m 20 ls [.ref (sY 2 0)]) rfl ?_
        refine va_get (D := (dC, dI)) (ci := 7) (v := .ref (sY 2 1)) (C := RX7) (T := TX7) (N := 9) hx hb hts (fun w h => List.mem_cons_of_mem _ (List.mem_append_right _ (List.mem_append_right _ (List.mem_append_right _ (List.mem_append_right _ (List.mem_append_left _ h)))))) hown hK hP 40 rfl rfl 0 (by decide) (hts (.fieldLink RX11 194 "SagMemory$State" "memories" "[LSagMemory$Memory;") (wl_mem 9 rfl)) (fun _ h9 => h9) rfl dX11_free_20 ?_
        refine lv_iload_n hx hb dX11_free_23 rfl (lv_at hl 1 rfl) ?_
        rcases (show p1 = 0 ∨ p1 = 1 ∨ p1 = 2 by simp only [zi_eq]; show p1.toInt = 0 ∨ p1.toInt = 1 ∨ p1.toInt = 2; omega) with cz221 | cz221 | cz221
        · skip
          have zz222 : p1.toInt = (0 : Int) := zi_eq.mp cz221
          refine W.eq (g2 := F0 m 24 ls [.int 0, .ref (sY 2 1)]) (by rw [cz221]) ?_
          refine va_aldq hx hb hK hP 41 4 rfl rfl (by unfold vp_in; decide) dX11_free_24 ?_
          refine W.eq (g2 := F0 m 25 ls [.ref (sY 2 2)]) rfl ?_
          refine lv_astore_n (lv' := [(3, .ref (sY 2 2)), (0, .ref (qX 0)), (1, .int p1), (2, .int p2)]) hx hb dX11_free_25 rfl hl (by decide) rfl (fun ls hl => ?_)
          refine lv_aload_n hx hb dX11_free_26 rfl (lv_at hl 0 rfl) ?_
          have hPc := hP.sub (ws' := (List.flatten [(wMem (fun i => sY 2 (i + 2)) k (nY 2) (aY 2))])) [42, 43, 44] rfl
          refine vp_callSi (va_Run.run (va_runV (As := []) (rest := []) ⟨hx, hb, hml, hown, hts⟩ (c_X2_depth l dC dI k (fun i => sY 2 (i + 2)) (nY 2) (aY 2) (hnY 2)) (cwV 0 hts (gk_V (wl_mem 10 rfl) (wl_mem 11 rfl) (wl_mem 12 rfl) (wl_mem 13 rfl) (fun w h => List.mem_cons_of_mem _ (List.mem_append_right _ (List.mem_append_right _ (List.mem_append_right _ (List.mem_append_right _ (List.mem_append_right _ (List.mem_append_left _ h))))))) wkg_c_X2_depth) rfl rfl rfl (by decide +kernel) ⟨Nat.le_of_ble_eq_true rfl, Nat.le_of_ble_eq_true rfl⟩) ⟨fun a U g mk q => by obtain ⟨q0, qP, qK⟩ := q; exact ⟨q0, qP, va_K.moved (u := U) (U := U.calling g mk a) (Vm.Alike.refl U.vm) qK⟩, va_recv hK hPc (ci := 2) (q0 := 0) rfl rfl, fun U hU hW => ⟨rfl, by rw [hU]; exact hPc, va_K.moved hW.alike hK⟩⟩ rfl rfl hl.1 rfl (lv_room (Nat.le_of_ble_eq_true rfl)) dX11_free_27 ⟨Nat.le_of_ble_eq_true rfl, Nat.le_of_ble_eq_true rfl⟩)) (fun rz224 gz223 => ?_)
          clear hPc
          refine lv_istore (lv' := [(4, .int rz224), (3, .ref (sY 2 2)), (0, .ref (qX 0)), (1, .int p1), (2, .int p2)]) hx hb dX11_free_30 hl (by decide) rfl (fun ls hl => ?_)
          refine lv_bipush (v := 99) hx hb dX11_free_32 (by decide) ?_
          refine lv_istore (lv' := [(5, .int 99), (4, .int rz224), (3, .ref (sY 2 2)), (0, .ref (qX 0)), (1, .int p1), (2, .int p2)]) hx hb dX11_free_34 hl (by decide) rfl (fun ls hl => ?_)
          have lp36_kz248 : ∀ (n9_36 : Nat) (H : Heap) (locs : List Loc) (ls : Array Slot) (az245 : Nat → Nat → Int32) (nz246 : Nat → Int32) (xz247 : Int32), (xz247.toInt + 2147483648).toNat < n9_36 → Rg 0 8 nz246 → xz247.toInt ≤ 99 → va_P (dC, dI) vwCl (List.flatten [(wMem qM k nz246 az245)] ++ List.flatten [(wSag qX k tapeX (qV 0) actsX nowX trialX (qY 0) attemptX orderSearchX routeSearchX setSearchX (qM 0) slot0X slot1X slot2X slot3X image0X image1X image2X aX), (wValley qV k vV bV cV wV aV eV), (wStoO qY k (qV 0) planY (sY 0 0) (sY 1 0) (sY 2 0) (sY 3 0) (sY 4 0) (sY 5 0) (sY 6 0) (sY 7 0)), (wState (sY 0) k (vY 0) (nY 0) (aY 0)), (wState (sY 1) k (vY 1) (nY 1) (aY 1)), (wState (sY 2) k (vY 2) (nY 2) (aY 2)), (wState (sY 3) k (vY 3) (nY 3) (aY 3)), (wState (sY 4) k (vY 4) (nY 4) (aY 4)), (wState (sY 5) k (vY 5) (nY 5) (aY 5)), (wState (sY 6) k (vY 6) (nY 6) (aY 6)), (wState (sY 7) k (vY 7) (nY 7) (aY 7))]) H → va_D A (List.flatten [(wMem qM k nz246 az245)] ++ List.flatten [(wSag qX k tapeX (qV 0) actsX nowX trialX (qY 0) attemptX orderSearchX routeSearchX setSearchX (qM 0) slot0X slot1X slot2X slot3X image0X image1X image2X aX), (wValley qV k vV bV cV wV aV eV), (wStoO qY k (qV 0) planY (sY 0 0) (sY 1 0) (sY 2 0) (sY 3 0) (sY 4 0) (sY 5 0) (sY 6 0) (sY 7 0)), (wState (sY 0) k (vY 0) (nY 0) (aY 0)), (wState (sY 1) k (vY 1) (nY 1) (aY 1)), (wState (sY 2) k (vY 2) (nY 2) (aY 2)), (wState (sY 3) k (vY 3) (nY 3) (aY 3)), (wState (sY 4) k (vY 4) (nY 4) (aY 4)), (wState (sY 5) k (vY 5) (nY 5) (aY 5)), (wState (sY 6) k (vY 6) (nY 6) (aY 6)), (wState (sY 7) k (vY 7) (nY 7) (aY 7))]) → va_S A s.heap H locs → lv_has ls 6 [(0, .ref (qX 0)), (3, .ref (sY 2 2)), (4, .int rz224), (5, .int xz247)] → W p l e (headSpec wk_c_X11_free ({ frames := 2, cells := 0, slots := 0, locals := 49 })).room s m ([.ref (qX 0), .int p1, .int p2] : List Value).toArray below meth c H locs 0 0 Q (F0 m 36 ls []) := by
            intro n9_36
            induction n9_36 with
            | zero => intro H locs ls az245 nz246 xz247 hm; exact absurd hm (Nat.not_lt_zero _)
            | succ n9_36 ih36 =>
              intro H locs ls az245 nz246 xz247 hm36 hnz246 jz249 hP hD hS hl
              refine lv_iload hx hb dX11_free_36 (lv_at hl 3 rfl) ?_
              refine lv_if_le (tgt := 62) hx hb dX11_free_38 (by decide) (fun cz250 => ?_) (fun cz250 => ?_)
              · skip
                have bz251 := fb_rng xz247
                have zz252 : xz247.toInt ≤ (0 : Int) := zi_le.mp cz250
                refine lv_iconst (v := 0) hx hb dX11_free_62 (by decide) ?_
                rw [hQ]
                exact W.iret (v := (0 : Int32)) hx hb hr (fun t ht hW => ⟨⟨(0 : Int32), (), rfl, trivial, nz246, az245, hnz246, by rw [ht]; exact hP⟩, hS.F ht⟩) hS.2.2 dX11_free_63
              · skip
                have bz253 := fb_rng xz247
                have zz254 : ¬ xz247.toInt ≤ (0 : Int) := fun h9 => cz250 (zi_le.mpr h9)
                refine lv_aload_n hx hb dX11_free_41 rfl (lv_at hl 0 rfl) ?_
                refine lv_aload_n hx hb dX11_free_42 rfl (lv_at hl 1 rfl) ?_
                refine lv_iload hx hb dX11_free_43 (lv_at hl 3 rfl) ?_
                have hPc := hP.sub (ws' := (List.flatten [(wMem qM k nz246 az245)] ++ List.flatten [(wSag qX k tapeX (qV 0) actsX nowX trialX (qY 0) attemptX orderSearchX routeSearchX setSearchX (qM 0) slot0X slot1X slot2X slot3X image0X image1X image2X aX), (wValley qV k vV bV cV wV aV eV), (wMem (fun i => sY 2 (i + 2)) k (nY 2) (aY 2))])) [0, 1, 2, 3, 4, 5, 6, 7, 8, 9, 10, 11, 12, 13, 14, 15, 42, 43, 44] rfl
                have hC : [0, 1, 2, 3, 4, 5, 6, 7, 8, 9, 10, 11, 12, 13, 14, 15, 42, 43, 44].map (fun i => (List.flatten [(wMem qM k nz246 az245)] ++ List.flatten [(wSag qX k tapeX (qV 0) actsX nowX trialX (qY 0) attemptX orderSearchX routeSearchX setSearchX (qM 0) slot0X slot1X slot2X slot3X image0X image1X image2X aX), (wValley qV k vV bV cV wV aV eV), (wStoO qY k (qV 0) planY (sY 0 0) (sY 1 0) (sY 2 0) (sY 3 0) (sY 4 0) (sY 5 0) (sY 6 0) (sY 7 0)), (wState (sY 0) k (vY 0) (nY 0) (aY 0)), (wState (sY 1) k (vY 1) (nY 1) (aY 1)), (wState (sY 2) k (vY 2) (nY 2) (aY 2)), (wState (sY 3) k (vY 3) (nY 3) (aY 3)), (wState (sY 4) k (vY 4) (nY 4) (aY 4)), (wState (sY 5) k (vY 5) (nY 5) (aY 5)), (wState (sY 6) k (vY 6) (nY 6) (aY 6)), (wState (sY 7) k (vY 7) (nY 7) (aY 7))])[i]?) = (List.flatten [(wMem qM k nz246 az245)] ++ List.flatten [(wSag qX k tapeX (qV 0) actsX nowX trialX (qY 0) attemptX orderSearchX routeSearchX setSearchX (qM 0) slot0X slot1X slot2X slot3X image0X image1X image2X aX), (wValley qV k vV bV cV wV aV eV), (wMem (fun i => sY 2 (i + 2)) k (nY 2) (aY 2))]).map some := rfl
                have hDc := hD.sub [0, 1, 2, 3, 4, 5, 6, 7, 8, 9, 10, 11, 12, 13, 14, 15, 42, 43, 44] (by decide) hC
                have hFc := va_free hD hS hA [0, 1, 2, 3, 4, 5, 6, 7, 8, 9, 10, 11, 12, 13, 14, 15, 42, 43, 44] hC
                refine va_calli (va_runV (As := [.ref (sY 2 2), .int xz247]) (rest := []) ⟨hx, hb, hml, hown, hts⟩ (c_X11_depthWith l dC dI k H.size qX tapeX actsX nowX trialX (qY 0) attemptX orderSearchX routeSearchX setSearchX slot0X slot1X slot2X slot3X image0X image1X image2X aX qV vV bV cV wV aV eV qM nz246 az245 (fun i => sY 2 (i + 2)) (nY 2) (aY 2) xz247 hbV hcV hwV heV hnz246 (hnY 2) (by show 0 ≤ xz247.toInt ∧ xz247.toInt ≤ 99; omega)) (cwV 2 hts (gk_V (wl_mem 14 rfl) (wl_mem 15 rfl) (wl_mem 16 rfl) (wl_mem 3 rfl) (fun w h => List.mem_cons_of_mem _ (List.mem_append_right _ (List.mem_append_right _ (List.mem_append_right _ (List.mem_append_right _ (List.mem_append_right _ (List.mem_append_right _ (List.mem_append_left _ h)))))))) wkg_c_X11_depthWith) rfl rfl rfl (by decide +kernel) ⟨Nat.le_of_ble_eq_true rfl, Nat.le_of_ble_eq_true rfl⟩) ⟨fun a U g mk q => by obtain ⟨q0, q1, qP, qK, qD⟩ := q; exact ⟨q0, q1, qP, va_K.moved (u := U) (U := U.calling g mk a) (Vm.Alike.refl U.vm) qK, qD⟩, va_recv hK hPc (ci := 11) (q0 := 3) rfl rfl, fun U hU hW => ⟨rfl, by rw [hU], by rw [hU]; exact hPc, va_K.moved hW.alike hK, hDc.weaken (fun _ _ _ _ => trivial)⟩⟩ rfl rfl hl.1 rfl (lv_room (Nat.le_of_ble_eq_true rfl)) dX11_free_45 ⟨Nat.le_of_ble_eq_true rfl, Nat.le_of_ble_eq_true rfl⟩) hS (fun q _ h => hFc q h) hFc (fun rz256 u t H1 locs ht hvm gz255 hB hz1 hk1 hS => ?_)
                obtain ⟨nz257, az258, hnz257, hP1⟩ := hB
                rw [ht] at hP1
                obtain ⟨hP, hD⟩ := w_callR hP hD hk1 hP1 [0] rfl rfl (wk_mem [3, 4, 5, 6, 7, 8, 9, 10, 11, 12, 13, 14, 15, 42, 43, 44] rfl) rfl [some 0] rfl rfl
                clear hPc hC hDc hFc hk1 hP1
                generalize H1 = H at hP hS ⊢
                have hP : va_P (dC, dI) vwCl (List.flatten [(wMem qM k nz257 az258)] ++ List.flatten [(wSag qX k tapeX (qV 0) actsX nowX trialX (qY 0) attemptX orderSearchX routeSearchX setSearchX (qM 0) slot0X slot1X slot2X slot3X image0X image1X image2X aX), (wValley qV k vV bV cV wV aV eV), (wStoO qY k (qV 0) planY (sY 0 0) (sY 1 0) (sY 2 0) (sY 3 0) (sY 4 0) (sY 5 0) (sY 6 0) (sY 7 0)), (wState (sY 0) k (vY 0) (nY 0) (aY 0)), (wState (sY 1) k (vY 1) (nY 1) (aY 1)), (wState (sY 2) k (vY 2) (nY 2) (aY 2)), (wState (sY 3) k (vY 3) (nY 3) (aY 3)), (wState (sY 4) k (vY 4) (nY 4) (aY 4)), (wState (sY 5) k (vY 5) (nY 5) (aY 5)), (wState (sY 6) k (vY 6) (nY 6) (aY 6)), (wState (sY 7) k (vY 7) (nY 7) (aY 7))]) H := hP
                have hD : va_D A (List.flatten [(wMem qM k nz257 az258)] ++ List.flatten [(wSag qX k tapeX (qV 0) actsX nowX trialX (qY 0) attemptX orderSearchX routeSearchX setSearchX (qM 0) slot0X slot1X slot2X slot3X image0X image1X image2X aX), (wValley qV k vV bV cV wV aV eV), (wStoO qY k (qV 0) planY (sY 0 0) (sY 1 0) (sY 2 0) (sY 3 0) (sY 4 0) (sY 5 0) (sY 6 0) (sY 7 0)), (wState (sY 0) k (vY 0) (nY 0) (aY 0)), (wState (sY 1) k (vY 1) (nY 1) (aY 1)), (wState (sY 2) k (vY 2) (nY 2) (aY 2)), (wState (sY 3) k (vY 3) (nY 3) (aY 3)), (wState (sY 4) k (vY 4) (nY 4) (aY 4)), (wState (sY 5) k (vY 5) (nY 5) (aY 5)), (wState (sY 6) k (vY 6) (nY 6) (aY 6)), (wState (sY 7) k (vY 7) (nY 7) (aY 7))]) := hD
                refine W.widen (k := 0) (n := 0) (Nat.le_refl 0) (Nat.le_refl 0) ?_
                refine lv_iload hx hb dX11_free_48 (lv_at hl 2 rfl) ?_
                refine lv_icmp_gt (tgt := 56) hx hb dX11_free_50 (by decide) (fun cz259 => ?_) (fun cz259 => ?_)
                · skip
                  have bz260 := fb_rng rz224
                  have bz261 := fb_rng rz256
                  have zz262 : rz224.toInt < rz256.toInt := zi_lt.mp cz259
                  obtain ⟨xz263, exz263⟩ : ∃ y : Int32, y = xz247 + Int32.ofInt (-1) := ⟨_, rfl⟩
                  have fxz263 : xz263.toInt = xz247.toInt + (-1) := by rw [exz263]; exact fb_addI (y := Int32.ofInt (-1)) (by show -2147483648 ≤ xz247.toInt + (-1); omega) (by show xz247.toInt + (-1) < 2147483648; omega)
                  refine lv_iinc (v := xz263) (lv' := [(5, .int xz263), (0, .ref (qX 0)), (3, .ref (sY 2 2)), (4, .int rz224)]) hx hb dX11_free_56 hl (k := 3) rfl exz263.symm (by decide) rfl (fun ls hl => ?_)
                  refine lv_goto (tgt := 36) hx hb dX11_free_59 (by decide) ?_
                  exact ih36 H locs ls az258 nz257 xz263 (by show (xz263.toInt + 2147483648).toNat < n9_36; omega) hnz257 (by show xz263.toInt ≤ 99; omega) hP hD hS (lv_sub hl [1, 2, 3, 0] rfl)
                · skip
                  have bz264 := fb_rng rz224
                  have bz265 := fb_rng rz256
                  have zz266 : ¬ rz224.toInt < rz256.toInt := fun h9 => cz259 (zi_lt.mpr h9)
                  refine lv_iload hx hb dX11_free_53 (lv_at hl 3 rfl) ?_
                  rw [hQ]
                  exact W.iret (v := xz247) hx hb hr (fun t ht hW => ⟨⟨xz247, (), rfl, trivial, nz257, az258, hnz257, by rw [ht]; exact hP⟩, hS.F ht⟩) hS.2.2 dX11_free_55
          exact lp36_kz248 _ s.heap [] ls aM nM (99 : Int32) (Nat.lt_succ_self _) hnM (by show (99 : Int) ≤ 99; omega) hP hD hS (lv_sub hl [3, 2, 1, 0] rfl)
        · skip
          have zz267 : p1.toInt = (1 : Int) := zi_eq.mp cz221
          refine W.eq (g2 := F0 m 24 ls [.int 1, .ref (sY 2 1)]) (by rw [cz221]) ?_
          refine va_aldq hx hb hK hP 41 4 rfl rfl (by unfold vp_in; decide) dX11_free_24 ?_
          refine W.eq (g2 := F0 m 25 ls [.ref (sY 2 5)]) rfl ?_
          refine lv_astore_n (lv' := [(3, .ref (sY 2 5)), (0, .ref (qX 0)), (1, .int p1), (2, .int p2)]) hx hb dX11_free_25 rfl hl (by decide) rfl (fun ls hl => ?_)
          refine lv_aload_n hx hb dX11_free_26 rfl (lv_at hl 0 rfl) ?_
          have hPc := hP.sub (ws' := (List.flatten [(wMem (fun i => sY 2 (i + 5)) k (fun i => (nY 2) (i + 1)) (fun i => (aY 2) (i + 2)))])) [45, 46, 47] rfl
          refine vp_callSi (va_Run.run (va_runV (As := []) (rest := []) ⟨hx, hb, hml, hown, hts⟩ (c_X2_depth l dC dI k (fun i => sY 2 (i + 5)) (fun i => (nY 2) (i + 1)) (fun i => (aY 2) (i + 2)) (fun i => (hnY 2) (i + 1))) (cwV 0 hts (gk_V (wl_mem 10 rfl) (wl_mem 11 rfl) (wl_mem 12 rfl) (wl_mem 13 rfl) (fun w h => List.mem_cons_of_mem _ (List.mem_append_right _ (List.mem_append_right _ (List.mem_append_right _ (List.mem_append_right _ (List.mem_append_right _ (List.mem_append_left _ h))))))) wkg_c_X2_depth) rfl rfl rfl (by decide +kernel) ⟨Nat.le_of_ble_eq_true rfl, Nat.le_of_ble_eq_true rfl⟩) ⟨fun a U g mk q => by obtain ⟨q0, qP, qK⟩ := q; exact ⟨q0, qP, va_K.moved (u := U) (U := U.calling g mk a) (Vm.Alike.refl U.vm) qK⟩, va_recv hK hPc (ci := 2) (q0 := 0) rfl rfl, fun U hU hW => ⟨rfl, by rw [hU]; exact hPc, va_K.moved hW.alike hK⟩⟩ rfl rfl hl.1 rfl (lv_room (Nat.le_of_ble_eq_true rfl)) dX11_free_27 ⟨Nat.le_of_ble_eq_true rfl, Nat.le_of_ble_eq_true rfl⟩)) (fun rz269 gz268 => ?_)
          clear hPc
          refine lv_istore (lv' := [(4, .int rz269), (3, .ref (sY 2 5)), (0, .ref (qX 0)), (1, .int p1), (2, .int p2)]) hx hb dX11_free_30 hl (by decide) rfl (fun ls hl => ?_)
          refine lv_bipush (v := 99) hx hb dX11_free_32 (by decide) ?_
          refine lv_istore (lv' := [(5, .int 99), (4, .int rz269), (3, .ref (sY 2 5)), (0, .ref (qX 0)), (1, .int p1), (2, .int p2)]) hx hb dX11_free_34 hl (by decide) rfl (fun ls hl => ?_)
          have lp36_kz293 : ∀ (n9_36 : Nat) (H : Heap) (locs : List Loc) (ls : Array Slot) (az290 : Nat → Nat → Int32) (nz291 : Nat → Int32) (xz292 : Int32), (xz292.toInt + 2147483648).toNat < n9_36 → Rg 0 8 nz291 → xz292.toInt ≤ 99 → va_P (dC, dI) vwCl (List.flatten [(wMem qM k nz291 az290)] ++ List.flatten [(wSag qX k tapeX (qV 0) actsX nowX trialX (qY 0) attemptX orderSearchX routeSearchX setSearchX (qM 0) slot0X slot1X slot2X slot3X image0X image1X image2X aX), (wValley qV k vV bV cV wV aV eV), (wStoO qY k (qV 0) planY (sY 0 0) (sY 1 0) (sY 2 0) (sY 3 0) (sY 4 0) (sY 5 0) (sY 6 0) (sY 7 0)), (wState (sY 0) k (vY 0) (nY 0) (aY 0)), (wState (sY 1) k (vY 1) (nY 1) (aY 1)), (wState (sY 2) k (vY 2) (nY 2) (aY 2)), (wState (sY 3) k (vY 3) (nY 3) (aY 3)), (wState (sY 4) k (vY 4) (nY 4) (aY 4)), (wState (sY 5) k (vY 5) (nY 5) (aY 5)), (wState (sY 6) k (vY 6) (nY 6) (aY 6)), (wState (sY 7) k (vY 7) (nY 7) (aY 7))]) H → va_D A (List.flatten [(wMem qM k nz291 az290)] ++ List.flatten [(wSag qX k tapeX (qV 0) actsX nowX trialX (qY 0) attemptX orderSearchX routeSearchX setSearchX (qM 0) slot0X slot1X slot2X slot3X image0X image1X image2X aX), (wValley qV k vV bV cV wV aV eV), (wStoO qY k (qV 0) planY (sY 0 0) (sY 1 0) (sY 2 0) (sY 3 0) (sY 4 0) (sY 5 0) (sY 6 0) (sY 7 0)), (wState (sY 0) k (vY 0) (nY 0) (aY 0)), (wState (sY 1) k (vY 1) (nY 1) (aY 1)), (wState (sY 2) k (vY 2) (nY 2) (aY 2)), (wState (sY 3) k (vY 3) (nY 3) (aY 3)), (wState (sY 4) k (vY 4) (nY 4) (aY 4)), (wState (sY 5) k (vY 5) (nY 5) (aY 5)), (wState (sY 6) k (vY 6) (nY 6) (aY 6)), (wState (sY 7) k (vY 7) (nY 7) (aY 7))]) → va_S A s.heap H locs → lv_has ls 6 [(0, .ref (qX 0)), (3, .ref (sY 2 5)), (4, .int rz269), (5, .int xz292)] → W p l e (headSpec wk_c_X11_free ({ frames := 2, cells := 0, slots := 0, locals := 49 })).room s m ([.ref (qX 0), .int p1, .int p2] : List Value).toArray below meth c H locs 0 0 Q (F0 m 36 ls []) := by
            intro n9_36
            induction n9_36 with
            | zero => intro H locs ls az290 nz291 xz292 hm; exact absurd hm (Nat.not_lt_zero _)
            | succ n9_36 ih36 =>
              intro H locs ls az290 nz291 xz292 hm36 hnz291 jz294 hP hD hS hl
              refine lv_iload hx hb dX11_free_36 (lv_at hl 3 rfl) ?_
              refine lv_if_le (tgt := 62) hx hb dX11_free_38 (by decide) (fun cz295 => ?_) (fun cz295 => ?_)
              · skip
                have bz296 := fb_rng xz292
                have zz297 : xz292.toInt ≤ (0 : Int) := zi_le.mp cz295
                refine lv_iconst (v := 0) hx hb dX11_free_62 (by decide) ?_
                rw [hQ]
                exact W.iret (v := (0 : Int32)) hx hb hr (fun t ht hW => ⟨⟨(0 : Int32), (), rfl, trivial, nz291, az290, hnz291, by rw [ht]; exact hP⟩, hS.F ht⟩) hS.2.2 dX11_free_63
              · skip
                have bz298 := fb_rng xz292
                have zz299 : ¬ xz292.toInt ≤ (0 : Int) := fun h9 => cz295 (zi_le.mpr h9)
                refine lv_aload_n hx hb dX11_free_41 rfl (lv_at hl 0 rfl) ?_
                refine lv_aload_n hx hb dX11_free_42 rfl (lv_at hl 1 rfl) ?_
                refine lv_iload hx hb dX11_free_43 (lv_at hl 3 rfl) ?_
                have hPc := hP.sub (ws' := (List.flatten [(wMem qM k nz291 az290)] ++ List.flatten [(wSag qX k tapeX (qV 0) actsX nowX trialX (qY 0) attemptX orderSearchX routeSearchX setSearchX (qM 0) slot0X slot1X slot2X slot3X image0X image1X image2X aX), (wValley qV k vV bV cV wV aV eV), (wMem (fun i => sY 2 (i + 5)) k (fun i => (nY 2) (i + 1)) (fun i => (aY 2) (i + 2)))])) [0, 1, 2, 3, 4, 5, 6, 7, 8, 9, 10, 11, 12, 13, 14, 15, 45, 46, 47] rfl
                have hC : [0, 1, 2, 3, 4, 5, 6, 7, 8, 9, 10, 11, 12, 13, 14, 15, 45, 46, 47].map (fun i => (List.flatten [(wMem qM k nz291 az290)] ++ List.flatten [(wSag qX k tapeX (qV 0) actsX nowX trialX (qY 0) attemptX orderSearchX routeSearchX setSearchX (qM 0) slot0X slot1X slot2X slot3X image0X image1X image2X aX), (wValley qV k vV bV cV wV aV eV), (wStoO qY k (qV 0) planY (sY 0 0) (sY 1 0) (sY 2 0) (sY 3 0) (sY 4 0) (sY 5 0) (sY 6 0) (sY 7 0)), (wState (sY 0) k (vY 0) (nY 0) (aY 0)), (wState (sY 1) k (vY 1) (nY 1) (aY 1)), (wState (sY 2) k (vY 2) (nY 2) (aY 2)), (wState (sY 3) k (vY 3) (nY 3) (aY 3)), (wState (sY 4) k (vY 4) (nY 4) (aY 4)), (wState (sY 5) k (vY 5) (nY 5) (aY 5)), (wState (sY 6) k (vY 6) (nY 6) (aY 6)), (wState (sY 7) k (vY 7) (nY 7) (aY 7))])[i]?) = (List.flatten [(wMem qM k nz291 az290)] ++ List.flatten [(wSag qX k tapeX (qV 0) actsX nowX trialX (qY 0) attemptX orderSearchX routeSearchX setSearchX (qM 0) slot0X slot1X slot2X slot3X image0X image1X image2X aX), (wValley qV k vV bV cV wV aV eV), (wMem (fun i => sY 2 (i + 5)) k (fun i => (nY 2) (i + 1)) (fun i => (aY 2) (i + 2)))]).map some := rfl
                have hDc := hD.sub [0, 1, 2, 3, 4, 5, 6, 7, 8, 9, 10, 11, 12, 13, 14, 15, 45, 46, 47] (by decide) hC
                have hFc := va_free hD hS hA [0, 1, 2, 3, 4, 5, 6, 7, 8, 9, 10, 11, 12, 13, 14, 15, 45, 46, 47] hC
                refine va_calli (va_runV (As := [.ref (sY 2 5), .int xz292]) (rest := []) ⟨hx, hb, hml, hown, hts⟩ (c_X11_depthWith l dC dI k H.size qX tapeX actsX nowX trialX (qY 0) attemptX orderSearchX routeSearchX setSearchX slot0X slot1X slot2X slot3X image0X image1X image2X aX qV vV bV cV wV aV eV qM nz291 az290 (fun i => sY 2 (i + 5)) (fun i => (nY 2) (i + 1)) (fun i => (aY 2) (i + 2)) xz292 hbV hcV hwV heV hnz291 (fun i => (hnY 2) (i + 1)) (by show 0 ≤ xz292.toInt ∧ xz292.toInt ≤ 99; omega)) (cwV 2 hts (gk_V (wl_mem 14 rfl) (wl_mem 15 rfl) (wl_mem 16 rfl) (wl_mem 3 rfl) (fun w h => List.mem_cons_of_mem _ (List.mem_append_right _ (List.mem_append_right _ (List.mem_append_right _ (List.mem_append_right _ (List.mem_append_right _ (List.mem_append_right _ (List.mem_append_left _ h)))))))) wkg_c_X11_depthWith) rfl rfl rfl (by decide +kernel) ⟨Nat.le_of_ble_eq_true rfl, Nat.le_of_ble_eq_true rfl⟩) ⟨fun a U g mk q => by obtain ⟨q0, q1, qP, qK, qD⟩ := q; exact ⟨q0, q1, qP, va_K.moved (u := U) (U := U.calling g mk a) (Vm.Alike.refl U.vm) qK, qD⟩, va_recv hK hPc (ci := 11) (q0 := 3) rfl rfl, fun U hU hW => ⟨rfl, by rw [hU], by rw [hU]; exact hPc, va_K.moved hW.alike hK, hDc.weaken (fun _ _ _ _ => trivial)⟩⟩ rfl rfl hl.1 rfl (lv_room (Nat.le_of_ble_eq_true rfl)) dX11_free_45 ⟨Nat.le_of_ble_eq_true rfl, Nat.le_of_ble_eq_true rfl⟩) hS (fun q _ h => hFc q h) hFc (fun rz301 u t H1 locs ht hvm gz300 hB hz1 hk1 hS => ?_)
                obtain ⟨nz302, az303, hnz302, hP1⟩ := hB
                rw [ht] at hP1
                obtain ⟨hP, hD⟩ := w_callR hP hD hk1 hP1 [0] rfl rfl (wk_mem [3, 4, 5, 6, 7, 8, 9, 10, 11, 12, 13, 14, 15, 45, 46, 47] rfl) rfl [some 0] rfl rfl
                clear hPc hC hDc hFc hk1 hP1
                generalize H1 = H at hP hS ⊢
                have hP : va_P (dC, dI) vwCl (List.flatten [(wMem qM k nz302 az303)] ++ List.flatten [(wSag qX k tapeX (qV 0) actsX nowX trialX (qY 0) attemptX orderSearchX routeSearchX setSearchX (qM 0) slot0X slot1X slot2X slot3X image0X image1X image2X aX), (wValley qV k vV bV cV wV aV eV), (wStoO qY k (qV 0) planY (sY 0 0) (sY 1 0) (sY 2 0) (sY 3 0) (sY 4 0) (sY 5 0) (sY 6 0) (sY 7 0)), (wState (sY 0) k (vY 0) (nY 0) (aY 0)), (wState (sY 1) k (vY 1) (nY 1) (aY 1)), (wState (sY 2) k (vY 2) (nY 2) (aY 2)), (wState (sY 3) k (vY 3) (nY 3) (aY 3)), (wState (sY 4) k (vY 4) (nY 4) (aY 4)), (wState (sY 5) k (vY 5) (nY 5) (aY 5)), (wState (sY 6) k (vY 6) (nY 6) (aY 6)), (wState (sY 7) k (vY 7) (nY 7) (aY 7))]) H := hP
                have hD : va_D A (List.flatten [(wMem qM k nz302 az303)] ++ List.flatten [(wSag qX k tapeX (qV 0) actsX nowX trialX (qY 0) attemptX orderSearchX routeSearchX setSearchX (qM 0) slot0X slot1X slot2X slot3X image0X image1X image2X aX), (wValley qV k vV bV cV wV aV eV), (wStoO qY k (qV 0) planY (sY 0 0) (sY 1 0) (sY 2 0) (sY 3 0) (sY 4 0) (sY 5 0) (sY 6 0) (sY 7 0)), (wState (sY 0) k (vY 0) (nY 0) (aY 0)), (wState (sY 1) k (vY 1) (nY 1) (aY 1)), (wState (sY 2) k (vY 2) (nY 2) (aY 2)), (wState (sY 3) k (vY 3) (nY 3) (aY 3)), (wState (sY 4) k (vY 4) (nY 4) (aY 4)), (wState (sY 5) k (vY 5) (nY 5) (aY 5)), (wState (sY 6) k (vY 6) (nY 6) (aY 6)), (wState (sY 7) k (vY 7) (nY 7) (aY 7))]) := hD
                refine W.widen (k := 0) (n := 0) (Nat.le_refl 0) (Nat.le_refl 0) ?_
                refine lv_iload hx hb dX11_free_48 (lv_at hl 2 rfl) ?_
                refine lv_icmp_gt (tgt := 56) hx hb dX11_free_50 (by decide) (fun cz304 => ?_) (fun cz304 => ?_)
                · skip
                  have bz305 := fb_rng rz269
                  have bz306 := fb_rng rz301
                  have zz307 : rz269.toInt < rz301.toInt := zi_lt.mp cz304
                  obtain ⟨xz308, exz308⟩ : ∃ y : Int32, y = xz292 + Int32.ofInt (-1) := ⟨_, rfl⟩
                  have fxz308 : xz308.toInt = xz292.toInt + (-1) := by rw [exz308]; exact fb_addI (y := Int32.ofInt (-1)) (by show -2147483648 ≤ xz292.toInt + (-1); omega) (by show xz292.toInt + (-1) < 2147483648; omega)
                  refine lv_iinc (v := xz308) (lv' := [(5, .int xz308), (0, .ref (qX 0)), (3, .ref (sY 2 5)), (4, .int rz269)]) hx hb dX11_free_56 hl (k := 3) rfl exz308.symm (by decide) rfl (fun ls hl => ?_)
                  refine lv_goto (tgt := 36) hx hb dX11_free_59 (by decide) ?_
                  exact ih36 H locs ls az303 nz302 xz308 (by show (xz308.toInt + 2147483648).toNat < n9_36; omega) hnz302 (by show xz308.toInt ≤ 99; omega) hP hD hS (lv_sub hl [1, 2, 3, 0] rfl)
                · skip
                  have bz309 := fb_rng rz269
                  have bz310 := fb_rng rz301
                  have zz311 : ¬ rz269.toInt < rz301.toInt := fun h9 => cz304 (zi_lt.mpr h9)
                  refine lv_iload hx hb dX11_free_53 (lv_at hl 3 rfl) ?_
                  rw [hQ]
                  exact W.iret (v := xz292) hx hb hr (fun t ht hW => ⟨⟨xz292, (), rfl, trivial, nz302, az303, hnz302, by rw [ht]; exact hP⟩, hS.F ht⟩) hS.2.2 dX11_free_55
          exact lp36_kz293 _ s.heap [] ls aM nM (99 : Int32) (Nat.lt_succ_self _) hnM (by show (99 : Int) ≤ 99; omega) hP hD hS (lv_sub hl [3, 2, 1, 0] rfl)
        · skip
          have zz312 : p1.toInt = (2 : Int) := zi_eq.mp cz221
          refine W.eq (g2 := F0 m 24 ls [.int 2, .ref (sY 2 1)]) (by rw [cz221]) ?_
          refine va_aldq hx hb hK hP 41 4 rfl rfl (by unfold vp_in; decide) dX11_free_24 ?_
          refine W.eq (g2 := F0 m 25 ls [.ref (sY 2 8)]) rfl ?_
          refine lv_astore_n (lv' := [(3, .ref (sY 2 8)), (0, .ref (qX 0)), (1, .int p1), (2, .int p2)]) hx hb dX11_free_25 rfl hl (by decide) rfl (fun ls hl => ?_)
          refine lv_aload_n hx hb dX11_free_26 rfl (lv_at hl 0 rfl) ?_
          have hPc := hP.sub (ws' := (List.flatten [(wMem (fun i => sY 2 (i + 8)) k (fun i => (nY 2) (i + 2)) (fun i => (aY 2) (i + 4)))])) [48, 49, 50] rfl
          refine vp_callSi (va_Run.run (va_runV (As := []) (rest := []) ⟨hx, hb, hml, hown, hts⟩ (c_X2_depth l dC dI k (fun i => sY 2 (i + 8)) (fun i => (nY 2) (i + 2)) (fun i => (aY 2) (i + 4)) (fun i => (hnY 2) (i + 2))) (cwV 0 hts (gk_V (wl_mem 10 rfl) (wl_mem 11 rfl) (wl_mem 12 rfl) (wl_mem 13 rfl) (fun w h => List.mem_cons_of_mem _ (List.mem_append_right _ (List.mem_append_right _ (List.mem_append_right _ (List.mem_append_right _ (List.mem_append_right _ (List.mem_append_left _ h))))))) wkg_c_X2_depth) rfl rfl rfl (by decide +kernel) ⟨Nat.le_of_ble_eq_true rfl, Nat.le_of_ble_eq_true rfl⟩) ⟨fun a U g mk q => by obtain ⟨q0, qP, qK⟩ := q; exact ⟨q0, qP, va_K.moved (u := U) (U := U.calling g mk a) (Vm.Alike.refl U.vm) qK⟩, va_recv hK hPc (ci := 2) (q0 := 0) rfl rfl, fun U hU hW => ⟨rfl, by rw [hU]; exact hPc, va_K.moved hW.alike hK⟩⟩ rfl rfl hl.1 rfl (lv_room (Nat.le_of_ble_eq_true rfl)) dX11_free_27 ⟨Nat.le_of_ble_eq_true rfl, Nat.le_of_ble_eq_true rfl⟩)) (fun rz314 gz313 => ?_)
          clear hPc
          refine lv_istore (lv' := [(4, .int rz314), (3, .ref (sY 2 8)), (0, .ref (qX 0)), (1, .int p1), (2, .int p2)]) hx hb dX11_free_30 hl (by decide) rfl (fun ls hl => ?_)
          refine lv_bipush (v := 99) hx hb dX11_free_32 (by decide) ?_
          refine lv_istore (lv' := [(5, .int 99), (4, .int rz314), (3, .ref (sY 2 8)), (0, .ref (qX 0)), (1, .int p1), (2, .int p2)]) hx hb dX11_free_34 hl (by decide) rfl (fun ls hl => ?_)
          have lp36_kz338 : ∀ (n9_36 : Nat) (H : Heap) (locs : List Loc) (ls : Array Slot) (az335 : Nat → Nat → Int32) (nz336 : Nat → Int32) (xz337 : Int32), (xz337.toInt + 2147483648).toNat < n9_36 → Rg 0 8 nz336 → xz337.toInt ≤ 99 → va_P (dC, dI) vwCl (List.flatten [(wMem qM k nz336 az335)] ++ List.flatten [(wSag qX k tapeX (qV 0) actsX nowX trialX (qY 0) attemptX orderSearchX routeSearchX setSearchX (qM 0) slot0X slot1X slot2X slot3X image0X image1X image2X aX), (wValley qV k vV bV cV wV aV eV), (wStoO qY k (qV 0) planY (sY 0 0) (sY 1 0) (sY 2 0) (sY 3 0) (sY 4 0) (sY 5 0) (sY 6 0) (sY 7 0)), (wState (sY 0) k (vY 0) (nY 0) (aY 0)), (wState (sY 1) k (vY 1) (nY 1) (aY 1)), (wState (sY 2) k (vY 2) (nY 2) (aY 2)), (wState (sY 3) k (vY 3) (nY 3) (aY 3)), (wState (sY 4) k (vY 4) (nY 4) (aY 4)), (wState (sY 5) k (vY 5) (nY 5) (aY 5)), (wState (sY 6) k (vY 6) (nY 6) (aY 6)), (wState (sY 7) k (vY 7) (nY 7) (aY 7))]) H → va_D A (List.flatten [(wMem qM k nz336 az335)] ++ List.flatten [(wSag qX k tapeX (qV 0) actsX nowX trialX (qY 0) attemptX orderSearchX routeSearchX setSearchX (qM 0) slot0X slot1X slot2X slot3X image0X image1X image2X aX), (wValley qV k vV bV cV wV aV eV), (wStoO qY k (qV 0) planY (sY 0 0) (sY 1 0) (sY 2 0) (sY 3 0) (sY 4 0) (sY 5 0) (sY 6 0) (sY 7 0)), (wState (sY 0) k (vY 0) (nY 0) (aY 0)), (wState (sY 1) k (vY 1) (nY 1) (aY 1)), (wState (sY 2) k (vY 2) (nY 2) (aY 2)), (wState (sY 3) k (vY 3) (nY 3) (aY 3)), (wState (sY 4) k (vY 4) (nY 4) (aY 4)), (wState (sY 5) k (vY 5) (nY 5) (aY 5)), (wState (sY 6) k (vY 6) (nY 6) (aY 6)), (wState (sY 7) k (vY 7) (nY 7) (aY 7))]) → va_S A s.heap H locs → lv_has ls 6 [(0, .ref (qX 0)), (3, .ref (sY 2 8)), (4, .int rz314), (5, .int xz337)] → W p l e (headSpec wk_c_X11_free ({ frames := 2, cells := 0, slots := 0, locals := 49 })).room s m ([.ref (qX 0), .int p1, .int p2] : List Value).toArray below meth c H locs 0 0 Q (F0 m 36 ls []) := by
            intro n9_36
            induction n9_36 with
            | zero => intro H locs ls az335 nz336 xz337 hm; exact absurd hm (Nat.not_lt_zero _)
            | succ n9_36 ih36 =>
              intro H locs ls az335 nz336 xz337 hm36 hnz336 jz339 hP hD hS hl
              refine lv_iload hx hb dX11_free_36 (lv_at hl 3 rfl) ?_
              refine lv_if_le (tgt := 62) hx hb dX11_free_38 (by decide) (fun cz340 => ?_) (fun cz340 => ?_)
              · skip
                have bz341 := fb_rng xz337
                have zz342 : xz337.toInt ≤ (0 : Int) := zi_le.mp cz340
                refine lv_iconst (v := 0) hx hb dX11_free_62 (by decide) ?_
                rw [hQ]
                exact W.iret (v := (0 : Int32)) hx hb hr (fun t ht hW => ⟨⟨(0 : Int32), (), rfl, trivial, nz336, az335, hnz336, by rw [ht]; exact hP⟩, hS.F ht⟩) hS.2.2 dX11_free_63
              · skip
                have bz343 := fb_rng xz337
                have zz344 : ¬ xz337.toInt ≤ (0 : Int) := fun h9 => cz340 (zi_le.mpr h9)
                refine lv_aload_n hx hb dX11_free_41 rfl (lv_at hl 0 rfl) ?_
                refine lv_aload_n hx hb dX11_free_42 rfl (lv_at hl 1 rfl) ?_
                refine lv_iload hx hb dX11_free_43 (lv_at hl 3 rfl) ?_
                have hPc := hP.sub (ws' := (List.flatten [(wMem qM k nz336 az335)] ++ List.flatten [(wSag qX k tapeX (qV 0) actsX nowX trialX (qY 0) attemptX orderSearchX routeSearchX setSearchX (qM 0) slot0X slot1X slot2X slot3X image0X image1X image2X aX), (wValley qV k vV bV cV wV aV eV), (wMem (fun i => sY 2 (i + 8)) k (fun i => (nY 2) (i + 2)) (fun i => (aY 2) (i + 4)))])) [0, 1, 2, 3, 4, 5, 6, 7, 8, 9, 10, 11, 12, 13, 14, 15, 48, 49, 50] rfl
                have hC : [0, 1, 2, 3, 4, 5, 6, 7, 8, 9, 10, 11, 12, 13, 14, 15, 48, 49, 50].map (fun i => (List.flatten [(wMem qM k nz336 az335)] ++ List.flatten [(wSag qX k tapeX (qV 0) actsX nowX trialX (qY 0) attemptX orderSearchX routeSearchX setSearchX (qM 0) slot0X slot1X slot2X slot3X image0X image1X image2X aX), (wValley qV k vV bV cV wV aV eV), (wStoO qY k (qV 0) planY (sY 0 0) (sY 1 0) (sY 2 0) (sY 3 0) (sY 4 0) (sY 5 0) (sY 6 0) (sY 7 0)), (wState (sY 0) k (vY 0) (nY 0) (aY 0)), (wState (sY 1) k (vY 1) (nY 1) (aY 1)), (wState (sY 2) k (vY 2) (nY 2) (aY 2)), (wState (sY 3) k (vY 3) (nY 3) (aY 3)), (wState (sY 4) k (vY 4) (nY 4) (aY 4)), (wState (sY 5) k (vY 5) (nY 5) (aY 5)), (wState (sY 6) k (vY 6) (nY 6) (aY 6)), (wState (sY 7) k (vY 7) (nY 7) (aY 7))])[i]?) = (List.flatten [(wMem qM k nz336 az335)] ++ List.flatten [(wSag qX k tapeX (qV 0) actsX nowX trialX (qY 0) attemptX orderSearchX routeSearchX setSearchX (qM 0) slot0X slot1X slot2X slot3X image0X image1X image2X aX), (wValley qV k vV bV cV wV aV eV), (wMem (fun i => sY 2 (i + 8)) k (fun i => (nY 2) (i + 2)) (fun i => (aY 2) (i + 4)))]).map some := rfl
                have hDc := hD.sub [0, 1, 2, 3, 4, 5, 6, 7, 8, 9, 10, 11, 12, 13, 14, 15, 48, 49, 50] (by decide) hC
                have hFc := va_free hD hS hA [0, 1, 2, 3, 4, 5, 6, 7, 8, 9, 10, 11, 12, 13, 14, 15, 48, 49, 50] hC
                refine va_calli (va_runV (As := [.ref (sY 2 8), .int xz337]) (rest := []) ⟨hx, hb, hml, hown, hts⟩ (c_X11_depthWith l dC dI k H.size qX tapeX actsX nowX trialX (qY 0) attemptX orderSearchX routeSearchX setSearchX slot0X slot1X slot2X slot3X image0X image1X image2X aX qV vV bV cV wV aV eV qM nz336 az335 (fun i => sY 2 (i + 8)) (fun i => (nY 2) (i + 2)) (fun i => (aY 2) (i + 4)) xz337 hbV hcV hwV heV hnz336 (fun i => (hnY 2) (i + 2)) (by show 0 ≤ xz337.toInt ∧ xz337.toInt ≤ 99; omega)) (cwV 2 hts (gk_V (wl_mem 14 rfl) (wl_mem 15 rfl) (wl_mem 16 rfl) (wl_mem 3 rfl) (fun w h => List.mem_cons_of_mem _ (List.mem_append_right _ (List.mem_append_right _ (List.mem_append_right _ (List.mem_append_right _ (List.mem_append_right _ (List.mem_append_right _ (List.mem_append_left _ h)))))))) wkg_c_X11_depthWith) rfl rfl rfl (by decide +kernel) ⟨Nat.le_of_ble_eq_true rfl, Nat.le_of_ble_eq_true rfl⟩) ⟨fun a U g mk q => by obtain ⟨q0, q1, qP, qK, qD⟩ := q; exact ⟨q0, q1, qP, va_K.moved (u := U) (U := U.calling g mk a) (Vm.Alike.refl U.vm) qK, qD⟩, va_recv hK hPc (ci := 11) (q0 := 3) rfl rfl, fun U hU hW => ⟨rfl, by rw [hU], by rw [hU]; exact hPc, va_K.moved hW.alike hK, hDc.weaken (fun _ _ _ _ => trivial)⟩⟩ rfl rfl hl.1 rfl (lv_room (Nat.le_of_ble_eq_true rfl)) dX11_free_45 ⟨Nat.le_of_ble_eq_true rfl, Nat.le_of_ble_eq_true rfl⟩) hS (fun q _ h => hFc q h) hFc (fun rz346 u t H1 locs ht hvm gz345 hB hz1 hk1 hS => ?_)
                obtain ⟨nz347, az348, hnz347, hP1⟩ := hB
                rw [ht] at hP1
                obtain ⟨hP, hD⟩ := w_callR hP hD hk1 hP1 [0] rfl rfl (wk_mem [3, 4, 5, 6, 7, 8, 9, 10, 11, 12, 13, 14, 15, 48, 49, 50] rfl) rfl [some 0] rfl rfl
                clear hPc hC hDc hFc hk1 hP1
                generalize H1 = H at hP hS ⊢
                have hP : va_P (dC, dI) vwCl (List.flatten [(wMem qM k nz347 az348)] ++ List.flatten [(wSag qX k tapeX (qV 0) actsX nowX trialX (qY 0) attemptX orderSearchX routeSearchX setSearchX (qM 0) slot0X slot1X slot2X slot3X image0X image1X image2X aX), (wValley qV k vV bV cV wV aV eV), (wStoO qY k (qV 0) planY (sY 0 0) (sY 1 0) (sY 2 0) (sY 3 0) (sY 4 0) (sY 5 0) (sY 6 0) (sY 7 0)), (wState (sY 0) k (vY 0) (nY 0) (aY 0)), (wState (sY 1) k (vY 1) (nY 1) (aY 1)), (wState (sY 2) k (vY 2) (nY 2) (aY 2)), (wState (sY 3) k (vY 3) (nY 3) (aY 3)), (wState (sY 4) k (vY 4) (nY 4) (aY 4)), (wState (sY 5) k (vY 5) (nY 5) (aY 5)), (wState (sY 6) k (vY 6) (nY 6) (aY 6)), (wState (sY 7) k (vY 7) (nY 7) (aY 7))]) H := hP
                have hD : va_D A (List.flatten [(wMem qM k nz347 az348)] ++ List.flatten [(wSag qX k tapeX (qV 0) actsX nowX trialX (qY 0) attemptX orderSearchX routeSearchX setSearchX (qM 0) slot0X slot1X slot2X slot3X image0X image1X image2X aX), (wValley qV k vV bV cV wV aV eV), (wStoO qY k (qV 0) planY (sY 0 0) (sY 1 0) (sY 2 0) (sY 3 0) (sY 4 0) (sY 5 0) (sY 6 0) (sY 7 0)), (wState (sY 0) k (vY 0) (nY 0) (aY 0)), (wState (sY 1) k (vY 1) (nY 1) (aY 1)), (wState (sY 2) k (vY 2) (nY 2) (aY 2)), (wState (sY 3) k (vY 3) (nY 3) (aY 3)), (wState (sY 4) k (vY 4) (nY 4) (aY 4)), (wState (sY 5) k (vY 5) (nY 5) (aY 5)), (wState (sY 6) k (vY 6) (nY 6) (aY 6)), (wState (sY 7) k (vY 7) (nY 7) (aY 7))]) := hD
                refine W.widen (k := 0) (n := 0) (Nat.le_refl 0) (Nat.le_refl 0) ?_
                refine lv_iload hx hb dX11_free_48 (lv_at hl 2 rfl) ?_
                refine lv_icmp_gt (tgt := 56) hx hb dX11_free_50 (by decide) (fun cz349 => ?_) (fun cz349 => ?_)
                · skip
                  have bz350 := fb_rng rz314
                  have bz351 := fb_rng rz346
                  have zz352 : rz314.toInt < rz346.toInt := zi_lt.mp cz349
                  obtain ⟨xz353, exz353⟩ : ∃ y : Int32, y = xz337 + Int32.ofInt (-1) := ⟨_, rfl⟩
                  have fxz353 : xz353.toInt = xz337.toInt + (-1) := by rw [exz353]; exact fb_addI (y := Int32.ofInt (-1)) (by show -2147483648 ≤ xz337.toInt + (-1); omega) (by show xz337.toInt + (-1) < 2147483648; omega)
                  refine lv_iinc (v := xz353) (lv' := [(5, .int xz353), (0, .ref (qX 0)), (3, .ref (sY 2 8)), (4, .int rz314)]) hx hb dX11_free_56 hl (k := 3) rfl exz353.symm (by decide) rfl (fun ls hl => ?_)
                  refine lv_goto (tgt := 36) hx hb dX11_free_59 (by decide) ?_
                  exact ih36 H locs ls az348 nz347 xz353 (by show (xz353.toInt + 2147483648).toNat < n9_36; omega) hnz347 (by show xz353.toInt ≤ 99; omega) hP hD hS (lv_sub hl [1, 2, 3, 0] rfl)
                · skip
                  have bz354 := fb_rng rz314
                  have bz355 := fb_rng rz346
                  have zz356 : ¬ rz314.toInt < rz346.toInt := fun h9 => cz349 (zi_lt.mpr h9)
                  refine lv_iload hx hb dX11_free_53 (lv_at hl 3 rfl) ?_
                  rw [hQ]
                  exact W.iret (v := xz337) hx hb hr (fun t ht hW => ⟨⟨xz337, (), rfl, trivial, nz347, az348, hnz347, by rw [ht]; exact hP⟩, hS.F ht⟩) hS.2.2 dX11_free_55
          exact lp36_kz338 _ s.heap [] ls aM nM (99 : Int32) (Nat.lt_succ_self _) hnM (by show (99 : Int) ≤ 99; omega) hP hD hS (lv_sub hl [3, 2, 1, 0] rfl)
      · skip
        have zz357 : ¬ p2.toInt < (0 : Int) := fun h9 => cz61 (zi_lt.mpr h9)
        have zz358 : ¬ (7 : Int) ≤ p2.toInt := fun h9 => cz62 (zi_le.mpr h9)
        have zz359 : p2.toInt = (2 : Int) := zi_eq.mp cz63
        refine W.eq (g2 := F0 m 20 ls [.ref (sY 3 0)]) rfl ?_
        refine va_get (D := (dC, dI)) (ci := 7) (v := .ref (sY 3 1)) (C := RX7) (T := TX7) (N := 9) hx hb hts (fun w h => List.mem_cons_of_mem _ (List.mem_append_right _ (List.mem_append_right _ (List.mem_append_right _ (List.mem_append_right _ (List.mem_append_left _ h)))))) hown hK hP 51 rfl rfl 0 (by decide) (hts (.fieldLink RX11 194 "SagMemory$State" "memories" "[LSagMemory$Memory;") (wl_mem 9 rfl)) (fun _ h9 => h9) rfl dX11_free_20 ?_
        refine lv_iload_n hx hb dX11_free_23 rfl (lv_at hl 1 rfl) ?_
        rcases (show p1 = 0 ∨ p1 = 1 ∨ p1 = 2 by simp only [zi_eq]; show p1.toInt = 0 ∨ p1.toInt = 1 ∨ p1.toInt = 2; omega) with cz360 | cz360 | cz360
        · skip
          have zz361 : p1.toInt = (0 : Int) := zi_eq.mp cz360
          refine W.eq (g2 := F0 m 24 ls [.int 0, .ref (sY 3 1)]) (by rw [cz360]) ?_
          refine va_aldq hx hb hK hP 52 4 rfl rfl (by unfold vp_in; decide) dX11_free_24 ?_
          refine W.eq (g2 := F0 m 25 ls [.ref (sY 3 2)]) rfl ?_
          refine lv_astore_n (lv' := [(3, .ref (sY 3 2)), (0, .ref (qX 0)), (1, .int p1), (2, .int p2)]) hx hb dX11_free_25 rfl hl (by decide) rfl (fun ls hl => ?_)
          refine lv_aload_n hx hb dX11_free_26 rfl (lv_at hl 0 rfl) ?_
          have hPc := hP.sub (ws' := (List.flatten [(wMem (fun i => sY 3 (i + 2)) k (nY 3) (aY 3))])) [53, 54, 55] rfl
          refine vp_callSi (va_Run.run (va_runV (As := []) (rest := []) ⟨hx, hb, hml, hown, hts⟩ (c_X2_depth l dC dI k (fun i => sY 3 (i + 2)) (nY 3) (aY 3) (hnY 3)) (cwV 0 hts (gk_V (wl_mem 10 rfl) (wl_mem 11 rfl) (wl_mem 12 rfl) (wl_mem 13 rfl) (fun w h => List.mem_cons_of_mem _ (List.mem_append_right _ (List.mem_append_right _ (List.mem_append_right _ (List.mem_append_right _ (List.mem_append_right _ (List.mem_append_left _ h))))))) wkg_c_X2_depth) rfl rfl rfl (by decide +kernel) ⟨Nat.le_of_ble_eq_true rfl, Nat.le_of_ble_eq_true rfl⟩) ⟨fun a U g mk q => by obtain ⟨q0, qP, qK⟩ := q; exact ⟨q0, qP, va_K.moved (u := U) (U := U.calling g mk a) (Vm.Alike.refl U.vm) qK⟩, va_recv hK hPc (ci := 2) (q0 := 0) rfl rfl, fun U hU hW => ⟨rfl, by rw [hU]; exact hPc, va_K.moved hW.alike hK⟩⟩ rfl rfl hl.1 rfl (lv_room (Nat.le_of_ble_eq_true rfl)) dX11_free_27 ⟨Nat.le_of_ble_eq_true rfl, Nat.le_of_ble_eq_true rfl⟩)) (fun rz363 gz362 => ?_)
          clear hPc
          refine lv_istore (lv' := [(4, .int rz363), (3, .ref (sY 3 2)), (0, .ref (qX 0)), (1, .int p1), (2, .int p2)]) hx hb dX11_free_30 hl (by decide) rfl (fun ls hl => ?_)
          refine lv_bipush (v := 99) hx hb dX11_free_32 (by decide) ?_
          refine lv_istore (lv' := [(5, .int 99), (4, .int rz363), (3, .ref (sY 3 2)), (0, .ref (qX 0)), (1, .int p1), (2, .int p2)]) hx hb dX11_free_34 hl (by decide) rfl (fun ls hl => ?_)
          have lp36_kz387 : ∀ (n9_36 : Nat) (H : Heap) (locs : List Loc) (ls : Array Slot) (az384 : Nat → Nat → Int32) (nz385 : Nat → Int32) (xz386 : Int32), (xz386.toInt + 2147483648).toNat < n9_36 → Rg 0 8 nz385 → xz386.toInt ≤ 99 → va_P (dC, dI) vwCl (List.flatten [(wMem qM k nz385 az384)] ++ List.flatten [(wSag qX k tapeX (qV 0) actsX nowX trialX (qY 0) attemptX orderSearchX routeSearchX setSearchX (qM 0) slot0X slot1X slot2X slot3X image0X image1X image2X aX), (wValley qV k vV bV cV wV aV eV), (wStoO qY k (qV 0) planY (sY 0 0) (sY 1 0) (sY 2 0) (sY 3 0) (sY 4 0) (sY 5 0) (sY 6 0) (sY 7 0)), (wState (sY 0) k (vY 0) (nY 0) (aY 0)), (wState (sY 1) k (vY 1) (nY 1) (aY 1)), (wState (sY 2) k (vY 2) (nY 2) (aY 2)), (wState (sY 3) k (vY 3) (nY 3) (aY 3)), (wState (sY 4) k (vY 4) (nY 4) (aY 4)), (wState (sY 5) k (vY 5) (nY 5) (aY 5)), (wState (sY 6) k (vY 6) (nY 6) (aY 6)), (wState (sY 7) k (vY 7) (nY 7) (aY 7))]) H → va_D A (List.flatten [(wMem qM k nz385 az384)] ++ List.flatten [(wSag qX k tapeX (qV 0) actsX nowX trialX (qY 0) attemptX orderSearchX routeSearchX setSearchX (qM 0) slot0X slot1X slot2X slot3X image0X image1X image2X aX), (wValley qV k vV bV cV wV aV eV), (wStoO qY k (qV 0) planY (sY 0 0) (sY 1 0) (sY 2 0) (sY 3 0) (sY 4 0) (sY 5 0) (sY 6 0) (sY 7 0)), (wState (sY 0) k (vY 0) (nY 0) (aY 0)), (wState (sY 1) k (vY 1) (nY 1) (aY 1)), (wState (sY 2) k (vY 2) (nY 2) (aY 2)), (wState (sY 3) k (vY 3) (nY 3) (aY 3)), (wState (sY 4) k (vY 4) (nY 4) (aY 4)), (wState (sY 5) k (vY 5) (nY 5) (aY 5)), (wState (sY 6) k (vY 6) (nY 6) (aY 6)), (wState (sY 7) k (vY 7) (nY 7) (aY 7))]) → va_S A s.heap H locs → lv_has ls 6 [(0, .ref (qX 0)), (3, .ref (sY 3 2)), (4, .int rz363), (5, .int xz386)] → W p l e (headSpec wk_c_X11_free ({ frames := 2, cells := 0, slots := 0, locals := 49 })).room s m ([.ref (qX 0), .int p1, .int p2] : List Value).toArray below meth c H locs 0 0 Q (F0 m 36 ls []) := by
            intro n9_36
            induction n9_36 with
            | zero => intro H locs ls az384 nz385 xz386 hm; exact absurd hm (Nat.not_lt_zero _)
            | succ n9_36 ih36 =>
              intro H locs ls az384 nz385 xz386 hm36 hnz385 jz388 hP hD hS hl
              refine lv_iload hx hb dX11_free_36 (lv_at hl 3 rfl) ?_
              refine lv_if_le (tgt := 62) hx hb dX11_free_38 (by decide) (fun cz389 => ?_) (fun cz389 => ?_)
              · skip
                have bz390 := fb_rng xz386
                have zz391 : xz386.toInt ≤ (0 : Int) := zi_le.mp cz389
                refine lv_iconst (v := 0) hx hb dX11_free_62 (by decide) ?_
                rw [hQ]
                exact W.iret (v := (0 : Int32)) hx hb hr (fun t ht hW => ⟨⟨(0 : Int32), (), rfl, trivial, nz385, az384, hnz385, by rw [ht]; exact hP⟩, hS.F ht⟩) hS.2.2 dX11_free_63
              · skip
                have bz392 := fb_rng xz386
                have zz393 : ¬ xz386.toInt ≤ (0 : Int) := fun h9 => cz389 (zi_le.mpr h9)
                refine lv_aload_n hx hb dX11_free_41 rfl (lv_at hl 0 rfl) ?_
                refine lv_aload_n hx hb dX11_free_42 rfl (lv_at hl 1 rfl) ?_
                refine lv_iload hx hb dX11_free_43 (lv_at hl 3 rfl) ?_
                have hPc := hP.sub (ws' := (List.flatten [(wMem qM k nz385 az384)] ++ List.flatten [(wSag qX k tapeX (qV 0) actsX nowX trialX (qY 0) attemptX orderSearchX routeSearchX setSearchX (qM 0) slot0X slot1X slot2X slot3X image0X image1X image2X aX), (wValley qV k vV bV cV wV aV eV), (wMem (fun i => sY 3 (i + 2)) k (nY 3) (aY 3))])) [0, 1, 2, 3, 4, 5, 6, 7, 8, 9, 10, 11, 12, 13, 14, 15, 53, 54, 55] rfl
                have hC : [0, 1, 2, 3, 4, 5, 6, 7, 8, 9, 10, 11, 12, 13, 14, 15, 53, 54, 55].map (fun i => (List.flatten [(wMem qM k nz385 az384)] ++ List.flatten [(wSag qX k tapeX (qV 0) actsX nowX trialX (qY 0) attemptX orderSearchX routeSearchX setSearchX (qM 0) slot0X slot1X slot2X slot3X image0X image1X image2X aX), (wValley qV k vV bV cV wV aV eV), (wStoO qY k (qV 0) planY (sY 0 0) (sY 1 0) (sY 2 0) (sY 3 0) (sY 4 0) (sY 5 0) (sY 6 0) (sY 7 0)), (wState (sY 0) k (vY 0) (nY 0) (aY 0)), (wState (sY 1) k (vY 1) (nY 1) (aY 1)), (wState (sY 2) k (vY 2) (nY 2) (aY 2)), (wState (sY 3) k (vY 3) (nY 3) (aY 3)), (wState (sY 4) k (vY 4) (nY 4) (aY 4)), (wState (sY 5) k (vY 5) (nY 5) (aY 5)), (wState (sY 6) k (vY 6) (nY 6) (aY 6)), (wState (sY 7) k (vY 7) (nY 7) (aY 7))])[i]?) = (List.flatten [(wMem qM k nz385 az384)] ++ List.flatten [(wSag qX k tapeX (qV 0) actsX nowX trialX (qY 0) attemptX orderSearchX routeSearchX setSearchX (qM 0) slot0X slot1X slot2X slot3X image0X image1X image2X aX), (wValley qV k vV bV cV wV aV eV), (wMem (fun i => sY 3 (i + 2)) k (nY 3) (aY 3))]).map some := rfl
                have hDc := hD.sub [0, 1, 2, 3, 4, 5, 6, 7, 8, 9, 10, 11, 12, 13, 14, 15, 53, 54, 55] (by decide) hC
                have hFc := va_free hD hS hA [0, 1, 2, 3, 4, 5, 6, 7, 8, 9, 10, 11, 12, 13, 14, 15, 53, 54, 55] hC
                refine va_calli (va_runV (As := [.ref (sY 3 2), .int xz386]) (rest := []) ⟨hx, hb, hml, hown, hts⟩ (c_X11_depthWith l dC dI k H.size qX tapeX actsX nowX trialX (qY 0) attemptX orderSearchX routeSearchX setSearchX slot0X slot1X slot2X slot3X image0X image1X image2X aX qV vV bV cV wV aV eV qM nz385 az384 (fun i => sY 3 (i + 2)) (nY 3) (aY 3) xz386 hbV hcV hwV heV hnz385 (hnY 3) (by show 0 ≤ xz386.toInt ∧ xz386.toInt ≤ 99; omega)) (cwV 2 hts (gk_V (wl_mem 14 rfl) (wl_mem 15 rfl) (wl_mem 16 rfl) (wl_mem 3 rfl) (fun w h => List.mem_cons_of_mem _ (List.mem_append_right _ (List.mem_append_right _ (List.mem_append_right _ (List.mem_append_right _ (List.mem_append_right _ (List.mem_append_right _ (List.mem_append_left _ h)))))))) wkg_c_X11_depthWith) rfl rfl rfl (by decide +kernel) ⟨Nat.le_of_ble_eq_true rfl, Nat.le_of_ble_eq_true rfl⟩) ⟨fun a U g mk q => by obtain ⟨q0, q1, qP, qK, qD⟩ := q; exact ⟨q0, q1, qP, va_K.moved (u := U) (U := U.calling g mk a) (Vm.Alike.refl U.vm) qK, qD⟩, va_recv hK hPc (ci := 11) (q0 := 3) rfl rfl, fun U hU hW => ⟨rfl, by rw [hU], by rw [hU]; exact hPc, va_K.moved hW.alike hK, hDc.weaken (fun _ _ _ _ => trivial)⟩⟩ rfl rfl hl.1 rfl (lv_room (Nat.le_of_ble_eq_true rfl)) dX11_free_45 ⟨Nat.le_of_ble_eq_true rfl, Nat.le_of_ble_eq_true rfl⟩) hS (fun q _ h => hFc q h) hFc (fun rz395 u t H1 locs ht hvm gz394 hB hz1 hk1 hS => ?_)
                obtain ⟨nz396, az397, hnz396, hP1⟩ := hB
                rw [ht] at hP1
                obtain ⟨hP, hD⟩ := w_callR hP hD hk1 hP1 [0] rfl rfl (wk_mem [3, 4, 5, 6, 7, 8, 9, 10, 11, 12, 13, 14, 15, 53, 54, 55] rfl) rfl [some 0] rfl rfl
                clear hPc hC hDc hFc hk1 hP1
                generalize H1 = H at hP hS ⊢
                have hP : va_P (dC, dI) vwCl (List.flatten [(wMem qM k nz396 az397)] ++ List.flatten [(wSag qX k tapeX (qV 0) actsX nowX trialX (qY 0) attemptX orderSearchX routeSearchX setSearchX (qM 0) slot0X slot1X slot2X slot3X image0X image1X image2X aX), (wValley qV k vV bV cV wV aV eV), (wStoO qY k (qV 0) planY (sY 0 0) (sY 1 0) (sY 2 0) (sY 3 0) (sY 4 0) (sY 5 0) (sY 6 0) (sY 7 0)), (wState (sY 0) k (vY 0) (nY 0) (aY 0)), (wState (sY 1) k (vY 1) (nY 1) (aY 1)), (wState (sY 2) k (vY 2) (nY 2) (aY 2)), (wState (sY 3) k (vY 3) (nY 3) (aY 3)), (wState (sY 4) k (vY 4) (nY 4) (aY 4)), (wState (sY 5) k (vY 5) (nY 5) (aY 5)), (wState (sY 6) k (vY 6) (nY 6) (aY 6)), (wState (sY 7) k (vY 7) (nY 7) (aY 7))]) H := hP
                have hD : va_D A (List.flatten [(wMem qM k nz396 az397)] ++ List.flatten [(wSag qX k tapeX (qV 0) actsX nowX trialX (qY 0) attemptX orderSearchX routeSearchX setSearchX (qM 0) slot0X slot1X slot2X slot3X image0X image1X image2X aX), (wValley qV k vV bV cV wV aV eV), (wStoO qY k (qV 0) planY (sY 0 0) (sY 1 0) (sY 2 0) (sY 3 0) (sY 4 0) (sY 5 0) (sY 6 0) (sY 7 0)), (wState (sY 0) k (vY 0) (nY 0) (aY 0)), (wState (sY 1) k (vY 1) (nY 1) (aY 1)), (wState (sY 2) k (vY 2) (nY 2) (aY 2)), (wState (sY 3) k (vY 3) (nY 3) (aY 3)), (wState (sY 4) k (vY 4) (nY 4) (aY 4)), (wState (sY 5) k (vY 5) (nY 5) (aY 5)), (wState (sY 6) k (vY 6) (nY 6) (aY 6)), (wState (sY 7) k (vY 7) (nY 7) (aY 7))]) := hD
                refine W.widen (k := 0) (n := 0) (Nat.le_refl 0) (Nat.le_refl 0) ?_
                refine lv_iload hx hb dX11_free_48 (lv_at hl 2 rfl) ?_
                refine lv_icmp_gt (tgt := 56) hx hb dX11_free_50 (by decide) (fun cz398 => ?_) (fun cz398 => ?_)
                · skip
                  have bz399 := fb_rng rz363
                  have bz400 := fb_rng rz395
                  have zz401 : rz363.toInt < rz395.toInt := zi_lt.mp cz398
                  obtain ⟨xz402, exz402⟩ : ∃ y : Int32, y = xz386 + Int32.ofInt (-1) := ⟨_, rfl⟩
                  have fxz402 : xz402.toInt = xz386.toInt + (-1) := by rw [exz402]; exact fb_addI (y := Int32.ofInt (-1)) (by show -2147483648 ≤ xz386.toInt + (-1); omega) (by show xz386.toInt + (-1) < 2147483648; omega)
                  refine lv_iinc (v := xz402) (lv' := [(5, .int xz402), (0, .ref (qX 0)), (3, .ref (sY 3 2)), (4, .int rz363)]) hx hb dX11_free_56 hl (k := 3) rfl exz402.symm (by decide) rfl (fun ls hl => ?_)
                  refine lv_goto (tgt := 36) hx hb dX11_free_59 (by decide) ?_
                  exact ih36 H locs ls az397 nz396 xz402 (by show (xz402.toInt + 2147483648).toNat < n9_36; omega) hnz396 (by show xz402.toInt ≤ 99; omega) hP hD hS (lv_sub hl [1, 2, 3, 0] rfl)
                · skip
                  have bz403 := fb_rng rz363
                  have bz404 := fb_rng rz395
                  have zz405 : ¬ rz363.toInt < rz395.toInt := fun h9 => cz398 (zi_lt.mpr h9)
                  refine lv_iload hx hb dX11_free_53 (lv_at hl 3 rfl) ?_
                  rw [hQ]
                  exact W.iret (v := xz386) hx hb hr (fun t ht hW => ⟨⟨xz386, (), rfl, trivial, nz396, az397, hnz396, by rw [ht]; exact hP⟩, hS.F ht⟩) hS.2.2 dX11_free_55
          exact lp36_kz387 _ s.heap [] ls aM nM (99 : Int32) (Nat.lt_succ_self _) hnM (by show (99 : Int) ≤ 99; omega) hP hD hS (lv_sub hl [3, 2, 1, 0] rfl)
        · skip
          have zz406 : p1.toInt = (1 : Int) := zi_eq.mp cz360
          refine W.eq (g2 := F0 m 24 ls [.int 1, .ref (sY 3 1)]) (by rw [cz360]) ?_
          refine va_aldq hx hb hK hP 52 4 rfl rfl (by unfold vp_in; decide) dX11_free_24 ?_
          refine W.eq (g2 := F0 m 25 ls [.ref (sY 3 5)]) rfl ?_
          refine lv_astore_n (lv' := [(3, .ref (sY 3 5)), (0, .ref (qX 0)), (1, .int p1), (2, .int p2)]) hx hb dX11_free_25 rfl hl (by decide) rfl (fun ls hl => ?_)
          refine lv_aload_n hx hb dX11_free_26 rfl (lv_at hl 0 rfl) ?_
          have hPc := hP.sub (ws' := (List.flatten [(wMem (fun i => sY 3 (i + 5)) k (fun i => (nY 3) (i + 1)) (fun i => (aY 3) (i + 2)))])) [56, 57, 58] rfl
          refine vp_callSi (va_Run.run (va_runV (As := []) (rest := []) ⟨hx, hb, hml, hown, hts⟩ (c_X2_depth l dC dI k (fun i => sY 3 (i + 5)) (fun i => (nY 3) (i + 1)) (fun i => (aY 3) (i + 2)) (fun i => (hnY 3) (i + 1))) (cwV 0 hts (gk_V (wl_mem 10 rfl) (wl_mem 11 rfl) (wl_mem 12 rfl) (wl_mem 13 rfl) (fun w h => List.mem_cons_of_mem _ (List.mem_append_right _ (List.mem_append_right _ (List.mem_append_right _ (List.mem_append_right _ (List.mem_append_right _ (List.mem_append_left _ h))))))) wkg_c_X2_depth) rfl rfl rfl (by decide +kernel) ⟨Nat.le_of_ble_eq_true rfl, Nat.le_of_ble_eq_true rfl⟩) ⟨fun a U g mk q => by obtain ⟨q0, qP, qK⟩ := q; exact ⟨q0, qP, va_K.moved (u := U) (U := U.calling g mk a) (Vm.Alike.refl U.vm) qK⟩, va_recv hK hPc (ci := 2) (q0 := 0) rfl rfl, fun U hU hW => ⟨rfl, by rw [hU]; exact hPc, va_K.moved hW.alike hK⟩⟩ rfl rfl hl.1 rfl (lv_room (Nat.le_of_ble_eq_true rfl)) dX11_free_27 ⟨Nat.le_of_ble_eq_true rfl, Nat.le_of_ble_eq_true rfl⟩)) (fun rz408 gz407 => ?_)
          clear hPc
          refine lv_istore (lv' := [(4, .int rz408), (3, .ref (sY 3 5)), (0, .ref (qX 0)), (1, .int p1), (2, .int p2)]) hx hb dX11_free_30 hl (by decide) rfl (fun ls hl => ?_)
          refine lv_bipush (v := 99) hx hb dX11_free_32 (by decide) ?_
          refine lv_istore (lv' := [(5, .int 99), (4, .int rz408), (3, .ref (sY 3 5)), (0, .ref (qX 0)), (1, .int p1), (2, .int p2)]) hx hb dX11_free_34 hl (by decide) rfl (fun ls hl => ?_)
          have lp36_kz432 : ∀ (n9_36 : Nat) (H : Heap) (locs : List Loc) (ls : Array Slot) (az429 : Nat → Nat → Int32) (nz430 : Nat → Int32) (xz431 : Int32), (xz431.toInt + 2147483648).toNat < n9_36 → Rg 0 8 nz430 → xz431.toInt ≤ 99 → va_P (dC, dI) vwCl (List.flatten [(wMem qM k nz430 az429)] ++ List.flatten [(wSag qX k tapeX (qV 0) actsX nowX trialX (qY 0) attemptX orderSearchX routeSearchX setSearchX (qM 0) slot0X slot1X slot2X slot3X image0X image1X image2X aX), (wValley qV k vV bV cV wV aV eV), (wStoO qY k (qV 0) planY (sY 0 0) (sY 1 0) (sY 2 0) (sY 3 0) (sY 4 0) (sY 5 0) (sY 6 0) (sY 7 0)), (wState (sY 0) k (vY 0) (nY 0) (aY 0)), (wState (sY 1) k (vY 1) (nY 1) (aY 1)), (wState (sY 2) k (vY 2) (nY 2) (aY 2)), (wState (sY 3) k (vY 3) (nY 3) (aY 3)), (wState (sY 4) k (vY 4) (nY 4) (aY 4)), (wState (sY 5) k (vY 5) (nY 5) (aY 5)), (wState (sY 6) k (vY 6) (nY 6) (aY 6)), (wState (sY 7) k (vY 7) (nY 7) (aY 7))]) H → va_D A (List.flatten [(wMem qM k nz430 az429)] ++ List.flatten [(wSag qX k tapeX (qV 0) actsX nowX trialX (qY 0) attemptX orderSearchX routeSearchX setSearchX (qM 0) slot0X slot1X slot2X slot3X image0X image1X image2X aX), (wValley qV k vV bV cV wV aV eV), (wStoO qY k (qV 0) planY (sY 0 0) (sY 1 0) (sY 2 0) (sY 3 0) (sY 4 0) (sY 5 0) (sY 6 0) (sY 7 0)), (wState (sY 0) k (vY 0) (nY 0) (aY 0)), (wState (sY 1) k (vY 1) (nY 1) (aY 1)), (wState (sY 2) k (vY 2) (nY 2) (aY 2)), (wState (sY 3) k (vY 3) (nY 3) (aY 3)), (wState (sY 4) k (vY 4) (nY 4) (aY 4)), (wState (sY 5) k (vY 5) (nY 5) (aY 5)), (wState (sY 6) k (vY 6) (nY 6) (aY 6)), (wState (sY 7) k (vY 7) (nY 7) (aY 7))]) → va_S A s.heap H locs → lv_has ls 6 [(0, .ref (qX 0)), (3, .ref (sY 3 5)), (4, .int rz408), (5, .int xz431)] → W p l e (headSpec wk_c_X11_free ({ frames := 2, cells := 0, slots := 0, locals := 49 })).room s m ([.ref (qX 0), .int p1, .int p2] : List Value).toArray below meth c H locs 0 0 Q (F0 m 36 ls []) := by
            intro n9_36
            induction n9_36 with
            | zero => intro H locs ls az429 nz430 xz431 hm; exact absurd hm (Nat.not_lt_zero _)
            | succ n9_36 ih36 =>
              intro H locs ls az429 nz430 xz431 hm36 hnz430 jz433 hP hD hS hl
              refine lv_iload hx hb dX11_free_36 (lv_at hl 3 rfl) ?_
              refine lv_if_le (tgt := 62) hx hb dX11_free_38 (by decide) (fun cz434 => ?_) (fun cz434 => ?_)
              · skip
                have bz435 := fb_rng xz431
                have zz436 : xz431.toInt ≤ (0 : Int) := zi_le.mp cz434
                refine lv_iconst (v := 0) hx hb dX11_free_62 (by decide) ?_
                rw [hQ]
                exact W.iret (v := (0 : Int32)) hx hb hr (fun t ht hW => ⟨⟨(0 : Int32), (), rfl, trivial, nz430, az429, hnz430, by rw [ht]; exact hP⟩, hS.F ht⟩) hS.2.2 dX11_free_63
              · skip
                have bz437 := fb_rng xz431
                have zz438 : ¬ xz431.toInt ≤ (0 : Int) := fun h9 => cz434 (zi_le.mpr h9)
                refine lv_aload_n hx hb dX11_free_41 rfl (lv_at hl 0 rfl) ?_
                refine lv_aload_n hx hb dX11_free_42 rfl (lv_at hl 1 rfl) ?_
                refine lv_iload hx hb dX11_free_43 (lv_at hl 3 rfl) ?_
                have hPc := hP.sub (ws' := (List.flatten [(wMem qM k nz430 az429)] ++ List.flatten [(wSag qX k tapeX (qV 0) actsX nowX trialX (qY 0) attemptX orderSearchX routeSearchX setSearchX (qM 0) slot0X slot1X slot2X slot3X image0X image1X image2X aX), (wValley qV k vV bV cV wV aV eV), (wMem (fun i => sY 3 (i + 5)) k (fun i => (nY 3) (i + 1)) (fun i => (aY 3) (i + 2)))])) [0, 1, 2, 3, 4, 5, 6, 7, 8, 9, 10, 11, 12, 13, 14, 15, 56, 57, 58] rfl
                have hC : [0, 1, 2, 3, 4, 5, 6, 7, 8, 9, 10, 11, 12, 13, 14, 15, 56, 57, 58].map (fun i => (List.flatten [(wMem qM k nz430 az429)] ++ List.flatten [(wSag qX k tapeX (qV 0) actsX nowX trialX (qY 0) attemptX orderSearchX routeSearchX setSearchX (qM 0) slot0X slot1X slot2X slot3X image0X image1X image2X aX), (wValley qV k vV bV cV wV aV eV), (wStoO qY k (qV 0) planY (sY 0 0) (sY 1 0) (sY 2 0) (sY 3 0) (sY 4 0) (sY 5 0) (sY 6 0) (sY 7 0)), (wState (sY 0) k (vY 0) (nY 0) (aY 0)), (wState (sY 1) k (vY 1) (nY 1) (aY 1)), (wState (sY 2) k (vY 2) (nY 2) (aY 2)), (wState (sY 3) k (vY 3) (nY 3) (aY 3)), (wState (sY 4) k (vY 4) (nY 4) (aY 4)), (wState (sY 5) k (vY 5) (nY 5) (aY 5)), (wState (sY 6) k (vY 6) (nY 6) (aY 6)), (wState (sY 7) k (vY 7) (nY 7) (aY 7))])[i]?) = (List.flatten [(wMem qM k nz430 az429)] ++ List.flatten [(wSag qX k tapeX (qV 0) actsX nowX trialX (qY 0) attemptX orderSearchX routeSearchX setSearchX (qM 0) slot0X slot1X slot2X slot3X image0X image1X image2X aX), (wValley qV k vV bV cV wV aV eV), (wMem (fun i => sY 3 (i + 5)) k (fun i => (nY 3) (i + 1)) (fun i => (aY 3) (i + 2)))]).map some := rfl
                have hDc := hD.sub [0, 1, 2, 3, 4, 5, 6, 7, 8, 9, 10, 11, 12, 13, 14, 15, 56, 57, 58] (by decide) hC
                have hFc := va_free hD hS hA [0, 1, 2, 3, 4, 5, 6, 7, 8, 9, 10, 11, 12, 13, 14, 15, 56, 57, 58] hC
                refine va_calli (va_runV (As := [.ref (sY 3 5), .int xz431]) (rest := []) ⟨hx, hb, hml, hown, hts⟩ (c_X11_depthWith l dC dI k H.size qX tapeX actsX nowX trialX (qY 0) attemptX orderSearchX routeSearchX setSearchX slot0X slot1X slot2X slot3X image0X image1X image2X aX qV vV bV cV wV aV eV qM nz430 az429 (fun i => sY 3 (i + 5)) (fun i => (nY 3) (i + 1)) (fun i => (aY 3) (i + 2)) xz431 hbV hcV hwV heV hnz430 (fun i => (hnY 3) (i + 1)) (by show 0 ≤ xz431.toInt ∧ xz431.toInt ≤ 99; omega)) (cwV 2 hts (gk_V (wl_mem 14 rfl) (wl_mem 15 rfl) (wl_mem 16 rfl) (wl_mem 3 rfl) (fun w h => List.mem_cons_of_mem _ (List.mem_append_right _ (List.mem_append_right _ (List.mem_append_right _ (List.mem_append_right _ (List.mem_append_right _ (List.mem_append_right _ (List.mem_append_left _ h)))))))) wkg_c_X11_depthWith) rfl rfl rfl (by decide +kernel) ⟨Nat.le_of_ble_eq_true rfl, Nat.le_of_ble_eq_true rfl⟩) ⟨fun a U g mk q => by obtain ⟨q0, q1, qP, qK, qD⟩ := q; exact ⟨q0, q1, qP, va_K.moved (u := U) (U := U.calling g mk a) (Vm.Alike.refl U.vm) qK, qD⟩, va_recv hK hPc (ci := 11) (q0 := 3) rfl rfl, fun U hU hW => ⟨rfl, by rw [hU], by rw [hU]; exact hPc, va_K.moved hW.alike hK, hDc.weaken (fun _ _ _ _ => trivial)⟩⟩ rfl rfl hl.1 rfl (lv_room (Nat.le_of_ble_eq_true rfl)) dX11_free_45 ⟨Nat.le_of_ble_eq_true rfl, Nat.le_of_ble_eq_true rfl⟩) hS (fun q _ h => hFc q h) hFc (fun rz440 u t H1 locs ht hvm gz439 hB hz1 hk1 hS => ?_)
                obtain ⟨nz441, az442, hnz441, hP1⟩ := hB
                rw [ht] at hP1
                obtain ⟨hP, hD⟩ := w_callR hP hD hk1 hP1 [0] rfl rfl (wk_mem [3, 4, 5, 6, 7, 8, 9, 10, 11, 12, 13, 14, 15, 56, 57, 58] rfl) rfl [some 0] rfl rfl
                clear hPc hC hDc hFc hk1 hP1
                generalize H1 = H at hP hS ⊢
                have hP : va_P (dC, dI) vwCl (List.flatten [(wMem qM k nz441 az442)] ++ List.flatten [(wSag qX k tapeX (qV 0) actsX nowX trialX (qY 0) attemptX orderSearchX routeSearchX setSearchX (qM 0) slot0X slot1X slot2X slot3X image0X image1X image2X aX), (wValley qV k vV bV cV wV aV eV), (wStoO qY k (qV 0) planY (sY 0 0) (sY 1 0) (sY 2 0) (sY 3 0) (sY 4 0) (sY 5 0) (sY 6 0) (sY 7 0)), (wState (sY 0) k (vY 0) (nY 0) (aY 0)), (wState (sY 1) k (vY 1) (nY 1) (aY 1)), (wState (sY 2) k (vY 2) (nY 2) (aY 2)), (wState (sY 3) k (vY 3) (nY 3) (aY 3)), (wState (sY 4) k (vY 4) (nY 4) (aY 4)), (wState (sY 5) k (vY 5) (nY 5) (aY 5)), (wState (sY 6) k (vY 6) (nY 6) (aY 6)), (wState (sY 7) k (vY 7) (nY 7) (aY 7))]) H := hP
                have hD : va_D A (List.flatten [(wMem qM k nz441 az442)] ++ List.flatten [(wSag qX k tapeX (qV 0) actsX nowX trialX (qY 0) attemptX orderSearchX routeSearchX setSearchX (qM 0) slot0X slot1X slot2X slot3X image0X image1X image2X aX), (wValley qV k vV bV cV wV aV eV), (wStoO qY k (qV 0) planY (sY 0 0) (sY 1 0) (sY 2 0) (sY 3 0) (sY 4 0) (sY 5 0) (sY 6 0) (sY 7 0)), (wState (sY 0) k (vY 0) (nY 0) (aY 0)), (wState (sY 1) k (vY 1) (nY 1) (aY 1)), (wState (sY 2) k (vY 2) (nY 2) (aY 2)), (wState (sY 3) k (vY 3) (nY 3) (aY 3)), (wState (sY 4) k (vY 4) (nY 4) (aY 4)), (wState (sY 5) k (vY 5) (nY 5) (aY 5)), (wState (sY 6) k (vY 6) (nY 6) (aY 6)), (wState (sY 7) k (vY 7) (nY 7) (aY 7))]) := hD
                refine W.widen (k := 0) (n := 0) (Nat.le_refl 0) (Nat.le_refl 0) ?_
                refine lv_iload hx hb dX11_free_48 (lv_at hl 2 rfl) ?_
                refine lv_icmp_gt (tgt := 56) hx hb dX11_free_50 (by decide) (fun cz443 => ?_) (fun cz443 => ?_)
                · skip
                  have bz444 := fb_rng rz408
                  have bz445 := fb_rng rz440
                  have zz446 : rz408.toInt < rz440.toInt := zi_lt.mp cz443
                  obtain ⟨xz447, exz447⟩ : ∃ y : Int32, y = xz431 + Int32.ofInt (-1) := ⟨_, rfl⟩
                  have fxz447 : xz447.toInt = xz431.toInt + (-1) := by rw [exz447]; exact fb_addI (y := Int32.ofInt (-1)) (by show -2147483648 ≤ xz431.toInt + (-1); omega) (by show xz431.toInt + (-1) < 2147483648; omega)
                  refine lv_iinc (v := xz447) (lv' := [(5, .int xz447), (0, .ref (qX 0)), (3, .ref (sY 3 5)), (4, .int rz408)]) hx hb dX11_free_56 hl (k := 3) rfl exz447.symm (by decide) rfl (fun ls hl => ?_)
                  refine lv_goto (tgt := 36) hx hb dX11_free_59 (by decide) ?_
                  exact ih36 H locs ls az442 nz441 xz447 (by show (xz447.toInt + 2147483648).toNat < n9_36; omega) hnz441 (by show xz447.toInt ≤ 99; omega) hP hD hS (lv_sub hl [1, 2, 3, 0] rfl)
                · skip
                  have bz448 := fb_rng rz408
                  have bz449 := fb_rng rz440
                  have zz450 : ¬ rz408.toInt < rz440.toInt := fun h9 => cz443 (zi_lt.mpr h9)
                  refine lv_iload hx hb dX11_free_53 (lv_at hl 3 rfl) ?_
                  rw [hQ]
                  exact W.iret (v := xz431) hx hb hr (fun t ht hW => ⟨⟨xz431, (), rfl, trivial, nz441, az442, hnz441, by rw [ht]; exact hP⟩, hS.F ht⟩) hS.2.2 dX11_free_55
          exact lp36_kz432 _ s.heap [] ls aM nM (99 : Int32) (Nat.lt_succ_self _) hnM (by show (99 : Int) ≤ 99; omega) hP hD hS (lv_sub hl [3, 2, 1, 0] rfl)
        · skip
          have zz451 : p1.toInt = (2 : Int) := zi_eq.mp cz360
          refine W.eq (g2 := F0 m 24 ls [.int 2, .ref (sY 3 1)]) (by rw [cz360]) ?_
          refine va_aldq hx hb hK hP 52 4 rfl rfl (by unfold vp_in; decide) dX11_free_24 ?_
          refine W.eq (g2 := F0 m 25 ls [.ref (sY 3 8)]) rfl ?_
          refine lv_astore_n (lv' := [(3, .ref (sY 3 8)), (0, .ref (qX 0)), (1, .int p1), (2, .int p2)]) hx hb dX11_free_25 rfl hl (by decide) rfl (fun ls hl => ?_)
          refine lv_aload_n hx hb dX11_free_26 rfl (lv_at hl 0 rfl) ?_
          have hPc := hP.sub (ws' := (List.flatten [(wMem (fun i => sY 3 (i + 8)) k (fun i => (nY 3) (i + 2)) (fun i => (aY 3) (i + 4)))])) [59, 60, 61] rfl
          refine vp_callSi (va_Run.run (va_runV (As := []) (rest := []) ⟨hx, hb, hml, hown, hts⟩ (c_X2_depth l dC dI k (fun i => sY 3 (i + 8)) (fun i => (nY 3) (i + 2)) (fun i => (aY 3) (i + 4)) (fun i => (hnY 3) (i + 2))) (cwV 0 hts (gk_V (wl_mem 10 rfl) (wl_mem 11 rfl) (wl_mem 12 rfl) (wl_mem 13 rfl) (fun w h => List.mem_cons_of_mem _ (List.mem_append_right _ (List.mem_append_right _ (List.mem_append_right _ (List.mem_append_right _ (List.mem_append_right _ (List.mem_append_left _ h))))))) wkg_c_X2_depth) rfl rfl rfl (by decide +kernel) ⟨Nat.le_of_ble_eq_true rfl, Nat.le_of_ble_eq_true rfl⟩) ⟨fun a U g mk q => by obtain ⟨q0, qP, qK⟩ := q; exact ⟨q0, qP, va_K.moved (u := U) (U := U.calling g mk a) (Vm.Alike.refl U.vm) qK⟩, va_recv hK hPc (ci := 2) (q0 := 0) rfl rfl, fun U hU hW => ⟨rfl, by rw [hU]; exact hPc, va_K.moved hW.alike hK⟩⟩ rfl rfl hl.1 rfl (lv_room (Nat.le_of_ble_eq_true rfl)) dX11_free_27 ⟨Nat.le_of_ble_eq_true rfl, Nat.le_of_ble_eq_true rfl⟩)) (fun rz453 gz452 => ?_)
          clear hPc
          refine lv_istore (lv' := [(4, .int rz453), (3, .ref (sY 3 8)), (0, .ref (qX 0)), (1, .int p1), (2, .int p2)]) hx hb dX11_free_30 hl (by decide) rfl (fun ls hl => ?_)
          refine lv_bipush (v := 99) hx hb dX11_free_32 (by decide) ?_
          refine lv_istore (lv' := [(5, .int 99), (4, .int rz453), (3, .ref (sY 3 8)), (0, .ref (qX 0)), (1, .int p1), (2, .int p2)]) hx hb dX11_free_34 hl (by decide) rfl (fun ls hl => ?_)
          have lp36_kz477 : ∀ (n9_36 : Nat) (H : Heap) (locs : List Loc) (ls : Array Slot) (az474 : Nat → Nat → Int32) (nz475 : Nat → Int32) (xz476 : Int32), (xz476.toInt + 2147483648).toNat < n9_36 → Rg 0 8 nz475 → xz476.toInt ≤ 99 → va_P (dC, dI) vwCl (List.flatten [(wMem qM k nz475 az474)] ++ List.flatten [(wSag qX k tapeX (qV 0) actsX nowX trialX (qY 0) attemptX orderSearchX routeSearchX setSearchX (qM 0) slot0X slot1X slot2X slot3X image0X image1X image2X aX), (wValley qV k vV bV cV wV aV eV), (wStoO qY k (qV 0) planY (sY 0 0) (sY 1 0) (sY 2 0) (sY 3 0) (sY 4 0) (sY 5 0) (sY 6 0) (sY 7 0)), (wState (sY 0) k (vY 0) (nY 0) (aY 0)), (wState (sY 1) k (vY 1) (nY 1) (aY 1)), (wState (sY 2) k (vY 2) (nY 2) (aY 2)), (wState (sY 3) k (vY 3) (nY 3) (aY 3)), (wState (sY 4) k (vY 4) (nY 4) (aY 4)), (wState (sY 5) k (vY 5) (nY 5) (aY 5)), (wState (sY 6) k (vY 6) (nY 6) (aY 6)), (wState (sY 7) k (vY 7) (nY 7) (aY 7))]) H → va_D A (List.flatten [(wMem qM k nz475 az474)] ++ List.flatten [(wSag qX k tapeX (qV 0) actsX nowX trialX (qY 0) attemptX orderSearchX routeSearchX setSearchX (qM 0) slot0X slot1X slot2X slot3X image0X image1X image2X aX), (wValley qV k vV bV cV wV aV eV), (wStoO qY k (qV 0) planY (sY 0 0) (sY 1 0) (sY 2 0) (sY 3 0) (sY 4 0) (sY 5 0) (sY 6 0) (sY 7 0)), (wState (sY 0) k (vY 0) (nY 0) (aY 0)), (wState (sY 1) k (vY 1) (nY 1) (aY 1)), (wState (sY 2) k (vY 2) (nY 2) (aY 2)), (wState (sY 3) k (vY 3) (nY 3) (aY 3)), (wState (sY 4) k (vY 4) (nY 4) (aY 4)), (wState (sY 5) k (vY 5) (nY 5) (aY 5)), (wState (sY 6) k (vY 6) (nY 6) (aY 6)), (wState (sY 7) k (vY 7) (nY 7) (aY 7))]) → va_S A s.heap H locs → lv_has ls 6 [(0, .ref (qX 0)), (3, .ref (sY 3 8)), (4, .int rz453), (5, .int xz476)] → W p l e (headSpec wk_c_X11_free ({ frames := 2, cells := 0, slots := 0, locals := 49 })).room s m ([.ref (qX 0), .int p1, .int p2] : List Value).toArray below meth c H locs 0 0 Q (F0 m 36 ls []) := by
            intro n9_36
            induction n9_36 with
            | zero => intro H locs ls az474 nz475 xz476 hm; exact absurd hm (Nat.not_lt_zero _)
            | succ n9_36 ih36 =>
              intro H locs ls az474 nz475 xz476 hm36 hnz475 jz478 hP hD hS hl
              refine lv_iload hx hb dX11_free_36 (lv_at hl 3 rfl) ?_
              refine lv_if_le (tgt := 62) hx hb dX11_free_38 (by decide) (fun cz479 => ?_) (fun cz479 => ?_)
              · skip
                have bz480 := fb_rng xz476
                have zz481 : xz476.toInt ≤ (0 : Int) := zi_le.mp cz479
                refine lv_iconst (v := 0) hx hb dX11_free_62 (by decide) ?_
                rw [hQ]
                exact W.iret (v := (0 : Int32)) hx hb hr (fun t ht hW => ⟨⟨(0 : Int32), (), rfl, trivial, nz475, az474, hnz475, by rw [ht]; exact hP⟩, hS.F ht⟩) hS.2.2 dX11_free_63
              · skip
                have bz482 := fb_rng xz476
                have zz483 : ¬ xz476.toInt ≤ (0 : Int) := fun h9 => cz479 (zi_le.mpr h9)
                refine lv_aload_n hx hb dX11_free_41 rfl (lv_at hl 0 rfl) ?_
                refine lv_aload_n hx hb dX11_free_42 rfl (lv_at hl 1 rfl) ?_
                refine lv_iload hx hb dX11_free_43 (lv_at hl 3 rfl) ?_
                have hPc := hP.sub (ws' := (List.flatten [(wMem qM k nz475 az474)] ++ List.flatten [(wSag qX k tapeX (qV 0) actsX nowX trialX (qY 0) attemptX orderSearchX routeSearchX setSearchX (qM 0) slot0X slot1X slot2X slot3X image0X image1X image2X aX), (wValley qV k vV bV cV wV aV eV), (wMem (fun i => sY 3 (i + 8)) k (fun i => (nY 3) (i + 2)) (fun i => (aY 3) (i + 4)))])) [0, 1, 2, 3, 4, 5, 6, 7, 8, 9, 10, 11, 12, 13, 14, 15, 59, 60, 61] rfl
                have hC : [0, 1, 2, 3, 4, 5, 6, 7, 8, 9, 10, 11, 12, 13, 14, 15, 59, 60, 61].map (fun i => (List.flatten [(wMem qM k nz475 az474)] ++ List.flatten [(wSag qX k tapeX (qV 0) actsX nowX trialX (qY 0) attemptX orderSearchX routeSearchX setSearchX (qM 0) slot0X slot1X slot2X slot3X image0X image1X image2X aX), (wValley qV k vV bV cV wV aV eV), (wStoO qY k (qV 0) planY (sY 0 0) (sY 1 0) (sY 2 0) (sY 3 0) (sY 4 0) (sY 5 0) (sY 6 0) (sY 7 0)), (wState (sY 0) k (vY 0) (nY 0) (aY 0)), (wState (sY 1) k (vY 1) (nY 1) (aY 1)), (wState (sY 2) k (vY 2) (nY 2) (aY 2)), (wState (sY 3) k (vY 3) (nY 3) (aY 3)), (wState (sY 4) k (vY 4) (nY 4) (aY 4)), (wState (sY 5) k (vY 5) (nY 5) (aY 5)), (wState (sY 6) k (vY 6) (nY 6) (aY 6)), (wState (sY 7) k (vY 7) (nY 7) (aY 7))])[i]?) = (List.flatten [(wMem qM k nz475 az474)] ++ List.flatten [(wSag qX k tapeX (qV 0) actsX nowX trialX (qY 0) attemptX orderSearchX routeSearchX setSearchX (qM 0) slot0X slot1X slot2X slot3X image0X image1X image2X aX), (wValley qV k vV bV cV wV aV eV), (wMem (fun i => sY 3 (i + 8)) k (fun i => (nY 3) (i + 2)) (fun i => (aY 3) (i + 4)))]).map some := rfl
                have hDc := hD.sub [0, 1, 2, 3, 4, 5, 6, 7, 8, 9, 10, 11, 12, 13, 14, 15, 59, 60, 61] (by decide) hC
                have hFc := va_free hD hS hA [0, 1, 2, 3, 4, 5, 6, 7, 8, 9, 10, 11, 12, 13, 14, 15, 59, 60, 61] hC
                refine va_calli (va_runV (As := [.ref (sY 3 8), .int xz476]) (rest := []) ⟨hx, hb, hml, hown, hts⟩ (c_X11_depthWith l dC dI k H.size qX tapeX actsX nowX trialX (qY 0) attemptX orderSearchX routeSearchX setSearchX slot0X slot1X slot2X slot3X image0X image1X image2X aX qV vV bV cV wV aV eV qM nz475 az474 (fun i => sY 3 (i + 8)) (fun i => (nY 3) (i + 2)) (fun i => (aY 3) (i + 4)) xz476 hbV hcV hwV heV hnz475 (fun i => (hnY 3) (i + 2)) (by show 0 ≤ xz476.toInt ∧ xz476.toInt ≤ 99; omega)) (cwV 2 hts (gk_V (wl_mem 14 rfl) (wl_mem 15 rfl) (wl_mem 16 rfl) (wl_mem 3 rfl) (fun w h => List.mem_cons_of_mem _ (List.mem_append_right _ (List.mem_append_right _ (List.mem_append_right _ (List.mem_append_right _ (List.mem_append_right _ (List.mem_append_right _ (List.mem_append_left _ h)))))))) wkg_c_X11_depthWith) rfl rfl rfl (by decide +kernel) ⟨Nat.le_of_ble_eq_true rfl, Nat.le_of_ble_eq_true rfl⟩) ⟨fun a U g mk q => by obtain ⟨q0, q1, qP, qK, qD⟩ := q; exact ⟨q0, q1, qP, va_K.moved (u := U) (U := U.calling g mk a) (Vm.Alike.refl U.vm) qK, qD⟩, va_recv hK hPc (ci := 11) (q0 := 3) rfl rfl, fun U hU hW => ⟨rfl, by rw [hU], by rw [hU]; exact hPc, va_K.moved hW.alike hK, hDc.weaken (fun _ _ _ _ => trivial)⟩⟩ rfl rfl hl.1 rfl (lv_room (Nat.le_of_ble_eq_true rfl)) dX11_free_45 ⟨Nat.le_of_ble_eq_true rfl, Nat.le_of_ble_eq_true rfl⟩) hS (fun q _ h => hFc q h) hFc (fun rz485 u t H1 locs ht hvm gz484 hB hz1 hk1 hS => ?_)
                obtain ⟨nz486, az487, hnz486, hP1⟩ := hB
                rw [ht] at hP1
                obtain ⟨hP, hD⟩ := w_callR hP hD hk1 hP1 [0] rfl rfl (wk_mem [3, 4, 5, 6, 7, 8, 9, 10, 11, 12, 13, 14, 15, 59, 60, 61] rfl) rfl [some 0] rfl rfl
                clear hPc hC hDc hFc hk1 hP1
                generalize H1 = H at hP hS ⊢
                have hP : va_P (dC, dI) vwCl (List.flatten [(wMem qM k nz486 az487)] ++ List.flatten [(wSag qX k tapeX (qV 0) actsX nowX trialX (qY 0) attemptX orderSearchX routeSearchX setSearchX (qM 0) slot0X slot1X slot2X slot3X image0X image1X image2X aX), (wValley qV k vV bV cV wV aV eV), (wStoO qY k (qV 0) planY (sY 0 0) (sY 1 0) (sY 2 0) (sY 3 0) (sY 4 0) (sY 5 0) (sY 6 0) (sY 7 0)), (wState (sY 0) k (vY 0) (nY 0) (aY 0)), (wState (sY 1) k (vY 1) (nY 1) (aY 1)), (wState (sY 2) k (vY 2) (nY 2) (aY 2)), (wState (sY 3) k (vY 3) (nY 3) (aY 3)), (wState (sY 4) k (vY 4) (nY 4) (aY 4)), (wState (sY 5) k (vY 5) (nY 5) (aY 5)), (wState (sY 6) k (vY 6) (nY 6) (aY 6)), (wState (sY 7) k (vY 7) (nY 7) (aY 7))]) H := hP
                have hD : va_D A (List.flatten [(wMem qM k nz486 az487)] ++ List.flatten [(wSag qX k tapeX (qV 0) actsX nowX trialX (qY 0) attemptX orderSearchX routeSearchX setSearchX (qM 0) slot0X slot1X slot2X slot3X image0X image1X image2X aX), (wValley qV k vV bV cV wV aV eV), (wStoO qY k (qV 0) planY (sY 0 0) (sY 1 0) (sY 2 0) (sY 3 0) (sY 4 0) (sY 5 0) (sY 6 0) (sY 7 0)), (wState (sY 0) k (vY 0) (nY 0) (aY 0)), (wState (sY 1) k (vY 1) (nY 1) (aY 1)), (wState (sY 2) k (vY 2) (nY 2) (aY 2)), (wState (sY 3) k (vY 3) (nY 3) (aY 3)), (wState (sY 4) k (vY 4) (nY 4) (aY 4)), (wState (sY 5) k (vY 5) (nY 5) (aY 5)), (wState (sY 6) k (vY 6) (nY 6) (aY 6)), (wState (sY 7) k (vY 7) (nY 7) (aY 7))]) := hD
                refine W.widen (k := 0) (n := 0) (Nat.le_refl 0) (Nat.le_refl 0) ?_
                refine lv_iload hx hb dX11_free_48 (lv_at hl 2 rfl) ?_
                refine lv_icmp_gt (tgt := 56) hx hb dX11_free_50 (by decide) (fun cz488 => ?_) (fun cz488 => ?_)
                · skip
                  have bz489 := fb_rng rz453
                  have bz490 := fb_rng rz485
                  have zz491 : rz453.toInt < rz485.toInt := zi_lt.mp cz488
                  obtain ⟨xz492, exz492⟩ : ∃ y : Int32, y = xz476 + Int32.ofInt (-1) := ⟨_, rfl⟩
                  have fxz492 : xz492.toInt = xz476.toInt + (-1) := by rw [exz492]; exact fb_addI (y := Int32.ofInt (-1)) (by show -2147483648 ≤ xz476.toInt + (-1); omega) (by show xz476.toInt + (-1) < 2147483648; omega)
                  refine lv_iinc (v := xz492) (lv' := [(5, .int xz492), (0, .ref (qX 0)), (3, .ref (sY 3 8)), (4, .int rz453)]) hx hb dX11_free_56 hl (k := 3) rfl exz492.symm (by decide) rfl (fun ls hl => ?_)
                  refine lv_goto (tgt := 36) hx hb dX11_free_59 (by decide) ?_
                  exact ih36 H locs ls az487 nz486 xz492 (by show (xz492.toInt + 2147483648).toNat < n9_36; omega) hnz486 (by show xz492.toInt ≤ 99; omega) hP hD hS (lv_sub hl [1, 2, 3, 0] rfl)
                · skip
                  have bz493 := fb_rng rz453
                  have bz494 := fb_rng rz485
                  have zz495 : ¬ rz453.toInt < rz485.toInt := fun h9 => cz488 (zi_lt.mpr h9)
                  refine lv_iload hx hb dX11_free_53 (lv_at hl 3 rfl) ?_
                  rw [hQ]
                  exact W.iret (v := xz476) hx hb hr (fun t ht hW => ⟨⟨xz476, (), rfl, trivial, nz486, az487, hnz486, by rw [ht]; exact hP⟩, hS.F ht⟩) hS.2.2 dX11_free_55
          exact lp36_kz477 _ s.heap [] ls aM nM (99 : Int32) (Nat.lt_succ_self _) hnM (by show (99 : Int) ≤ 99; omega) hP hD hS (lv_sub hl [3, 2, 1, 0] rfl)
      · skip
        have zz496 : ¬ p2.toInt < (0 : Int) := fun h9 => cz64 (zi_lt.mpr h9)
        have zz497 : ¬ (7 : Int) ≤ p2.toInt := fun h9 => cz65 (zi_le.mpr h9)
        have zz498 : p2.toInt = (3 : Int) := zi_eq.mp cz66
        refine W.eq (g2 := F0 m 20 ls [.ref (sY 4 0)]) rfl ?_
        refine va_get (D := (dC, dI)) (ci := 7) (v := .ref (sY 4 1)) (C := RX7) (T := TX7) (N := 9) hx hb hts (fun w h => List.mem_cons_of_mem _ (List.mem_append_right _ (List.mem_append_right _ (List.mem_append_right _ (List.mem_append_right _ (List.mem_append_left _ h)))))) hown hK hP 62 rfl rfl 0 (by decide) (hts (.fieldLink RX11 194 "SagMemory$State" "memories" "[LSagMemory$Memory;") (wl_mem 9 rfl)) (fun _ h9 => h9) rfl dX11_free_20 ?_
        refine lv_iload_n hx hb dX11_free_23 rfl (lv_at hl 1 rfl) ?_
        rcases (show p1 = 0 ∨ p1 = 1 ∨ p1 = 2 by simp only [zi_eq]; show p1.toInt = 0 ∨ p1.toInt = 1 ∨ p1.toInt = 2; omega) with cz499 | cz499 | cz499
        · skip
          have zz500 : p1.toInt = (0 : Int) := zi_eq.mp cz499
          refine W.eq (g2 := F0 m 24 ls [.int 0, .ref (sY 4 1)]) (by rw [cz499]) ?_
          refine va_aldq hx hb hK hP 63 4 rfl rfl (by unfold vp_in; decide) dX11_free_24 ?_
          refine W.eq (g2 := F0 m 25 ls [.ref (sY 4 2)]) rfl ?_
          refine lv_astore_n (lv' := [(3, .ref (sY 4 2)), (0, .ref (qX 0)), (1, .int p1), (2, .int p2)]) hx hb dX11_free_25 rfl hl (by decide) rfl (fun ls hl => ?_)
          refine lv_aload_n hx hb dX11_free_26 rfl (lv_at hl 0 rfl) ?_
          have hPc := hP.sub (ws' := (List.flatten [(wMem (fun i => sY 4 (i + 2)) k (nY 4) (aY 4))])) [64, 65, 66] rfl
          refine vp_callSi (va_Run.run (va_runV (As := []) (rest := []) ⟨hx, hb, hml, hown, hts⟩ (c_X2_depth l dC dI k (fun i => sY 4 (i + 2)) (nY 4) (aY 4) (hnY 4)) (cwV 0 hts (gk_V (wl_mem 10 rfl) (wl_mem 11 rfl) (wl_mem 12 rfl) (wl_mem 13 rfl) (fun w h => List.mem_cons_of_mem _ (List.mem_append_right _ (List.mem_append_right _ (List.mem_append_right _ (List.mem_append_right _ (List.mem_append_right _ (List.mem_append_left _ h))))))) wkg_c_X2_depth) rfl rfl rfl (by decide +kernel) ⟨Nat.le_of_ble_eq_true rfl, Nat.le_of_ble_eq_true rfl⟩) ⟨fun a U g mk q => by obtain ⟨q0, qP, qK⟩ := q; exact ⟨q0, qP, va_K.moved (u := U) (U := U.calling g mk a) (Vm.Alike.refl U.vm) qK⟩, va_recv hK hPc (ci := 2) (q0 := 0) rfl rfl, fun U hU hW => ⟨rfl, by rw [hU]; exact hPc, va_K.moved hW.alike hK⟩⟩ rfl rfl hl.1 rfl (lv_room (Nat.le_of_ble_eq_true rfl)) dX11_free_27 ⟨Nat.le_of_ble_eq_true rfl, Nat.le_of_ble_eq_true rfl⟩)) (fun rz502 gz501 => ?_)
          clear hPc
          refine lv_istore (lv' := [(4, .int rz502), (3, .ref (sY 4 2)), (0, .ref (qX 0)), (1, .int p1), (2, .int p2)]) hx hb dX11_free_30 hl (by decide) rfl (fun ls hl => ?_)
          refine lv_bipush (v := 99) hx hb dX11_free_32 (by decide) ?_
          refine lv_istore (lv' := [(5, .int 99), (4, .int rz502), (3, .ref (sY 4 2)), (0, .ref (qX 0)), (1, .int p1), (2, .int p2)]) hx hb dX11_free_34 hl (by decide) rfl (fun ls hl => ?_)
          have lp36_kz526 : ∀ (n9_36 : Nat) (H : Heap) (locs : List Loc) (ls : Array Slot) (az523 : Nat → Nat → Int32) (nz524 : Nat → Int32) (xz525 : Int32), (xz525.toInt + 2147483648).toNat < n9_36 → Rg 0 8 nz524 → xz525.toInt ≤ 99 → va_P (dC, dI) vwCl (List.flatten [(wMem qM k nz524 az523)] ++ List.flatten [(wSag qX k tapeX (qV 0) actsX nowX trialX (qY 0) attemptX orderSearchX routeSearchX setSearchX (qM 0) slot0X slot1X slot2X slot3X image0X image1X image2X aX), (wValley qV k vV bV cV wV aV eV), (wStoO qY k (qV 0) planY (sY 0 0) (sY 1 0) (sY 2 0) (sY 3 0) (sY 4 0) (sY 5 0) (sY 6 0) (sY 7 0)), (wState (sY 0) k (vY 0) (nY 0) (aY 0)), (wState (sY 1) k (vY 1) (nY 1) (aY 1)), (wState (sY 2) k (vY 2) (nY 2) (aY 2)), (wState (sY 3) k (vY 3) (nY 3) (aY 3)), (wState (sY 4) k (vY 4) (nY 4) (aY 4)), (wState (sY 5) k (vY 5) (nY 5) (aY 5)), (wState (sY 6) k (vY 6) (nY 6) (aY 6)), (wState (sY 7) k (vY 7) (nY 7) (aY 7))]) H → va_D A (List.flatten [(wMem qM k nz524 az523)] ++ List.flatten [(wSag qX k tapeX (qV 0) actsX nowX trialX (qY 0) attemptX orderSearchX routeSearchX setSearchX (qM 0) slot0X slot1X slot2X slot3X image0X image1X image2X aX), (wValley qV k vV bV cV wV aV eV), (wStoO qY k (qV 0) planY (sY 0 0) (sY 1 0) (sY 2 0) (sY 3 0) (sY 4 0) (sY 5 0) (sY 6 0) (sY 7 0)), (wState (sY 0) k (vY 0) (nY 0) (aY 0)), (wState (sY 1) k (vY 1) (nY 1) (aY 1)), (wState (sY 2) k (vY 2) (nY 2) (aY 2)), (wState (sY 3) k (vY 3) (nY 3) (aY 3)), (wState (sY 4) k (vY 4) (nY 4) (aY 4)), (wState (sY 5) k (vY 5) (nY 5) (aY 5)), (wState (sY 6) k (vY 6) (nY 6) (aY 6)), (wState (sY 7) k (vY 7) (nY 7) (aY 7))]) → va_S A s.heap H locs → lv_has ls 6 [(0, .ref (qX 0)), (3, .ref (sY 4 2)), (4, .int rz502), (5, .int xz525)] → W p l e (headSpec wk_c_X11_free ({ frames := 2, cells := 0, slots := 0, locals := 49 })).room s m ([.ref (qX 0), .int p1, .int p2] : List Value).toArray below meth c H locs 0 0 Q (F0 m 36 ls []) := by
            intro n9_36
            induction n9_36 with
            | zero => intro H locs ls az523 nz524 xz525 hm; exact absurd hm (Nat.not_lt_zero _)
            | succ n9_36 ih36 =>
              intro H locs ls az523 nz524 xz525 hm36 hnz524 jz527 hP hD hS hl
              refine lv_iload hx hb dX11_free_36 (lv_at hl 3 rfl) ?_
              refine lv_if_le (tgt := 62) hx hb dX11_free_38 (by decide) (fun cz528 => ?_) (fun cz528 => ?_)
              · skip
                have bz529 := fb_rng xz525
                have zz530 : xz525.toInt ≤ (0 : Int) := zi_le.mp cz528
                refine lv_iconst (v := 0) hx hb dX11_free_62 (by decide) ?_
                rw [hQ]
                exact W.iret (v := (0 : Int32)) hx hb hr (fun t ht hW => ⟨⟨(0 : Int32), (), rfl, trivial, nz524, az523, hnz524, by rw [ht]; exact hP⟩, hS.F ht⟩) hS.2.2 dX11_free_63
              · skip
                have bz531 := fb_rng xz525
                have zz532 : ¬ xz525.toInt ≤ (0 : Int) := fun h9 => cz528 (zi_le.mpr h9)
                refine lv_aload_n hx hb dX11_free_41 rfl (lv_at hl 0 rfl) ?_
                refine lv_aload_n hx hb dX11_free_42 rfl (lv_at hl 1 rfl) ?_
                refine lv_iload hx hb dX11_free_43 (lv_at hl 3 rfl) ?_
                have hPc := hP.sub (ws' := (List.flatten [(wMem qM k nz524 az523)] ++ List.flatten [(wSag qX k tapeX (qV 0) actsX nowX trialX (qY 0) attemptX orderSearchX routeSearchX setSearchX (qM 0) slot0X slot1X slot2X slot3X image0X image1X image2X aX), (wValley qV k vV bV cV wV aV eV), (wMem (fun i => sY 4 (i + 2)) k (nY 4) (aY 4))])) [0, 1, 2, 3, 4, 5, 6, 7, 8, 9, 10, 11, 12, 13, 14, 15, 64, 65, 66] rfl
                have hC : [0, 1, 2, 3, 4, 5, 6, 7, 8, 9, 10, 11, 12, 13, 14, 15, 64, 65, 66].map (fun i => (List.flatten [(wMem qM k nz524 az523)] ++ List.flatten [(wSag qX k tapeX (qV 0) actsX nowX trialX (qY 0) attemptX orderSearchX routeSearchX setSearchX (qM 0) slot0X slot1X slot2X slot3X image0X image1X image2X aX), (wValley qV k vV bV cV wV aV eV), (wStoO qY k (qV 0) planY (sY 0 0) (sY 1 0) (sY 2 0) (sY 3 0) (sY 4 0) (sY 5 0) (sY 6 0) (sY 7 0)), (wState (sY 0) k (vY 0) (nY 0) (aY 0)), (wState (sY 1) k (vY 1) (nY 1) (aY 1)), (wState (sY 2) k (vY 2) (nY 2) (aY 2)), (wState (sY 3) k (vY 3) (nY 3) (aY 3)), (wState (sY 4) k (vY 4) (nY 4) (aY 4)), (wState (sY 5) k (vY 5) (nY 5) (aY 5)), (wState (sY 6) k (vY 6) (nY 6) (aY 6)), (wState (sY 7) k (vY 7) (nY 7) (aY 7))])[i]?) = (List.flatten [(wMem qM k nz524 az523)] ++ List.flatten [(wSag qX k tapeX (qV 0) actsX nowX trialX (qY 0) attemptX orderSearchX routeSearchX setSearchX (qM 0) slot0X slot1X slot2X slot3X image0X image1X image2X aX), (wValley qV k vV bV cV wV aV eV), (wMem (fun i => sY 4 (i + 2)) k (nY 4) (aY 4))]).map some := rfl
                have hDc := hD.sub [0, 1, 2, 3, 4, 5, 6, 7, 8, 9, 10, 11, 12, 13, 14, 15, 64, 65, 66] (by decide) hC
                have hFc := va_free hD hS hA [0, 1, 2, 3, 4, 5, 6, 7, 8, 9, 10, 11, 12, 13, 14, 15, 64, 65, 66] hC
                refine va_calli (va_runV (As := [.ref (sY 4 2), .int xz525]) (rest := []) ⟨hx, hb, hml, hown, hts⟩ (c_X11_depthWith l dC dI k H.size qX tapeX actsX nowX trialX (qY 0) attemptX orderSearchX routeSearchX setSearchX slot0X slot1X slot2X slot3X image0X image1X image2X aX qV vV bV cV wV aV eV qM nz524 az523 (fun i => sY 4 (i + 2)) (nY 4) (aY 4) xz525 hbV hcV hwV heV hnz524 (hnY 4) (by show 0 ≤ xz525.toInt ∧ xz525.toInt ≤ 99; omega)) (cwV 2 hts (gk_V (wl_mem 14 rfl) (wl_mem 15 rfl) (wl_mem 16 rfl) (wl_mem 3 rfl) (fun w h => List.mem_cons_of_mem _ (List.mem_append_right _ (List.mem_append_right _ (List.mem_append_right _ (List.mem_append_right _ (List.mem_append_right _ (List.mem_append_right _ (List.mem_append_left _ h)))))))) wkg_c_X11_depthWith) rfl rfl rfl (by decide +kernel) ⟨Nat.le_of_ble_eq_true rfl, Nat.le_of_ble_eq_true rfl⟩) ⟨fun a U g mk q => by obtain ⟨q0, q1, qP, qK, qD⟩ := q; exact ⟨q0, q1, qP, va_K.moved (u := U) (U := U.calling g mk a) (Vm.Alike.refl U.vm) qK, qD⟩, va_recv hK hPc (ci := 11) (q0 := 3) rfl rfl, fun U hU hW => ⟨rfl, by rw [hU], by rw [hU]; exact hPc, va_K.moved hW.alike hK, hDc.weaken (fun _ _ _ _ => trivial)⟩⟩ rfl rfl hl.1 rfl (lv_room (Nat.le_of_ble_eq_true rfl)) dX11_free_45 ⟨Nat.le_of_ble_eq_true rfl, Nat.le_of_ble_eq_true rfl⟩) hS (fun q _ h => hFc q h) hFc (fun rz534 u t H1 locs ht hvm gz533 hB hz1 hk1 hS => ?_)
                obtain ⟨nz535, az536, hnz535, hP1⟩ := hB
                rw [ht] at hP1
                obtain ⟨hP, hD⟩ := w_callR hP hD hk1 hP1 [0] rfl rfl (wk_mem [3, 4, 5, 6, 7, 8, 9, 10, 11, 12, 13, 14, 15, 64, 65, 66] rfl) rfl [some 0] rfl rfl
                clear hPc hC hDc hFc hk1 hP1
                generalize H1 = H at hP hS ⊢
                have hP : va_P (dC, dI) vwCl (List.flatten [(wMem qM k nz535 az536)] ++ List.flatten [(wSag qX k tapeX (qV 0) actsX nowX trialX (qY 0) attemptX orderSearchX routeSearchX setSearchX (qM 0) slot0X slot1X slot2X slot3X image0X image1X image2X aX), (wValley qV k vV bV cV wV aV eV), (wStoO qY k (qV 0) planY (sY 0 0) (sY 1 0) (sY 2 0) (sY 3 0) (sY 4 0) (sY 5 0) (sY 6 0) (sY 7 0)), (wState (sY 0) k (vY 0) (nY 0) (aY 0)), (wState (sY 1) k (vY 1) (nY 1) (aY 1)), (wState (sY 2) k (vY 2) (nY 2) (aY 2)), (wState (sY 3) k (vY 3) (nY 3) (aY 3)), (wState (sY 4) k (vY 4) (nY 4) (aY 4)), (wState (sY 5) k (vY 5) (nY 5) (aY 5)), (wState (sY 6) k (vY 6) (nY 6) (aY 6)), (wState (sY 7) k (vY 7) (nY 7) (aY 7))]) H := hP
                have hD : va_D A (List.flatten [(wMem qM k nz535 az536)] ++ List.flatten [(wSag qX k tapeX (qV 0) actsX nowX trialX (qY 0) attemptX orderSearchX routeSearchX setSearchX (qM 0) slot0X slot1X slot2X slot3X image0X image1X image2X aX), (wValley qV k vV bV cV wV aV eV), (wStoO qY k (qV 0) planY (sY 0 0) (sY 1 0) (sY 2 0) (sY 3 0) (sY 4 0) (sY 5 0) (sY 6 0) (sY 7 0)), (wState (sY 0) k (vY 0) (nY 0) (aY 0)), (wState (sY 1) k (vY 1) (nY 1) (aY 1)), (wState (sY 2) k (vY 2) (nY 2) (aY 2)), (wState (sY 3) k (vY 3) (nY 3) (aY 3)), (wState (sY 4) k (vY 4) (nY 4) (aY 4)), (wState (sY 5) k (vY 5) (nY 5) (aY 5)), (wState (sY 6) k (vY 6) (nY 6) (aY 6)), (wState (sY 7) k (vY 7) (nY 7) (aY 7))]) := hD
                refine W.widen (k := 0) (n := 0) (Nat.le_refl 0) (Nat.le_refl 0) ?_
                refine lv_iload hx hb dX11_free_48 (lv_at hl 2 rfl) ?_
                refine lv_icmp_gt (tgt := 56) hx hb dX11_free_50 (by decide) (fun cz537 => ?_) (fun cz537 => ?_)
                · skip
                  have bz538 := fb_rng rz502
                  have bz539 := fb_rng rz534
                  have zz540 : rz502.toInt < rz534.toInt := zi_lt.mp cz537
                  obtain ⟨xz541, exz541⟩ : ∃ y : Int32, y = xz525 + Int32.ofInt (-1) := ⟨_, rfl⟩
                  have fxz541 : xz541.toInt = xz525.toInt + (-1) := by rw [exz541]; exact fb_addI (y := Int32.ofInt (-1)) (by show -2147483648 ≤ xz525.toInt + (-1); omega) (by show xz525.toInt + (-1) < 2147483648; omega)
                  refine lv_iinc (v := xz541) (lv' := [(5, .int xz541), (0, .ref (qX 0)), (3, .ref (sY 4 2)), (4, .int rz502)]) hx hb dX11_free_56 hl (k := 3) rfl exz541.symm (by decide) rfl (fun ls hl => ?_)
                  refine lv_goto (tgt := 36) hx hb dX11_free_59 (by decide) ?_
                  exact ih36 H locs ls az536 nz535 xz541 (by show (xz541.toInt + 2147483648).toNat < n9_36; omega) hnz535 (by show xz541.toInt ≤ 99; omega) hP hD hS (lv_sub hl [1, 2, 3, 0] rfl)
                · skip
                  have bz542 := fb_rng rz502
                  have bz543 := fb_rng rz534
                  have zz544 : ¬ rz502.toInt < rz534.toInt := fun h9 => cz537 (zi_lt.mpr h9)
                  refine lv_iload hx hb dX11_free_53 (lv_at hl 3 rfl) ?_
                  rw [hQ]
                  exact W.iret (v := xz525) hx hb hr (fun t ht hW => ⟨⟨xz525, (), rfl, trivial, nz535, az536, hnz535, by rw [ht]; exact hP⟩, hS.F ht⟩) hS.2.2 dX11_free_55
          exact lp36_kz526 _ s.heap [] ls aM nM (99 : Int32) (Nat.lt_succ_self _) hnM (by show (99 : Int) ≤ 99; omega) hP hD hS (lv_sub hl [3, 2, 1, 0] rfl)
        · skip
          have zz545 : p1.toInt = (1 : Int) := zi_eq.mp cz499
          refine W.eq (g2 := F0 m 24 ls [.int 1, .ref (sY 4 1)]) (by rw [cz499]) ?_
          refine va_aldq hx hb hK hP 63 4 rfl rfl (by unfold vp_in; decide) dX11_free_24 ?_
          refine W.eq (g2 := F0 m 25 ls [.ref (sY 4 5)]) rfl ?_
          refine lv_astore_n (lv' := [(3, .ref (sY 4 5)), (0, .ref (qX 0)), (1, .int p1), (2, .int p2)]) hx hb dX11_free_25 rfl hl (by decide) rfl (fun ls hl => ?_)
          refine lv_aload_n hx hb dX11_free_26 rfl (lv_at hl 0 rfl) ?_
          have hPc := hP.sub (ws' := (List.flatten [(wMem (fun i => sY 4 (i + 5)) k (fun i => (nY 4) (i + 1)) (fun i => (aY 4) (i + 2)))])) [67, 68, 69] rfl
          refine vp_callSi (va_Run.run (va_runV (As := []) (rest := []) ⟨hx, hb, hml, hown, hts⟩ (c_X2_depth l dC dI k (fun i => sY 4 (i + 5)) (fun i => (nY 4) (i + 1)) (fun i => (aY 4) (i + 2)) (fun i => (hnY 4) (i + 1))) (cwV 0 hts (gk_V (wl_mem 10 rfl) (wl_mem 11 rfl) (wl_mem 12 rfl) (wl_mem 13 rfl) (fun w h => List.mem_cons_of_mem _ (List.mem_append_right _ (List.mem_append_right _ (List.mem_append_right _ (List.mem_append_right _ (List.mem_append_right _ (List.mem_append_left _ h))))))) wkg_c_X2_depth) rfl rfl rfl (by decide +kernel) ⟨Nat.le_of_ble_eq_true rfl, Nat.le_of_ble_eq_true rfl⟩) ⟨fun a U g mk q => by obtain ⟨q0, qP, qK⟩ := q; exact ⟨q0, qP, va_K.moved (u := U) (U := U.calling g mk a) (Vm.Alike.refl U.vm) qK⟩, va_recv hK hPc (ci := 2) (q0 := 0) rfl rfl, fun U hU hW => ⟨rfl, by rw [hU]; exact hPc, va_K.moved hW.alike hK⟩⟩ rfl rfl hl.1 rfl (lv_room (Nat.le_of_ble_eq_true rfl)) dX11_free_27 ⟨Nat.le_of_ble_eq_true rfl, Nat.le_of_ble_eq_true rfl⟩)) (fun rz547 gz546 => ?_)
          clear hPc
          refine lv_istore (lv' := [(4, .int rz547), (3, .ref (sY 4 5)), (0, .ref (qX 0)), (1, .int p1), (2, .int p2)]) hx hb dX11_free_30 hl (by decide) rfl (fun ls hl => ?_)
          refine lv_bipush (v := 99) hx hb dX11_free_32 (by decide) ?_
          refine lv_istore (lv' := [(5, .int 99), (4, .int rz547), (3, .ref (sY 4 5)), (0, .ref (qX 0)), (1, .int p1), (2, .int p2)]) hx hb dX11_free_34 hl (by decide) rfl (fun ls hl => ?_)
          have lp36_kz571 : ∀ (n9_36 : Nat) (H : Heap) (locs : List Loc) (ls : Array Slot) (az568 : Nat → Nat → Int32) (nz569 : Nat → Int32) (xz570 : Int32), (xz570.toInt + 2147483648).toNat < n9_36 → Rg 0 8 nz569 → xz570.toInt ≤ 99 → va_P (dC, dI) vwCl (List.flatten [(wMem qM k nz569 az568)] ++ List.flatten [(wSag qX k tapeX (qV 0) actsX nowX trialX (qY 0) attemptX orderSearchX routeSearchX setSearchX (qM 0) slot0X slot1X slot2X slot3X image0X image1X image2X aX), (wValley qV k vV bV cV wV aV eV), (wStoO qY k (qV 0) planY (sY 0 0) (sY 1 0) (sY 2 0) (sY 3 0) (sY 4 0) (sY 5 0) (sY 6 0) (sY 7 0)), (wState (sY 0) k (vY 0) (nY 0) (aY 0)), (wState (sY 1) k (vY 1) (nY 1) (aY 1)), (wState (sY 2) k (vY 2) (nY 2) (aY 2)), (wState (sY 3) k (vY 3) (nY 3) (aY 3)), (wState (sY 4) k (vY 4) (nY 4) (aY 4)), (wState (sY 5) k (vY 5) (nY 5) (aY 5)), (wState (sY 6) k (vY 6) (nY 6) (aY 6)), (wState (sY 7) k (vY 7) (nY 7) (aY 7))]) H → va_D A (List.flatten [(wMem qM k nz569 az568)] ++ List.flatten [(wSag qX k tapeX (qV 0) actsX nowX trialX (qY 0) attemptX orderSearchX routeSearchX setSearchX (qM 0) slot0X slot1X slot2X slot3X image0X image1X image2X aX), (wValley qV k vV bV cV wV aV eV), (wStoO qY k (qV 0) planY (sY 0 0) (sY 1 0) (sY 2 0) (sY 3 0) (sY 4 0) (sY 5 0) (sY 6 0) (sY 7 0)), (wState (sY 0) k (vY 0) (nY 0) (aY 0)), (wState (sY 1) k (vY 1) (nY 1) (aY 1)), (wState (sY 2) k (vY 2) (nY 2) (aY 2)), (wState (sY 3) k (vY 3) (nY 3) (aY 3)), (wState (sY 4) k (vY 4) (nY 4) (aY 4)), (wState (sY 5) k (vY 5) (nY 5) (aY 5)), (wState (sY 6) k (vY 6) (nY 6) (aY 6)), (wState (sY 7) k (vY 7) (nY 7) (aY 7))]) → va_S A s.heap H locs → lv_has ls 6 [(0, .ref (qX 0)), (3, .ref (sY 4 5)), (4, .int rz547), (5, .int xz570)] → W p l e (headSpec wk_c_X11_free ({ frames := 2, cells := 0, slots := 0, locals := 49 })).room s m ([.ref (qX 0), .int p1, .int p2] : List Value).toArray below meth c H locs 0 0 Q (F0 m 36 ls []) := by
            intro n9_36
            induction n9_36 with
            | zero => intro H locs ls az568 nz569 xz570 hm; exact absurd hm (Nat.not_lt_zero _)
            | succ n9_36 ih36 =>
              intro H locs ls az568 nz569 xz570 hm36 hnz569 jz572 hP hD hS hl
              refine lv_iload hx hb dX11_free_36 (lv_at hl 3 rfl) ?_
              refine lv_if_le (tgt := 62) hx hb dX11_free_38 (by decide) (fun cz573 => ?_) (fun cz573 => ?_)
              · skip
                have bz574 := fb_rng xz570
                have zz575 : xz570.toInt ≤ (0 : Int) := zi_le.mp cz573
                refine lv_iconst (v := 0) hx hb dX11_free_62 (by decide) ?_
                rw [hQ]
                exact W.iret (v := (0 : Int32)) hx hb hr (fun t ht hW => ⟨⟨(0 : Int32), (), rfl, trivial, nz569, az568, hnz569, by rw [ht]; exact hP⟩, hS.F ht⟩) hS.2.2 dX11_free_63
              · skip
                have bz576 := fb_rng xz570
                have zz577 : ¬ xz570.toInt ≤ (0 : Int) := fun h9 => cz573 (zi_le.mpr h9)
                refine lv_aload_n hx hb dX11_free_41 rfl (lv_at hl 0 rfl) ?_
                refine lv_aload_n hx hb dX11_free_42 rfl (lv_at hl 1 rfl) ?_
                refine lv_iload hx hb dX11_free_43 (lv_at hl 3 rfl) ?_
                have hPc := hP.sub (ws' := (List.flatten [(wMem qM k nz569 az568)] ++ List.flatten [(wSag qX k tapeX (qV 0) actsX nowX trialX (qY 0) attemptX orderSearchX routeSearchX setSearchX (qM 0) slot0X slot1X slot2X slot3X image0X image1X image2X aX), (wValley qV k vV bV cV wV aV eV), (wMem (fun i => sY 4 (i + 5)) k (fun i => (nY 4) (i + 1)) (fun i => (aY 4) (i + 2)))])) [0, 1, 2, 3, 4, 5, 6, 7, 8, 9, 10, 11, 12, 13, 14, 15, 67, 68, 69] rfl
                have hC : [0, 1, 2, 3, 4, 5, 6, 7, 8, 9, 10, 11, 12, 13, 14, 15, 67, 68, 69].map (fun i => (List.flatten [(wMem qM k nz569 az568)] ++ List.flatten [(wSag qX k tapeX (qV 0) actsX nowX trialX (qY 0) attemptX orderSearchX routeSearchX setSearchX (qM 0) slot0X slot1X slot2X slot3X image0X image1X image2X aX), (wValley qV k vV bV cV wV aV eV), (wStoO qY k (qV 0) planY (sY 0 0) (sY 1 0) (sY 2 0) (sY 3 0) (sY 4 0) (sY 5 0) (sY 6 0) (sY 7 0)), (wState (sY 0) k (vY 0) (nY 0) (aY 0)), (wState (sY 1) k (vY 1) (nY 1) (aY 1)), (wState (sY 2) k (vY 2) (nY 2) (aY 2)), (wState (sY 3) k (vY 3) (nY 3) (aY 3)), (wState (sY 4) k (vY 4) (nY 4) (aY 4)), (wState (sY 5) k (vY 5) (nY 5) (aY 5)), (wState (sY 6) k (vY 6) (nY 6) (aY 6)), (wState (sY 7) k (vY 7) (nY 7) (aY 7))])[i]?) = (List.flatten [(wMem qM k nz569 az568)] ++ List.flatten [(wSag qX k tapeX (qV 0) actsX nowX trialX (qY 0) attemptX orderSearchX routeSearchX setSearchX (qM 0) slot0X slot1X slot2X slot3X image0X image1X image2X aX), (wValley qV k vV bV cV wV aV eV), (wMem (fun i => sY 4 (i + 5)) k (fun i => (nY 4) (i + 1)) (fun i => (aY 4) (i + 2)))]).map some := rfl
                have hDc := hD.sub [0, 1, 2, 3, 4, 5, 6, 7, 8, 9, 10, 11, 12, 13, 14, 15, 67, 68, 69] (by decide) hC
                have hFc := va_free hD hS hA [0, 1, 2, 3, 4, 5, 6, 7, 8, 9, 10, 11, 12, 13, 14, 15, 67, 68, 69] hC
                refine va_calli (va_runV (As := [.ref (sY 4 5), .int xz570]) (rest := []) ⟨hx, hb, hml, hown, hts⟩ (c_X11_depthWith l dC dI k H.size qX tapeX actsX nowX trialX (qY 0) attemptX orderSearchX routeSearchX setSearchX slot0X slot1X slot2X slot3X image0X image1X image2X aX qV vV bV cV wV aV eV qM nz569 az568 (fun i => sY 4 (i + 5)) (fun i => (nY 4) (i + 1)) (fun i => (aY 4) (i + 2)) xz570 hbV hcV hwV heV hnz569 (fun i => (hnY 4) (i + 1)) (by show 0 ≤ xz570.toInt ∧ xz570.toInt ≤ 99; omega)) (cwV 2 hts (gk_V (wl_mem 14 rfl) (wl_mem 15 rfl) (wl_mem 16 rfl) (wl_mem 3 rfl) (fun w h => List.mem_cons_of_mem _ (List.mem_append_right _ (List.mem_append_right _ (List.mem_append_right _ (List.mem_append_right _ (List.mem_append_right _ (List.mem_append_right _ (List.mem_append_left _ h)))))))) wkg_c_X11_depthWith) rfl rfl rfl (by decide +kernel) ⟨Nat.le_of_ble_eq_true rfl, Nat.le_of_ble_eq_true rfl⟩) ⟨fun a U g mk q => by obtain ⟨q0, q1, qP, qK, qD⟩ := q; exact ⟨q0, q1, qP, va_K.moved (u := U) (U := U.calling g mk a) (Vm.Alike.refl U.vm) qK, qD⟩, va_recv hK hPc (ci := 11) (q0 := 3) rfl rfl, fun U hU hW => ⟨rfl, by rw [hU], by rw [hU]; exact hPc, va_K.moved hW.alike hK, hDc.weaken (fun _ _ _ _ => trivial)⟩⟩ rfl rfl hl.1 rfl (lv_room (Nat.le_of_ble_eq_true rfl)) dX11_free_45 ⟨Nat.le_of_ble_eq_true rfl, Nat.le_of_ble_eq_true rfl⟩) hS (fun q _ h => hFc q h) hFc (fun rz579 u t H1 locs ht hvm gz578 hB hz1 hk1 hS => ?_)
                obtain ⟨nz580, az581, hnz580, hP1⟩ := hB
                rw [ht] at hP1
                obtain ⟨hP, hD⟩ := w_callR hP hD hk1 hP1 [0] rfl rfl (wk_mem [3, 4, 5, 6, 7, 8, 9, 10, 11, 12, 13, 14, 15, 67, 68, 69] rfl) rfl [some 0] rfl rfl
                clear hPc hC hDc hFc hk1 hP1
                generalize H1 = H at hP hS ⊢
                have hP : va_P (dC, dI) vwCl (List.flatten [(wMem qM k nz580 az581)] ++ List.flatten [(wSag qX k tapeX (qV 0) actsX nowX trialX (qY 0) attemptX orderSearchX routeSearchX setSearchX (qM 0) slot0X slot1X slot2X slot3X image0X image1X image2X aX), (wValley qV k vV bV cV wV aV eV), (wStoO qY k (qV 0) planY (sY 0 0) (sY 1 0) (sY 2 0) (sY 3 0) (sY 4 0) (sY 5 0) (sY 6 0) (sY 7 0)), (wState (sY 0) k (vY 0) (nY 0) (aY 0)), (wState (sY 1) k (vY 1) (nY 1) (aY 1)), (wState (sY 2) k (vY 2) (nY 2) (aY 2)), (wState (sY 3) k (vY 3) (nY 3) (aY 3)), (wState (sY 4) k (vY 4) (nY 4) (aY 4)), (wState (sY 5) k (vY 5) (nY 5) (aY 5)), (wState (sY 6) k (vY 6) (nY 6) (aY 6)), (wState (sY 7) k (vY 7) (nY 7) (aY 7))]) H := hP
                have hD : va_D A (List.flatten [(wMem qM k nz580 az581)] ++ List.flatten [(wSag qX k tapeX (qV 0) actsX nowX trialX (qY 0) attemptX orderSearchX routeSearchX setSearchX (qM 0) slot0X slot1X slot2X slot3X image0X image1X image2X aX), (wValley qV k vV bV cV wV aV eV), (wStoO qY k (qV 0) planY (sY 0 0) (sY 1 0) (sY 2 0) (sY 3 0) (sY 4 0) (sY 5 0) (sY 6 0) (sY 7 0)), (wState (sY 0) k (vY 0) (nY 0) (aY 0)), (wState (sY 1) k (vY 1) (nY 1) (aY 1)), (wState (sY 2) k (vY 2) (nY 2) (aY 2)), (wState (sY 3) k (vY 3) (nY 3) (aY 3)), (wState (sY 4) k (vY 4) (nY 4) (aY 4)), (wState (sY 5) k (vY 5) (nY 5) (aY 5)), (wState (sY 6) k (vY 6) (nY 6) (aY 6)), (wState (sY 7) k (vY 7) (nY 7) (aY 7))]) := hD
                refine W.widen (k := 0) (n := 0) (Nat.le_refl 0) (Nat.le_refl 0) ?_
                refine lv_iload hx hb dX11_free_48 (lv_at hl 2 rfl) ?_
                refine lv_icmp_gt (tgt := 56) hx hb dX11_free_50 (by decide) (fun cz582 => ?_) (fun cz582 => ?_)
                · skip
                  have bz583 := fb_rng rz547
                  have bz584 := fb_rng rz579
                  have zz585 : rz547.toInt < rz579.toInt := zi_lt.mp cz582
                  obtain ⟨xz586, exz586⟩ : ∃ y : Int32, y = xz570 + Int32.ofInt (-1) := ⟨_, rfl⟩
                  have fxz586 : xz586.toInt = xz570.toInt + (-1) := by rw [exz586]; exact fb_addI (y := Int32.ofInt (-1)) (by show -2147483648 ≤ xz570.toInt + (-1); omega) (by show xz570.toInt + (-1) < 2147483648; omega)
                  refine lv_iinc (v := xz586) (lv' := [(5, .int xz586), (0, .ref (qX 0)), (3, .ref (sY 4 5)), (4, .int rz547)]) hx hb dX11_free_56 hl (k := 3) rfl exz586.symm (by decide) rfl (fun ls hl => ?_)
                  refine lv_goto (tgt := 36) hx hb dX11_free_59 (by decide) ?_
                  exact ih36 H locs ls az581 nz580 xz586 (by show (xz586.toInt + 2147483648).toNat < n9_36; omega) hnz580 (by show xz586.toInt ≤ 99; omega) hP hD hS (lv_sub hl [1, 2, 3, 0] rfl)
                · skip
                  have bz587 := fb_rng rz547
                  have bz588 := fb_rng rz579
                  have zz589 : ¬ rz547.toInt < rz579.toInt := fun h9 => cz582 (zi_lt.mpr h9)
                  refine lv_iload hx hb dX11_free_53 (lv_at hl 3 rfl) ?_
                  rw [hQ]
                  exact W.iret (v := xz570) hx hb hr (fun t ht hW => ⟨⟨xz570, (), rfl, trivial, nz580, az581, hnz580, by rw [ht]; exact hP⟩, hS.F ht⟩) hS.2.2 dX11_free_55
          exact lp36_kz571 _ s.heap [] ls aM nM (99 : Int32) (Nat.lt_succ_self _) hnM (by show (99 : Int) ≤ 99; omega) hP hD hS (lv_sub hl [3, 2, 1, 0] rfl)
        · skip
          have zz590 : p1.toInt = (2 : Int) := zi_eq.mp cz499
          refine W.eq (g2 := F0 m 24 ls [.int 2, .ref (sY 4 1)]) (by rw [cz499]) ?_
          refine va_aldq hx hb hK hP 63 4 rfl rfl (by unfold vp_in; decide) dX11_free_24 ?_
          refine W.eq (g2 := F0 m 25 ls [.ref (sY 4 8)]) rfl ?_
          refine lv_astore_n (lv' := [(3, .ref (sY 4 8)), (0, .ref (qX 0)), (1, .int p1), (2, .int p2)]) hx hb dX11_free_25 rfl hl (by decide) rfl (fun ls hl => ?_)
          refine lv_aload_n hx hb dX11_free_26 rfl (lv_at hl 0 rfl) ?_
          have hPc := hP.sub (ws' := (List.flatten [(wMem (fun i => sY 4 (i + 8)) k (fun i => (nY 4) (i + 2)) (fun i => (aY 4) (i + 4)))])) [70, 71, 72] rfl
          refine vp_callSi (va_Run.run (va_runV (As := []) (rest := []) ⟨hx, hb, hml, hown, hts⟩ (c_X2_depth l dC dI k (fun i => sY 4 (i + 8)) (fun i => (nY 4) (i + 2)) (fun i => (aY 4) (i + 4)) (fun i => (hnY 4) (i + 2))) (cwV 0 hts (gk_V (wl_mem 10 rfl) (wl_mem 11 rfl) (wl_mem 12 rfl) (wl_mem 13 rfl) (fun w h => List.mem_cons_of_mem _ (List.mem_append_right _ (List.mem_append_right _ (List.mem_append_right _ (List.mem_append_right _ (List.mem_append_right _ (List.mem_append_left _ h))))))) wkg_c_X2_depth) rfl rfl rfl (by decide +kernel) ⟨Nat.le_of_ble_eq_true rfl, Nat.le_of_ble_eq_true rfl⟩) ⟨fun a U g mk q => by obtain ⟨q0, qP, qK⟩ := q; exact ⟨q0, qP, va_K.moved (u := U) (U := U.calling g mk a) (Vm.Alike.refl U.vm) qK⟩, va_recv hK hPc (ci := 2) (q0 := 0) rfl rfl, fun U hU hW => ⟨rfl, by rw [hU]; exact hPc, va_K.moved hW.alike hK⟩⟩ rfl rfl hl.1 rfl (lv_room (Nat.le_of_ble_eq_true rfl)) dX11_free_27 ⟨Nat.le_of_ble_eq_true rfl, Nat.le_of_ble_eq_true rfl⟩)) (fun rz592 gz591 => ?_)
          clear hPc
          refine lv_istore (lv' := [(4, .int rz592), (3, .ref (sY 4 8)), (0, .ref (qX 0)), (1, .int p1), (2, .int p2)]) hx hb dX11_free_30 hl (by decide) rfl (fun ls hl => ?_)
          refine lv_bipush (v := 99) hx hb dX11_free_32 (by decide) ?_
          refine lv_istore (lv' := [(5, .int 99), (4, .int rz592), (3, .ref (sY 4 8)), (0, .ref (qX 0)), (1, .int p1), (2, .int p2)]) hx hb dX11_free_34 hl (by decide) rfl (fun ls hl => ?_)
          have lp36_kz616 : ∀ (n9_36 : Nat) (H : Heap) (locs : List Loc) (ls : Array Slot) (az613 : Nat → Nat → Int32) (nz614 : Nat → Int32) (xz615 : Int32), (xz615.toInt + 2147483648).toNat < n9_36 → Rg 0 8 nz614 → xz615.toInt ≤ 99 → va_P (dC, dI) vwCl (List.flatten [(wMem qM k nz614 az613)] ++ List.flatten [(wSag qX k tapeX (qV 0) actsX nowX trialX (qY 0) attemptX orderSearchX routeSearchX setSearchX (qM 0) slot0X slot1X slot2X slot3X image0X image1X image2X aX), (wValley qV k vV bV cV wV aV eV), (wStoO qY k (qV 0) planY (sY 0 0) (sY 1 0) (sY 2 0) (sY 3 0) (sY 4 0) (sY 5 0) (sY 6 0) (sY 7 0)), (wState (sY 0) k (vY 0) (nY 0) (aY 0)), (wState (sY 1) k (vY 1) (nY 1) (aY 1)), (wState (sY 2) k (vY 2) (nY 2) (aY 2)), (wState (sY 3) k (vY 3) (nY 3) (aY 3)), (wState (sY 4) k (vY 4) (nY 4) (aY 4)), (wState (sY 5) k (vY 5) (nY 5) (aY 5)), (wState (sY 6) k (vY 6) (nY 6) (aY 6)), (wState (sY 7) k (vY 7) (nY 7) (aY 7))]) H → va_D A (List.flatten [(wMem qM k nz614 az613)] ++ List.flatten [(wSag qX k tapeX (qV 0) actsX nowX trialX (qY 0) attemptX orderSearchX routeSearchX setSearchX (qM 0) slot0X slot1X slot2X slot3X image0X image1X image2X aX), (wValley qV k vV bV cV wV aV eV), (wStoO qY k (qV 0) planY (sY 0 0) (sY 1 0) (sY 2 0) (sY 3 0) (sY 4 0) (sY 5 0) (sY 6 0) (sY 7 0)), (wState (sY 0) k (vY 0) (nY 0) (aY 0)), (wState (sY 1) k (vY 1) (nY 1) (aY 1)), (wState (sY 2) k (vY 2) (nY 2) (aY 2)), (wState (sY 3) k (vY 3) (nY 3) (aY 3)), (wState (sY 4) k (vY 4) (nY 4) (aY 4)), (wState (sY 5) k (vY 5) (nY 5) (aY 5)), (wState (sY 6) k (vY 6) (nY 6) (aY 6)), (wState (sY 7) k (vY 7) (nY 7) (aY 7))]) → va_S A s.heap H locs → lv_has ls 6 [(0, .ref (qX 0)), (3, .ref (sY 4 8)), (4, .int rz592), (5, .int xz615)] → W p l e (headSpec wk_c_X11_free ({ frames := 2, cells := 0, slots := 0, locals := 49 })).room s m ([.ref (qX 0), .int p1, .int p2] : List Value).toArray below meth c H locs 0 0 Q (F0 m 36 ls []) := by
            intro n9_36
            induction n9_36 with
            | zero => intro H locs ls az613 nz614 xz615 hm; exact absurd hm (Nat.not_lt_zero _)
            | succ n9_36 ih36 =>
              intro H locs ls az613 nz614 xz615 hm36 hnz614 jz617 hP hD hS hl
              refine lv_iload hx hb dX11_free_36 (lv_at hl 3 rfl) ?_
              refine lv_if_le (tgt := 62) hx hb dX11_free_38 (by decide) (fun cz618 => ?_) (fun cz618 => ?_)
              · skip
                have bz619 := fb_rng xz615
                have zz620 : xz615.toInt ≤ (0 : Int) := zi_le.mp cz618
                refine lv_iconst (v := 0) hx hb dX11_free_62 (by decide) ?_
                rw [hQ]
                exact W.iret (v := (0 : Int32)) hx hb hr (fun t ht hW => ⟨⟨(0 : Int32), (), rfl, trivial, nz614, az613, hnz614, by rw [ht]; exact hP⟩, hS.F ht⟩) hS.2.2 dX11_free_63
              · skip
                have bz621 := fb_rng xz615
                have zz622 : ¬ xz615.toInt ≤ (0 : Int) := fun h9 => cz618 (zi_le.mpr h9)
                refine lv_aload_n hx hb dX11_free_41 rfl (lv_at hl 0 rfl) ?_
                refine lv_aload_n hx hb dX11_free_42 rfl (lv_at hl 1 rfl) ?_
                refine lv_iload hx hb dX11_free_43 (lv_at hl 3 rfl) ?_
                have hPc := hP.sub (ws' := (List.flatten [(wMem qM k nz614 az613)] ++ List.flatten [(wSag qX k tapeX (qV 0) actsX nowX trialX (qY 0) attemptX orderSearchX routeSearchX setSearchX (qM 0) slot0X slot1X slot2X slot3X image0X image1X image2X aX), (wValley qV k vV bV cV wV aV eV), (wMem (fun i => sY 4 (i + 8)) k (fun i => (nY 4) (i + 2)) (fun i => (aY 4) (i + 4)))])) [0, 1, 2, 3, 4, 5, 6, 7, 8, 9, 10, 11, 12, 13, 14, 15, 70, 71, 72] rfl
                have hC : [0, 1, 2, 3, 4, 5, 6, 7, 8, 9, 10, 11, 12, 13, 14, 15, 70, 71, 72].map (fun i => (List.flatten [(wMem qM k nz614 az613)] ++ List.flatten [(wSag qX k tapeX (qV 0) actsX nowX trialX (qY 0) attemptX orderSearchX routeSearchX setSearchX (qM 0) slot0X slot1X slot2X slot3X image0X image1X image2X aX), (wValley qV k vV bV cV wV aV eV), (wStoO qY k (qV 0) planY (sY 0 0) (sY 1 0) (sY 2 0) (sY 3 0) (sY 4 0) (sY 5 0) (sY 6 0) (sY 7 0)), (wState (sY 0) k (vY 0) (nY 0) (aY 0)), (wState (sY 1) k (vY 1) (nY 1) (aY 1)), (wState (sY 2) k (vY 2) (nY 2) (aY 2)), (wState (sY 3) k (vY 3) (nY 3) (aY 3)), (wState (sY 4) k (vY 4) (nY 4) (aY 4)), (wState (sY 5) k (vY 5) (nY 5) (aY 5)), (wState (sY 6) k (vY 6) (nY 6) (aY 6)), (wState (sY 7) k (vY 7) (nY 7) (aY 7))])[i]?) = (List.flatten [(wMem qM k nz614 az613)] ++ List.flatten [(wSag qX k tapeX (qV 0) actsX nowX trialX (qY 0) attemptX orderSearchX routeSearchX setSearchX (qM 0) slot0X slot1X slot2X slot3X image0X image1X image2X aX), (wValley qV k vV bV cV wV aV eV), (wMem (fun i => sY 4 (i + 8)) k (fun i => (nY 4) (i + 2)) (fun i => (aY 4) (i + 4)))]).map some := rfl
                have hDc := hD.sub [0, 1, 2, 3, 4, 5, 6, 7, 8, 9, 10, 11, 12, 13, 14, 15, 70, 71, 72] (by decide) hC
                have hFc := va_free hD hS hA [0, 1, 2, 3, 4, 5, 6, 7, 8, 9, 10, 11, 12, 13, 14, 15, 70, 71, 72] hC
                refine va_calli (va_runV (As := [.ref (sY 4 8), .int xz615]) (rest := []) ⟨hx, hb, hml, hown, hts⟩ (c_X11_depthWith l dC dI k H.size qX tapeX actsX nowX trialX (qY 0) attemptX orderSearchX routeSearchX setSearchX slot0X slot1X slot2X slot3X image0X image1X image2X aX qV vV bV cV wV aV eV qM nz614 az613 (fun i => sY 4 (i + 8)) (fun i => (nY 4) (i + 2)) (fun i => (aY 4) (i + 4)) xz615 hbV hcV hwV heV hnz614 (fun i => (hnY 4) (i + 2)) (by show 0 ≤ xz615.toInt ∧ xz615.toInt ≤ 99; omega)) (cwV 2 hts (gk_V (wl_mem 14 rfl) (wl_mem 15 rfl) (wl_mem 16 rfl) (wl_mem 3 rfl) (fun w h => List.mem_cons_of_mem _ (List.mem_append_right _ (List.mem_append_right _ (List.mem_append_right _ (List.mem_append_right _ (List.mem_append_right _ (List.mem_append_right _ (List.mem_append_left _ h)))))))) wkg_c_X11_depthWith) rfl rfl rfl (by decide +kernel) ⟨Nat.le_of_ble_eq_true rfl, Nat.le_of_ble_eq_true rfl⟩) ⟨fun a U g mk q => by obtain ⟨q0, q1, qP, qK, qD⟩ := q; exact ⟨q0, q1, qP, va_K.moved (u := U) (U := U.calling g mk a) (Vm.Alike.refl U.vm) qK, qD⟩, va_recv hK hPc (ci := 11) (q0 := 3) rfl rfl, fun U hU hW => ⟨rfl, by rw [hU], by rw [hU]; exact hPc, va_K.moved hW.alike hK, hDc.weaken (fun _ _ _ _ => trivial)⟩⟩ rfl rfl hl.1 rfl (lv_room (Nat.le_of_ble_eq_true rfl)) dX11_free_45 ⟨Nat.le_of_ble_eq_true rfl, Nat.le_of_ble_eq_true rfl⟩) hS (fun q _ h => hFc q h) hFc (fun rz624 u t H1 locs ht hvm gz623 hB hz1 hk1 hS => ?_)
                obtain ⟨nz625, az626, hnz625, hP1⟩ := hB
                rw [ht] at hP1
                obtain ⟨hP, hD⟩ := w_callR hP hD hk1 hP1 [0] rfl rfl (wk_mem [3, 4, 5, 6, 7, 8, 9, 10, 11, 12, 13, 14, 15, 70, 71, 72] rfl) rfl [some 0] rfl rfl
                clear hPc hC hDc hFc hk1 hP1
                generalize H1 = H at hP hS ⊢
                have hP : va_P (dC, dI) vwCl (List.flatten [(wMem qM k nz625 az626)] ++ List.flatten [(wSag qX k tapeX (qV 0) actsX nowX trialX (qY 0) attemptX orderSearchX routeSearchX setSearchX (qM 0) slot0X slot1X slot2X slot3X image0X image1X image2X aX), (wValley qV k vV bV cV wV aV eV), (wStoO qY k (qV 0) planY (sY 0 0) (sY 1 0) (sY 2 0) (sY 3 0) (sY 4 0) (sY 5 0) (sY 6 0) (sY 7 0)), (wState (sY 0) k (vY 0) (nY 0) (aY 0)), (wState (sY 1) k (vY 1) (nY 1) (aY 1)), (wState (sY 2) k (vY 2) (nY 2) (aY 2)), (wState (sY 3) k (vY 3) (nY 3) (aY 3)), (wState (sY 4) k (vY 4) (nY 4) (aY 4)), (wState (sY 5) k (vY 5) (nY 5) (aY 5)), (wState (sY 6) k (vY 6) (nY 6) (aY 6)), (wState (sY 7) k (vY 7) (nY 7) (aY 7))]) H := hP
                have hD : va_D A (List.flatten [(wMem qM k nz625 az626)] ++ List.flatten [(wSag qX k tapeX (qV 0) actsX nowX trialX (qY 0) attemptX orderSearchX routeSearchX setSearchX (qM 0) slot0X slot1X slot2X slot3X image0X image1X image2X aX), (wValley qV k vV bV cV wV aV eV), (wStoO qY k (qV 0) planY (sY 0 0) (sY 1 0) (sY 2 0) (sY 3 0) (sY 4 0) (sY 5 0) (sY 6 0) (sY 7 0)), (wState (sY 0) k (vY 0) (nY 0) (aY 0)), (wState (sY 1) k (vY 1) (nY 1) (aY 1)), (wState (sY 2) k (vY 2) (nY 2) (aY 2)), (wState (sY 3) k (vY 3) (nY 3) (aY 3)), (wState (sY 4) k (vY 4) (nY 4) (aY 4)), (wState (sY 5) k (vY 5) (nY 5) (aY 5)), (wState (sY 6) k (vY 6) (nY 6) (aY 6)), (wState (sY 7) k (vY 7) (nY 7) (aY 7))]) := hD
                refine W.widen (k := 0) (n := 0) (Nat.le_refl 0) (Nat.le_refl 0) ?_
                refine lv_iload hx hb dX11_free_48 (lv_at hl 2 rfl) ?_
                refine lv_icmp_gt (tgt := 56) hx hb dX11_free_50 (by decide) (fun cz627 => ?_) (fun cz627 => ?_)
                · skip
                  have bz628 := fb_rng rz592
                  have bz629 := fb_rng rz624
                  have zz630 : rz592.toInt < rz624.toInt := zi_lt.mp cz627
                  obtain ⟨xz631, exz631⟩ : ∃ y : Int32, y = xz615 + Int32.ofInt (-1) := ⟨_, rfl⟩
                  have fxz631 : xz631.toInt = xz615.toInt + (-1) := by rw [exz631]; exact fb_addI (y := Int32.ofInt (-1)) (by show -2147483648 ≤ xz615.toInt + (-1); omega) (by show xz615.toInt + (-1) < 2147483648; omega)
                  refine lv_iinc (v := xz631) (lv' := [(5, .int xz631), (0, .ref (qX 0)), (3, .ref (sY 4 8)), (4, .int rz592)]) hx hb dX11_free_56 hl (k := 3) rfl exz631.symm (by decide) rfl (fun ls hl => ?_)
                  refine lv_goto (tgt := 36) hx hb dX11_free_59 (by decide) ?_
                  exact ih36 H locs ls az626 nz625 xz631 (by show (xz631.toInt + 2147483648).toNat < n9_36; omega) hnz625 (by show xz631.toInt ≤ 99; omega) hP hD hS (lv_sub hl [1, 2, 3, 0] rfl)
                · skip
                  have bz632 := fb_rng rz592
                  have bz633 := fb_rng rz624
                  have zz634 : ¬ rz592.toInt < rz624.toInt := fun h9 => cz627 (zi_lt.mpr h9)
                  refine lv_iload hx hb dX11_free_53 (lv_at hl 3 rfl) ?_
                  rw [hQ]
                  exact W.iret (v := xz615) hx hb hr (fun t ht hW => ⟨⟨xz615, (), rfl, trivial, nz625, az626, hnz625, by rw [ht]; exact hP⟩, hS.F ht⟩) hS.2.2 dX11_free_55
          exact lp36_kz616 _ s.heap [] ls aM nM (99 : Int32) (Nat.lt_succ_self _) hnM (by show (99 : Int) ≤ 99; omega) hP hD hS (lv_sub hl [3, 2, 1, 0] rfl)
      · skip
        have zz635 : ¬ p2.toInt < (0 : Int) := fun h9 => cz67 (zi_lt.mpr h9)
        have zz636 : ¬ (7 : Int) ≤ p2.toInt := fun h9 => cz68 (zi_le.mpr h9)
        have zz637 : p2.toInt = (4 : Int) := zi_eq.mp cz69
        refine W.eq (g2 := F0 m 20 ls [.ref (sY 5 0)]) rfl ?_
        refine va_get (D := (dC, dI)) (ci := 7) (v := .ref (sY 5 1)) (C := RX7) (T := TX7) (N := 9) hx hb hts (fun w h => List.mem_cons_of_mem _ (List.mem_append_right _ (List.mem_append_right _ (List.mem_append_right _ (List.mem_append_right _ (List.mem_append_left _ h)))))) hown hK hP 73 rfl rfl 0 (by decide) (hts (.fieldLink RX11 194 "SagMemory$State" "memories" "[LSagMemory$Memory;") (wl_mem 9 rfl)) (fun _ h9 => h9) rfl dX11_free_20 ?_
        refine lv_iload_n hx hb dX11_free_23 rfl (lv_at hl 1 rfl) ?_
        rcases (show p1 = 0 ∨ p1 = 1 ∨ p1 = 2 by simp only [zi_eq]; show p1.toInt = 0 ∨ p1.toInt = 1 ∨ p1.toInt = 2; omega) with cz638 | cz638 | cz638
        · skip
          have zz639 : p1.toInt = (0 : Int) := zi_eq.mp cz638
          refine W.eq (g2 := F0 m 24 ls [.int 0, .ref (sY 5 1)]) (by rw [cz638]) ?_
          refine va_aldq hx hb hK hP 74 4 rfl rfl (by unfold vp_in; decide) dX11_free_24 ?_
          refine W.eq (g2 := F0 m 25 ls [.ref (sY 5 2)]) rfl ?_
          refine lv_astore_n (lv' := [(3, .ref (sY 5 2)), (0, .ref (qX 0)), (1, .int p1), (2, .int p2)]) hx hb dX11_free_25 rfl hl (by decide) rfl (fun ls hl => ?_)
          refine lv_aload_n hx hb dX11_free_26 rfl (lv_at hl 0 rfl) ?_
          have hPc := hP.sub (ws' := (List.flatten [(wMem (fun i => sY 5 (i + 2)) k (nY 5) (aY 5))])) [75, 76, 77] rfl
          refine vp_callSi (va_Run.run (va_runV (As := []) (rest := []) ⟨hx, hb, hml, hown, hts⟩ (c_X2_depth l dC dI k (fun i => sY 5 (i + 2)) (nY 5) (aY 5) (hnY 5)) (cwV 0 hts (gk_V (wl_mem 10 rfl) (wl_mem 11 rfl) (wl_mem 12 rfl) (wl_mem 13 rfl) (fun w h => List.mem_cons_of_mem _ (List.mem_append_right _ (List.mem_append_right _ (List.mem_append_right _ (List.mem_append_right _ (List.mem_append_right _ (List.mem_append_left _ h))))))) wkg_c_X2_depth) rfl rfl rfl (by decide +kernel) ⟨Nat.le_of_ble_eq_true rfl, Nat.le_of_ble_eq_true rfl⟩) ⟨fun a U g mk q => by obtain ⟨q0, qP, qK⟩ := q; exact ⟨q0, qP, va_K.moved (u := U) (U := U.calling g mk a) (Vm.Alike.refl U.vm) qK⟩, va_recv hK hPc (ci := 2) (q0 := 0) rfl rfl, fun U hU hW => ⟨rfl, by rw [hU]; exact hPc, va_K.moved hW.alike hK⟩⟩ rfl rfl hl.1 rfl (lv_room (Nat.le_of_ble_eq_true rfl)) dX11_free_27 ⟨Nat.le_of_ble_eq_true rfl, Nat.le_of_ble_eq_true rfl⟩)) (fun rz641 gz640 => ?_)
          clear hPc
          refine lv_istore (lv' := [(4, .int rz641), (3, .ref (sY 5 2)), (0, .ref (qX 0)), (1, .int p1), (2, .int p2)]) hx hb dX11_free_30 hl (by decide) rfl (fun ls hl => ?_)
          refine lv_bipush (v := 99) hx hb dX11_free_32 (by decide) ?_
          refine lv_istore (lv' := [(5, .int 99), (4, .int rz641), (3, .ref (sY 5 2)), (0, .ref (qX 0)), (1, .int p1), (2, .int p2)]) hx hb dX11_free_34 hl (by decide) rfl (fun ls hl => ?_)
          have lp36_kz665 : ∀ (n9_36 : Nat) (H : Heap) (locs : List Loc) (ls : Array Slot) (az662 : Nat → Nat → Int32) (nz663 : Nat → Int32) (xz664 : Int32), (xz664.toInt + 2147483648).toNat < n9_36 → Rg 0 8 nz663 → xz664.toInt ≤ 99 → va_P (dC, dI) vwCl (List.flatten [(wMem qM k nz663 az662)] ++ List.flatten [(wSag qX k tapeX (qV 0) actsX nowX trialX (qY 0) attemptX orderSearchX routeSearchX setSearchX (qM 0) slot0X slot1X slot2X slot3X image0X image1X image2X aX), (wValley qV k vV bV cV wV aV eV), (wStoO qY k (qV 0) planY (sY 0 0) (sY 1 0) (sY 2 0) (sY 3 0) (sY 4 0) (sY 5 0) (sY 6 0) (sY 7 0)), (wState (sY 0) k (vY 0) (nY 0) (aY 0)), (wState (sY 1) k (vY 1) (nY 1) (aY 1)), (wState (sY 2) k (vY 2) (nY 2) (aY 2)), (wState (sY 3) k (vY 3) (nY 3) (aY 3)), (wState (sY 4) k (vY 4) (nY 4) (aY 4)), (wState (sY 5) k (vY 5) (nY 5) (aY 5)), (wState (sY 6) k (vY 6) (nY 6) (aY 6)), (wState (sY 7) k (vY 7) (nY 7) (aY 7))]) H → va_D A (List.flatten [(wMem qM k nz663 az662)] ++ List.flatten [(wSag qX k tapeX (qV 0) actsX nowX trialX (qY 0) attemptX orderSearchX routeSearchX setSearchX (qM 0) slot0X slot1X slot2X slot3X image0X image1X image2X aX), (wValley qV k vV bV cV wV aV eV), (wStoO qY k (qV 0) planY (sY 0 0) (sY 1 0) (sY 2 0) (sY 3 0) (sY 4 0) (sY 5 0) (sY 6 0) (sY 7 0)), (wState (sY 0) k (vY 0) (nY 0) (aY 0)), (wState (sY 1) k (vY 1) (nY 1) (aY 1)), (wState (sY 2) k (vY 2) (nY 2) (aY 2)), (wState (sY 3) k (vY 3) (nY 3) (aY 3)), (wState (sY 4) k (vY 4) (nY 4) (aY 4)), (wState (sY 5) k (vY 5) (nY 5) (aY 5)), (wState (sY 6) k (vY 6) (nY 6) (aY 6)), (wState (sY 7) k (vY 7) (nY 7) (aY 7))]) → va_S A s.heap H locs → lv_has ls 6 [(0, .ref (qX 0)), (3, .ref (sY 5 2)), (4, .int rz641), (5, .int xz664)] → W p l e (headSpec wk_c_X11_free ({ frames := 2, cells := 0, slots := 0, locals := 49 })).room s m ([.ref (qX 0), .int p1, .int p2] : List Value).toArray below meth c H locs 0 0 Q (F0 m 36 ls []) := by
            intro n9_36
            induction n9_36 with
            | zero => intro H locs ls az662 nz663 xz664 hm; exact absurd hm (Nat.not_lt_zero _)
            | succ n9_36 ih36 =>
              intro H locs ls az662 nz663 xz664 hm36 hnz663 jz666 hP hD hS hl
              refine lv_iload hx hb dX11_free_36 (lv_at hl 3 rfl) ?_
              refine lv_if_le (tgt := 62) hx hb dX11_free_38 (by decide) (fun cz667 => ?_) (fun cz667 => ?_)
              · skip
                have bz668 := fb_rng xz664
                have zz669 : xz664.toInt ≤ (0 : Int) := zi_le.mp cz667
                refine lv_iconst (v := 0) hx hb dX11_free_62 (by decide) ?_
                rw [hQ]
                exact W.iret (v := (0 : Int32)) hx hb hr (fun t ht hW => ⟨⟨(0 : Int32), (), rfl, trivial, nz663, az662, hnz663, by rw [ht]; exact hP⟩, hS.F ht⟩) hS.2.2 dX11_free_63
              · skip
                have bz670 := fb_rng xz664
                have zz671 : ¬ xz664.toInt ≤ (0 : Int) := fun h9 => cz667 (zi_le.mpr h9)
                refine lv_aload_n hx hb dX11_free_41 rfl (lv_at hl 0 rfl) ?_
                refine lv_aload_n hx hb dX11_free_42 rfl (lv_at hl 1 rfl) ?_
                refine lv_iload hx hb dX11_free_43 (lv_at hl 3 rfl) ?_
                have hPc := hP.sub (ws' := (List.flatten [(wMem qM k nz663 az662)] ++ List.flatten [(wSag qX k tapeX (qV 0) actsX nowX trialX (qY 0) attemptX orderSearchX routeSearchX setSearchX (qM 0) slot0X slot1X slot2X slot3X image0X image1X image2X aX), (wValley qV k vV bV cV wV aV eV), (wMem (fun i => sY 5 (i + 2)) k (nY 5) (aY 5))])) [0, 1, 2, 3, 4, 5, 6, 7, 8, 9, 10, 11, 12, 13, 14, 15, 75, 76, 77] rfl
                have hC : [0, 1, 2, 3, 4, 5, 6, 7, 8, 9, 10, 11, 12, 13, 14, 15, 75, 76, 77].map (fun i => (List.flatten [(wMem qM k nz663 az662)] ++ List.flatten [(wSag qX k tapeX (qV 0) actsX nowX trialX (qY 0) attemptX orderSearchX routeSearchX setSearchX (qM 0) slot0X slot1X slot2X slot3X image0X image1X image2X aX), (wValley qV k vV bV cV wV aV eV), (wStoO qY k (qV 0) planY (sY 0 0) (sY 1 0) (sY 2 0) (sY 3 0) (sY 4 0) (sY 5 0) (sY 6 0) (sY 7 0)), (wState (sY 0) k (vY 0) (nY 0) (aY 0)), (wState (sY 1) k (vY 1) (nY 1) (aY 1)), (wState (sY 2) k (vY 2) (nY 2) (aY 2)), (wState (sY 3) k (vY 3) (nY 3) (aY 3)), (wState (sY 4) k (vY 4) (nY 4) (aY 4)), (wState (sY 5) k (vY 5) (nY 5) (aY 5)), (wState (sY 6) k (vY 6) (nY 6) (aY 6)), (wState (sY 7) k (vY 7) (nY 7) (aY 7))])[i]?) = (List.flatten [(wMem qM k nz663 az662)] ++ List.flatten [(wSag qX k tapeX (qV 0) actsX nowX trialX (qY 0) attemptX orderSearchX routeSearchX setSearchX (qM 0) slot0X slot1X slot2X slot3X image0X image1X image2X aX), (wValley qV k vV bV cV wV aV eV), (wMem (fun i => sY 5 (i + 2)) k (nY 5) (aY 5))]).map some := rfl
                have hDc := hD.sub [0, 1, 2, 3, 4, 5, 6, 7, 8, 9, 10, 11, 12, 13, 14, 15, 75, 76, 77] (by decide) hC
                have hFc := va_free hD hS hA [0, 1, 2, 3, 4, 5, 6, 7, 8, 9, 10, 11, 12, 13, 14, 15, 75, 76, 77] hC
                refine va_calli (va_runV (As := [.ref (sY 5 2), .int xz664]) (rest := []) ⟨hx, hb, hml, hown, hts⟩ (c_X11_depthWith l dC dI k H.size qX tapeX actsX nowX trialX (qY 0) attemptX orderSearchX routeSearchX setSearchX slot0X slot1X slot2X slot3X image0X image1X image2X aX qV vV bV cV wV aV eV qM nz663 az662 (fun i => sY 5 (i + 2)) (nY 5) (aY 5) xz664 hbV hcV hwV heV hnz663 (hnY 5) (by show 0 ≤ xz664.toInt ∧ xz664.toInt ≤ 99; omega)) (cwV 2 hts (gk_V (wl_mem 14 rfl) (wl_mem 15 rfl) (wl_mem 16 rfl) (wl_mem 3 rfl) (fun w h => List.mem_cons_of_mem _ (List.mem_append_right _ (List.mem_append_right _ (List.mem_append_right _ (List.mem_append_right _ (List.mem_append_right _ (List.mem_append_right _ (List.mem_append_left _ h)))))))) wkg_c_X11_depthWith) rfl rfl rfl (by decide +kernel) ⟨Nat.le_of_ble_eq_true rfl, Nat.le_of_ble_eq_true rfl⟩) ⟨fun a U g mk q => by obtain ⟨q0, q1, qP, qK, qD⟩ := q; exact ⟨q0, q1, qP, va_K.moved (u := U) (U := U.calling g mk a) (Vm.Alike.refl U.vm) qK, qD⟩, va_recv hK hPc (ci := 11) (q0 := 3) rfl rfl, fun U hU hW => ⟨rfl, by rw [hU], by rw [hU]; exact hPc, va_K.moved hW.alike hK, hDc.weaken (fun _ _ _ _ => trivial)⟩⟩ rfl rfl hl.1 rfl (lv_room (Nat.le_of_ble_eq_true rfl)) dX11_free_45 ⟨Nat.le_of_ble_eq_true rfl, Nat.le_of_ble_eq_true rfl⟩) hS (fun q _ h => hFc q h) hFc (fun rz673 u t H1 locs ht hvm gz672 hB hz1 hk1 hS => ?_)
                obtain ⟨nz674, az675, hnz674, hP1⟩ := hB
                rw [ht] at hP1
                obtain ⟨hP, hD⟩ := w_callR hP hD hk1 hP1 [0] rfl rfl (wk_mem [3, 4, 5, 6, 7, 8, 9, 10, 11, 12, 13, 14, 15, 75, 76, 77] rfl) rfl [some 0] rfl rfl
                clear hPc hC hDc hFc hk1 hP1
                generalize H1 = H at hP hS ⊢
                have hP : va_P (dC, dI) vwCl (List.flatten [(wMem qM k nz674 az675)] ++ List.flatten [(wSag qX k tapeX (qV 0) actsX nowX trialX (qY 0) attemptX orderSearchX routeSearchX setSearchX (qM 0) slot0X slot1X slot2X slot3X image0X image1X image2X aX), (wValley qV k vV bV cV wV aV eV), (wStoO qY k (qV 0) planY (sY 0 0) (sY 1 0) (sY 2 0) (sY 3 0) (sY 4 0) (sY 5 0) (sY 6 0) (sY 7 0)), (wState (sY 0) k (vY 0) (nY 0) (aY 0)), (wState (sY 1) k (vY 1) (nY 1) (aY 1)), (wState (sY 2) k (vY 2) (nY 2) (aY 2)), (wState (sY 3) k (vY 3) (nY 3) (aY 3)), (wState (sY 4) k (vY 4) (nY 4) (aY 4)), (wState (sY 5) k (vY 5) (nY 5) (aY 5)), (wState (sY 6) k (vY 6) (nY 6) (aY 6)), (wState (sY 7) k (vY 7) (nY 7) (aY 7))]) H := hP
                have hD : va_D A (List.flatten [(wMem qM k nz674 az675)] ++ List.flatten [(wSag qX k tapeX (qV 0) actsX nowX trialX (qY 0) attemptX orderSearchX routeSearchX setSearchX (qM 0) slot0X slot1X slot2X slot3X image0X image1X image2X aX), (wValley qV k vV bV cV wV aV eV), (wStoO qY k (qV 0) planY (sY 0 0) (sY 1 0) (sY 2 0) (sY 3 0) (sY 4 0) (sY 5 0) (sY 6 0) (sY 7 0)), (wState (sY 0) k (vY 0) (nY 0) (aY 0)), (wState (sY 1) k (vY 1) (nY 1) (aY 1)), (wState (sY 2) k (vY 2) (nY 2) (aY 2)), (wState (sY 3) k (vY 3) (nY 3) (aY 3)), (wState (sY 4) k (vY 4) (nY 4) (aY 4)), (wState (sY 5) k (vY 5) (nY 5) (aY 5)), (wState (sY 6) k (vY 6) (nY 6) (aY 6)), (wState (sY 7) k (vY 7) (nY 7) (aY 7))]) := hD
                refine W.widen (k := 0) (n := 0) (Nat.le_refl 0) (Nat.le_refl 0) ?_
                refine lv_iload hx hb dX11_free_48 (lv_at hl 2 rfl) ?_
                refine lv_icmp_gt (tgt := 56) hx hb dX11_free_50 (by decide) (fun cz676 => ?_) (fun cz676 => ?_)
                · skip
                  have bz677 := fb_rng rz641
                  have bz678 := fb_rng rz673
                  have zz679 : rz641.toInt < rz673.toInt := zi_lt.mp cz676
                  obtain ⟨xz680, exz680⟩ : ∃ y : Int32, y = xz664 + Int32.ofInt (-1) := ⟨_, rfl⟩
                  have fxz680 : xz680.toInt = xz664.toInt + (-1) := by rw [exz680]; exact fb_addI (y := Int32.ofInt (-1)) (by show -2147483648 ≤ xz664.toInt + (-1); omega) (by show xz664.toInt + (-1) < 2147483648; omega)
                  refine lv_iinc (v := xz680) (lv' := [(5, .int xz680), (0, .ref (qX 0)), (3, .ref (sY 5 2)), (4, .int rz641)]) hx hb dX11_free_56 hl (k := 3) rfl exz680.symm (by decide) rfl (fun ls hl => ?_)
                  refine lv_goto (tgt := 36) hx hb dX11_free_59 (by decide) ?_
                  exact ih36 H locs ls az675 nz674 xz680 (by show (xz680.toInt + 2147483648).toNat < n9_36; omega) hnz674 (by show xz680.toInt ≤ 99; omega) hP hD hS (lv_sub hl [1, 2, 3, 0] rfl)
                · skip
                  have bz681 := fb_rng rz641
                  have bz682 := fb_rng rz673
                  have zz683 : ¬ rz641.toInt < rz673.toInt := fun h9 => cz676 (zi_lt.mpr h9)
                  refine lv_iload hx hb dX11_free_53 (lv_at hl 3 rfl) ?_
                  rw [hQ]
                  exact W.iret (v := xz664) hx hb hr (fun t ht hW => ⟨⟨xz664, (), rfl, trivial, nz674, az675, hnz674, by rw [ht]; exact hP⟩, hS.F ht⟩) hS.2.2 dX11_free_55
          exact lp36_kz665 _ s.heap [] ls aM nM (99 : Int32) (Nat.lt_succ_self _) hnM (by show (99 : Int) ≤ 99; omega) hP hD hS (lv_sub hl [3, 2, 1, 0] rfl)
        · skip
          have zz684 : p1.toInt = (1 : Int) := zi_eq.mp cz638
          refine W.eq (g2 := F0 m 24 ls [.int 1, .ref (sY 5 1)]) (by rw [cz638]) ?_
          refine va_aldq hx hb hK hP 74 4 rfl rfl (by unfold vp_in; decide) dX11_free_24 ?_
          refine W.eq (g2 := F0 m 25 ls [.ref (sY 5 5)]) rfl ?_
          refine lv_astore_n (lv' := [(3, .ref (sY 5 5)), (0, .ref (qX 0)), (1, .int p1), (2, .int p2)]) hx hb dX11_free_25 rfl hl (by decide) rfl (fun ls hl => ?_)
          refine lv_aload_n hx hb dX11_free_26 rfl (lv_at hl 0 rfl) ?_
          have hPc := hP.sub (ws' := (List.flatten [(wMem (fun i => sY 5 (i + 5)) k (fun i => (nY 5) (i + 1)) (fun i => (aY 5) (i + 2)))])) [78, 79, 80] rfl
          refine vp_callSi (va_Run.run (va_runV (As := []) (rest := []) ⟨hx, hb, hml, hown, hts⟩ (c_X2_depth l dC dI k (fun i => sY 5 (i + 5)) (fun i => (nY 5) (i + 1)) (fun i => (aY 5) (i + 2)) (fun i => (hnY 5) (i + 1))) (cwV 0 hts (gk_V (wl_mem 10 rfl) (wl_mem 11 rfl) (wl_mem 12 rfl) (wl_mem 13 rfl) (fun w h => List.mem_cons_of_mem _ (List.mem_append_right _ (List.mem_append_right _ (List.mem_append_right _ (List.mem_append_right _ (List.mem_append_right _ (List.mem_append_left _ h))))))) wkg_c_X2_depth) rfl rfl rfl (by decide +kernel) ⟨Nat.le_of_ble_eq_true rfl, Nat.le_of_ble_eq_true rfl⟩) ⟨fun a U g mk q => by obtain ⟨q0, qP, qK⟩ := q; exact ⟨q0, qP, va_K.moved (u := U) (U := U.calling g mk a) (Vm.Alike.refl U.vm) qK⟩, va_recv hK hPc (ci := 2) (q0 := 0) rfl rfl, fun U hU hW => ⟨rfl, by rw [hU]; exact hPc, va_K.moved hW.alike hK⟩⟩ rfl rfl hl.1 rfl (lv_room (Nat.le_of_ble_eq_true rfl)) dX11_free_27 ⟨Nat.le_of_ble_eq_true rfl, Nat.le_of_ble_eq_true rfl⟩)) (fun rz686 gz685 => ?_)
          clear hPc
          refine lv_istore (lv' := [(4, .int rz686), (3, .ref (sY 5 5)), (0, .ref (qX 0)), (1, .int p1), (2, .int p2)]) hx hb dX11_free_30 hl (by decide) rfl (fun ls hl => ?_)
          refine lv_bipush (v := 99) hx hb dX11_free_32 (by decide) ?_
          refine lv_istore (lv' := [(5, .int 99), (4, .int rz686), (3, .ref (sY 5 5)), (0, .ref (qX 0)), (1, .int p1), (2, .int p2)]) hx hb dX11_free_34 hl (by decide) rfl (fun ls hl => ?_)
          have lp36_kz710 : ∀ (n9_36 : Nat) (H : Heap) (locs : List Loc) (ls : Array Slot) (az707 : Nat → Nat → Int32) (nz708 : Nat → Int32) (xz709 : Int32), (xz709.toInt + 2147483648).toNat < n9_36 → Rg 0 8 nz708 → xz709.toInt ≤ 99 → va_P (dC, dI) vwCl (List.flatten [(wMem qM k nz708 az707)] ++ List.flatten [(wSag qX k tapeX (qV 0) actsX nowX trialX (qY 0) attemptX orderSearchX routeSearchX setSearchX (qM 0) slot0X slot1X slot2X slot3X image0X image1X image2X aX), (wValley qV k vV bV cV wV aV eV), (wStoO qY k (qV 0) planY (sY 0 0) (sY 1 0) (sY 2 0) (sY 3 0) (sY 4 0) (sY 5 0) (sY 6 0) (sY 7 0)), (wState (sY 0) k (vY 0) (nY 0) (aY 0)), (wState (sY 1) k (vY 1) (nY 1) (aY 1)), (wState (sY 2) k (vY 2) (nY 2) (aY 2)), (wState (sY 3) k (vY 3) (nY 3) (aY 3)), (wState (sY 4) k (vY 4) (nY 4) (aY 4)), (wState (sY 5) k (vY 5) (nY 5) (aY 5)), (wState (sY 6) k (vY 6) (nY 6) (aY 6)), (wState (sY 7) k (vY 7) (nY 7) (aY 7))]) H → va_D A (List.flatten [(wMem qM k nz708 az707)] ++ List.flatten [(wSag qX k tapeX (qV 0) actsX nowX trialX (qY 0) attemptX orderSearchX routeSearchX setSearchX (qM 0) slot0X slot1X slot2X slot3X image0X image1X image2X aX), (wValley qV k vV bV cV wV aV eV), (wStoO qY k (qV 0) planY (sY 0 0) (sY 1 0) (sY 2 0) (sY 3 0) (sY 4 0) (sY 5 0) (sY 6 0) (sY 7 0)), (wState (sY 0) k (vY 0) (nY 0) (aY 0)), (wState (sY 1) k (vY 1) (nY 1) (aY 1)), (wState (sY 2) k (vY 2) (nY 2) (aY 2)), (wState (sY 3) k (vY 3) (nY 3) (aY 3)), (wState (sY 4) k (vY 4) (nY 4) (aY 4)), (wState (sY 5) k (vY 5) (nY 5) (aY 5)), (wState (sY 6) k (vY 6) (nY 6) (aY 6)), (wState (sY 7) k (vY 7) (nY 7) (aY 7))]) → va_S A s.heap H locs → lv_has ls 6 [(0, .ref (qX 0)), (3, .ref (sY 5 5)), (4, .int rz686), (5, .int xz709)] → W p l e (headSpec wk_c_X11_free ({ frames := 2, cells := 0, slots := 0, locals := 49 })).room s m ([.ref (qX 0), .int p1, .int p2] : List Value).toArray below meth c H locs 0 0 Q (F0 m 36 ls []) := by
            intro n9_36
            induction n9_36 with
            | zero => intro H locs ls az707 nz708 xz709 hm; exact absurd hm (Nat.not_lt_zero _)
            | succ n9_36 ih36 =>
              intro H locs ls az707 nz708 xz709 hm36 hnz708 jz711 hP hD hS hl
              refine lv_iload hx hb dX11_free_36 (lv_at hl 3 rfl) ?_
              refine lv_if_le (tgt := 62) hx hb dX11_free_38 (by decide) (fun cz712 => ?_) (fun cz712 => ?_)
              · skip
                have bz713 := fb_rng xz709
                have zz714 : xz709.toInt ≤ (0 : Int) := zi_le.mp cz712
                refine lv_iconst (v := 0) hx hb dX11_free_62 (by decide) ?_
                rw [hQ]
                exact W.iret (v := (0 : Int32)) hx hb hr (fun t ht hW => ⟨⟨(0 : Int32), (), rfl, trivial, nz708, az707, hnz708, by rw [ht]; exact hP⟩, hS.F ht⟩) hS.2.2 dX11_free_63
              · skip
                have bz715 := fb_rng xz709
                have zz716 : ¬ xz709.toInt ≤ (0 : Int) := fun h9 => cz712 (zi_le.mpr h9)
                refine lv_aload_n hx hb dX11_free_41 rfl (lv_at hl 0 rfl) ?_
                refine lv_aload_n hx hb dX11_free_42 rfl (lv_at hl 1 rfl) ?_
                refine lv_iload hx hb dX11_free_43 (lv_at hl 3 rfl) ?_
                have hPc := hP.sub (ws' := (List.flatten [(wMem qM k nz708 az707)] ++ List.flatten [(wSag qX k tapeX (qV 0) actsX nowX trialX (qY 0) attemptX orderSearchX routeSearchX setSearchX (qM 0) slot0X slot1X slot2X slot3X image0X image1X image2X aX), (wValley qV k vV bV cV wV aV eV), (wMem (fun i => sY 5 (i + 5)) k (fun i => (nY 5) (i + 1)) (fun i => (aY 5) (i + 2)))])) [0, 1, 2, 3, 4, 5, 6, 7, 8, 9, 10, 11, 12, 13, 14, 15, 78, 79, 80] rfl
                have hC : [0, 1, 2, 3, 4, 5, 6, 7, 8, 9, 10, 11, 12, 13, 14, 15, 78, 79, 80].map (fun i => (List.flatten [(wMem qM k nz708 az707)] ++ List.flatten [(wSag qX k tapeX (qV 0) actsX nowX trialX (qY 0) attemptX orderSearchX routeSearchX setSearchX (qM 0) slot0X slot1X slot2X slot3X image0X image1X image2X aX), (wValley qV k vV bV cV wV aV eV), (wStoO qY k (qV 0) planY (sY 0 0) (sY 1 0) (sY 2 0) (sY 3 0) (sY 4 0) (sY 5 0) (sY 6 0) (sY 7 0)), (wState (sY 0) k (vY 0) (nY 0) (aY 0)), (wState (sY 1) k (vY 1) (nY 1) (aY 1)), (wState (sY 2) k (vY 2) (nY 2) (aY 2)), (wState (sY 3) k (vY 3) (nY 3) (aY 3)), (wState (sY 4) k (vY 4) (nY 4) (aY 4)), (wState (sY 5) k (vY 5) (nY 5) (aY 5)), (wState (sY 6) k (vY 6) (nY 6) (aY 6)), (wState (sY 7) k (vY 7) (nY 7) (aY 7))])[i]?) = (List.flatten [(wMem qM k nz708 az707)] ++ List.flatten [(wSag qX k tapeX (qV 0) actsX nowX trialX (qY 0) attemptX orderSearchX routeSearchX setSearchX (qM 0) slot0X slot1X slot2X slot3X image0X image1X image2X aX), (wValley qV k vV bV cV wV aV eV), (wMem (fun i => sY 5 (i + 5)) k (fun i => (nY 5) (i + 1)) (fun i => (aY 5) (i + 2)))]).map some := rfl
                have hDc := hD.sub [0, 1, 2, 3, 4, 5, 6, 7, 8, 9, 10, 11, 12, 13, 14, 15, 78, 79, 80] (by decide) hC
                have hFc := va_free hD hS hA [0, 1, 2, 3, 4, 5, 6, 7, 8, 9, 10, 11, 12, 13, 14, 15, 78, 79, 80] hC
                refine va_calli (va_runV (As := [.ref (sY 5 5), .int xz709]) (rest := []) ⟨hx, hb, hml, hown, hts⟩ (c_X11_depthWith l dC dI k H.size qX tapeX actsX nowX trialX (qY 0) attemptX orderSearchX routeSearchX setSearchX slot0X slot1X slot2X slot3X image0X image1X image2X aX qV vV bV cV wV aV eV qM nz708 az707 (fun i => sY 5 (i + 5)) (fun i => (nY 5) (i + 1)) (fun i => (aY 5) (i + 2)) xz709 hbV hcV hwV heV hnz708 (fun i => (hnY 5) (i + 1)) (by show 0 ≤ xz709.toInt ∧ xz709.toInt ≤ 99; omega)) (cwV 2 hts (gk_V (wl_mem 14 rfl) (wl_mem 15 rfl) (wl_mem 16 rfl) (wl_mem 3 rfl) (fun w h => List.mem_cons_of_mem _ (List.mem_append_right _ (List.mem_append_right _ (List.mem_append_right _ (List.mem_append_right _ (List.mem_append_right _ (List.mem_append_right _ (List.mem_append_left _ h)))))))) wkg_c_X11_depthWith) rfl rfl rfl (by decide +kernel) ⟨Nat.le_of_ble_eq_true rfl, Nat.le_of_ble_eq_true rfl⟩) ⟨fun a U g mk q => by obtain ⟨q0, q1, qP, qK, qD⟩ := q; exact ⟨q0, q1, qP, va_K.moved (u := U) (U := U.calling g mk a) (Vm.Alike.refl U.vm) qK, qD⟩, va_recv hK hPc (ci := 11) (q0 := 3) rfl rfl, fun U hU hW => ⟨rfl, by rw [hU], by rw [hU]; exact hPc, va_K.moved hW.alike hK, hDc.weaken (fun _ _ _ _ => trivial)⟩⟩ rfl rfl hl.1 rfl (lv_room (Nat.le_of_ble_eq_true rfl)) dX11_free_45 ⟨Nat.le_of_ble_eq_true rfl, Nat.le_of_ble_eq_true rfl⟩) hS (fun q _ h => hFc q h) hFc (fun rz718 u t H1 locs ht hvm gz717 hB hz1 hk1 hS => ?_)
                obtain ⟨nz719, az720, hnz719, hP1⟩ := hB
                rw [ht] at hP1
                obtain ⟨hP, hD⟩ := w_callR hP hD hk1 hP1 [0] rfl rfl (wk_mem [3, 4, 5, 6, 7, 8, 9, 10, 11, 12, 13, 14, 15, 78, 79, 80] rfl) rfl [some 0] rfl rfl
                clear hPc hC hDc hFc hk1 hP1
                generalize H1 = H at hP hS ⊢
                have hP : va_P (dC, dI) vwCl (List.flatten [(wMem qM k nz719 az720)] ++ List.flatten [(wSag qX k tapeX (qV 0) actsX nowX trialX (qY 0) attemptX orderSearchX routeSearchX setSearchX (qM 0) slot0X slot1X slot2X slot3X image0X image1X image2X aX), (wValley qV k vV bV cV wV aV eV), (wStoO qY k (qV 0) planY (sY 0 0) (sY 1 0) (sY 2 0) (sY 3 0) (sY 4 0) (sY 5 0) (sY 6 0) (sY 7 0)), (wState (sY 0) k (vY 0) (nY 0) (aY 0)), (wState (sY 1) k (vY 1) (nY 1) (aY 1)), (wState (sY 2) k (vY 2) (nY 2) (aY 2)), (wState (sY 3) k (vY 3) (nY 3) (aY 3)), (wState (sY 4) k (vY 4) (nY 4) (aY 4)), (wState (sY 5) k (vY 5) (nY 5) (aY 5)), (wState (sY 6) k (vY 6) (nY 6) (aY 6)), (wState (sY 7) k (vY 7) (nY 7) (aY 7))]) H := hP
                have hD : va_D A (List.flatten [(wMem qM k nz719 az720)] ++ List.flatten [(wSag qX k tapeX (qV 0) actsX nowX trialX (qY 0) attemptX orderSearchX routeSearchX setSearchX (qM 0) slot0X slot1X slot2X slot3X image0X image1X image2X aX), (wValley qV k vV bV cV wV aV eV), (wStoO qY k (qV 0) planY (sY 0 0) (sY 1 0) (sY 2 0) (sY 3 0) (sY 4 0) (sY 5 0) (sY 6 0) (sY 7 0)), (wState (sY 0) k (vY 0) (nY 0) (aY 0)), (wState (sY 1) k (vY 1) (nY 1) (aY 1)), (wState (sY 2) k (vY 2) (nY 2) (aY 2)), (wState (sY 3) k (vY 3) (nY 3) (aY 3)), (wState (sY 4) k (vY 4) (nY 4) (aY 4)), (wState (sY 5) k (vY 5) (nY 5) (aY 5)), (wState (sY 6) k (vY 6) (nY 6) (aY 6)), (wState (sY 7) k (vY 7) (nY 7) (aY 7))]) := hD
                refine W.widen (k := 0) (n := 0) (Nat.le_refl 0) (Nat.le_refl 0) ?_
                refine lv_iload hx hb dX11_free_48 (lv_at hl 2 rfl) ?_
                refine lv_icmp_gt (tgt := 56) hx hb dX11_free_50 (by decide) (fun cz721 => ?_) (fun cz721 => ?_)
                · skip
                  have bz722 := fb_rng rz686
                  have bz723 := fb_rng rz718
                  have zz724 : rz686.toInt < rz718.toInt := zi_lt.mp cz721
                  obtain ⟨xz725, exz725⟩ : ∃ y : Int32, y = xz709 + Int32.ofInt (-1) := ⟨_, rfl⟩
                  have fxz725 : xz725.toInt = xz709.toInt + (-1) := by rw [exz725]; exact fb_addI (y := Int32.ofInt (-1)) (by show -2147483648 ≤ xz709.toInt + (-1); omega) (by show xz709.toInt + (-1) < 2147483648; omega)
                  refine lv_iinc (v := xz725) (lv' := [(5, .int xz725), (0, .ref (qX 0)), (3, .ref (sY 5 5)), (4, .int rz686)]) hx hb dX11_free_56 hl (k := 3) rfl exz725.symm (by decide) rfl (fun ls hl => ?_)
                  refine lv_goto (tgt := 36) hx hb dX11_free_59 (by decide) ?_
                  exact ih36 H locs ls az720 nz719 xz725 (by show (xz725.toInt + 2147483648).toNat < n9_36; omega) hnz719 (by show xz725.toInt ≤ 99; omega) hP hD hS (lv_sub hl [1, 2, 3, 0] rfl)
                · skip
                  have bz726 := fb_rng rz686
                  have bz727 := fb_rng rz718
                  have zz728 : ¬ rz686.toInt < rz718.toInt := fun h9 => cz721 (zi_lt.mpr h9)
                  refine lv_iload hx hb dX11_free_53 (lv_at hl 3 rfl) ?_
                  rw [hQ]
                  exact W.iret (v := xz709) hx hb hr (fun t ht hW => ⟨⟨xz709, (), rfl, trivial, nz719, az720, hnz719, by rw [ht]; exact hP⟩, hS.F ht⟩) hS.2.2 dX11_free_55
          exact lp36_kz710 _ s.heap [] ls aM nM (99 : Int32) (Nat.lt_succ_self _) hnM (by show (99 : Int) ≤ 99; omega) hP hD hS (lv_sub hl [3, 2, 1, 0] rfl)
        · skip
          have zz729 : p1.toInt = (2 : Int) := zi_eq.mp cz638
          refine W.eq (g2 := F0 m 24 ls [.int 2, .ref (sY 5 1)]) (by rw [cz638]) ?_
          refine va_aldq hx hb hK hP 74 4 rfl rfl (by unfold vp_in; decide) dX11_free_24 ?_
          refine W.eq (g2 := F0 m 25 ls [.ref (sY 5 8)]) rfl ?_
          refine lv_astore_n (lv' := [(3, .ref (sY 5 8)), (0, .ref (qX 0)), (1, .int p1), (2, .int p2)]) hx hb dX11_free_25 rfl hl (by decide) rfl (fun ls hl => ?_)
          refine lv_aload_n hx hb dX11_free_26 rfl (lv_at hl 0 rfl) ?_
          have hPc := hP.sub (ws' := (List.flatten [(wMem (fun i => sY 5 (i + 8)) k (fun i => (nY 5) (i + 2)) (fun i => (aY 5) (i + 4)))])) [81, 82, 83] rfl
          refine vp_callSi (va_Run.run (va_runV (As := []) (rest := []) ⟨hx, hb, hml, hown, hts⟩ (c_X2_depth l dC dI k (fun i => sY 5 (i + 8)) (fun i => (nY 5) (i + 2)) (fun i => (aY 5) (i + 4)) (fun i => (hnY 5) (i + 2))) (cwV 0 hts (gk_V (wl_mem 10 rfl) (wl_mem 11 rfl) (wl_mem 12 rfl) (wl_mem 13 rfl) (fun w h => List.mem_cons_of_mem _ (List.mem_append_right _ (List.mem_append_right _ (List.mem_append_right _ (List.mem_append_right _ (List.mem_append_right _ (List.mem_append_left _ h))))))) wkg_c_X2_depth) rfl rfl rfl (by decide +kernel) ⟨Nat.le_of_ble_eq_true rfl, Nat.le_of_ble_eq_true rfl⟩) ⟨fun a U g mk q => by obtain ⟨q0, qP, qK⟩ := q; exact ⟨q0, qP, va_K.moved (u := U) (U := U.calling g mk a) (Vm.Alike.refl U.vm) qK⟩, va_recv hK hPc (ci := 2) (q0 := 0) rfl rfl, fun U hU hW => ⟨rfl, by rw [hU]; exact hPc, va_K.moved hW.alike hK⟩⟩ rfl rfl hl.1 rfl (lv_room (Nat.le_of_ble_eq_true rfl)) dX11_free_27 ⟨Nat.le_of_ble_eq_true rfl, Nat.le_of_ble_eq_true rfl⟩)) (fun rz731 gz730 => ?_)
          clear hPc
          refine lv_istore (lv' := [(4, .int rz731), (3, .ref (sY 5 8)), (0, .ref (qX 0)), (1, .int p1), (2, .int p2)]) hx hb dX11_free_30 hl (by decide) rfl (fun ls hl => ?_)
          refine lv_bipush (v := 99) hx hb dX11_free_32 (by decide) ?_
          refine lv_istore (lv' := [(5, .int 99), (4, .int rz731), (3, .ref (sY 5 8)), (0, .ref (qX 0)), (1, .int p1), (2, .int p2)]) hx hb dX11_free_34 hl (by decide) rfl (fun ls hl => ?_)
          have lp36_kz755 : ∀ (n9_36 : Nat) (H : Heap) (locs : List Loc) (ls : Array Slot) (az752 : Nat → Nat → Int32) (nz753 : Nat → Int32) (xz754 : Int32), (xz754.toInt + 2147483648).toNat < n9_36 → Rg 0 8 nz753 → xz754.toInt ≤ 99 → va_P (dC, dI) vwCl (List.flatten [(wMem qM k nz753 az752)] ++ List.flatten [(wSag qX k tapeX (qV 0) actsX nowX trialX (qY 0) attemptX orderSearchX routeSearchX setSearchX (qM 0) slot0X slot1X slot2X slot3X image0X image1X image2X aX), (wValley qV k vV bV cV wV aV eV), (wStoO qY k (qV 0) planY (sY 0 0) (sY 1 0) (sY 2 0) (sY 3 0) (sY 4 0) (sY 5 0) (sY 6 0) (sY 7 0)), (wState (sY 0) k (vY 0) (nY 0) (aY 0)), (wState (sY 1) k (vY 1) (nY 1) (aY 1)), (wState (sY 2) k (vY 2) (nY 2) (aY 2)), (wState (sY 3) k (vY 3) (nY 3) (aY 3)), (wState (sY 4) k (vY 4) (nY 4) (aY 4)), (wState (sY 5) k (vY 5) (nY 5) (aY 5)), (wState (sY 6) k (vY 6) (nY 6) (aY 6)), (wState (sY 7) k (vY 7) (nY 7) (aY 7))]) H → va_D A (List.flatten [(wMem qM k nz753 az752)] ++ List.flatten [(wSag qX k tapeX (qV 0) actsX nowX trialX (qY 0) attemptX orderSearchX routeSearchX setSearchX (qM 0) slot0X slot1X slot2X slot3X image0X image1X image2X aX), (wValley qV k vV bV cV wV aV eV), (wStoO qY k (qV 0) planY (sY 0 0) (sY 1 0) (sY 2 0) (sY 3 0) (sY 4 0) (sY 5 0) (sY 6 0) (sY 7 0)), (wState (sY 0) k (vY 0) (nY 0) (aY 0)), (wState (sY 1) k (vY 1) (nY 1) (aY 1)), (wState (sY 2) k (vY 2) (nY 2) (aY 2)), (wState (sY 3) k (vY 3) (nY 3) (aY 3)), (wState (sY 4) k (vY 4) (nY 4) (aY 4)), (wState (sY 5) k (vY 5) (nY 5) (aY 5)), (wState (sY 6) k (vY 6) (nY 6) (aY 6)), (wState (sY 7) k (vY 7) (nY 7) (aY 7))]) → va_S A s.heap H locs → lv_has ls 6 [(0, .ref (qX 0)), (3, .ref (sY 5 8)), (4, .int rz731), (5, .int xz754)] → W p l e (headSpec wk_c_X11_free ({ frames := 2, cells := 0, slots := 0, locals := 49 })).room s m ([.ref (qX 0), .int p1, .int p2] : List Value).toArray below meth c H locs 0 0 Q (F0 m 36 ls []) := by
            intro n9_36
            induction n9_36 with
            | zero => intro H locs ls az752 nz753 xz754 hm; exact absurd hm (Nat.not_lt_zero _)
            | succ n9_36 ih36 =>
              intro H locs ls az752 nz753 xz754 hm36 hnz753 jz756 hP hD hS hl
              refine lv_iload hx hb dX11_free_36 (lv_at hl 3 rfl) ?_
              refine lv_if_le (tgt := 62) hx hb dX11_free_38 (by decide) (fun cz757 => ?_) (fun cz757 => ?_)
              · skip
                have bz758 := fb_rng xz754
                have zz759 : xz754.toInt ≤ (0 : Int) := zi_le.mp cz757
                refine lv_iconst (v := 0) hx hb dX11_free_62 (by decide) ?_
                rw [hQ]
                exact W.iret (v := (0 : Int32)) hx hb hr (fun t ht hW => ⟨⟨(0 : Int32), (), rfl, trivial, nz753, az752, hnz753, by rw [ht]; exact hP⟩, hS.F ht⟩) hS.2.2 dX11_free_63
              · skip
                have bz760 := fb_rng xz754
                have zz761 : ¬ xz754.toInt ≤ (0 : Int) := fun h9 => cz757 (zi_le.mpr h9)
                refine lv_aload_n hx hb dX11_free_41 rfl (lv_at hl 0 rfl) ?_
                refine lv_aload_n hx hb dX11_free_42 rfl (lv_at hl 1 rfl) ?_
                refine lv_iload hx hb dX11_free_43 (lv_at hl 3 rfl) ?_
                have hPc := hP.sub (ws' := (List.flatten [(wMem qM k nz753 az752)] ++ List.flatten [(wSag qX k tapeX (qV 0) actsX nowX trialX (qY 0) attemptX orderSearchX routeSearchX setSearchX (qM 0) slot0X slot1X slot2X slot3X image0X image1X image2X aX), (wValley qV k vV bV cV wV aV eV), (wMem (fun i => sY 5 (i + 8)) k (fun i => (nY 5) (i + 2)) (fun i => (aY 5) (i + 4)))])) [0, 1, 2, 3, 4, 5, 6, 7, 8, 9, 10, 11, 12, 13, 14, 15, 81, 82, 83] rfl
                have hC : [0, 1, 2, 3, 4, 5, 6, 7, 8, 9, 10, 11, 12, 13, 14, 15, 81, 82, 83].map (fun i => (List.flatten [(wMem qM k nz753 az752)] ++ List.flatten [(wSag qX k tapeX (qV 0) actsX nowX trialX (qY 0) attemptX orderSearchX routeSearchX setSearchX (qM 0) slot0X slot1X slot2X slot3X image0X image1X image2X aX), (wValley qV k vV bV cV wV aV eV), (wStoO qY k (qV 0) planY (sY 0 0) (sY 1 0) (sY 2 0) (sY 3 0) (sY 4 0) (sY 5 0) (sY 6 0) (sY 7 0)), (wState (sY 0) k (vY 0) (nY 0) (aY 0)), (wState (sY 1) k (vY 1) (nY 1) (aY 1)), (wState (sY 2) k (vY 2) (nY 2) (aY 2)), (wState (sY 3) k (vY 3) (nY 3) (aY 3)), (wState (sY 4) k (vY 4) (nY 4) (aY 4)), (wState (sY 5) k (vY 5) (nY 5) (aY 5)), (wState (sY 6) k (vY 6) (nY 6) (aY 6)), (wState (sY 7) k (vY 7) (nY 7) (aY 7))])[i]?) = (List.flatten [(wMem qM k nz753 az752)] ++ List.flatten [(wSag qX k tapeX (qV 0) actsX nowX trialX (qY 0) attemptX orderSearchX routeSearchX setSearchX (qM 0) slot0X slot1X slot2X slot3X image0X image1X image2X aX), (wValley qV k vV bV cV wV aV eV), (wMem (fun i => sY 5 (i + 8)) k (fun i => (nY 5) (i + 2)) (fun i => (aY 5) (i + 4)))]).map some := rfl
                have hDc := hD.sub [0, 1, 2, 3, 4, 5, 6, 7, 8, 9, 10, 11, 12, 13, 14, 15, 81, 82, 83] (by decide) hC
                have hFc := va_free hD hS hA [0, 1, 2, 3, 4, 5, 6, 7, 8, 9, 10, 11, 12, 13, 14, 15, 81, 82, 83] hC
                refine va_calli (va_runV (As := [.ref (sY 5 8), .int xz754]) (rest := []) ⟨hx, hb, hml, hown, hts⟩ (c_X11_depthWith l dC dI k H.size qX tapeX actsX nowX trialX (qY 0) attemptX orderSearchX routeSearchX setSearchX slot0X slot1X slot2X slot3X image0X image1X image2X aX qV vV bV cV wV aV eV qM nz753 az752 (fun i => sY 5 (i + 8)) (fun i => (nY 5) (i + 2)) (fun i => (aY 5) (i + 4)) xz754 hbV hcV hwV heV hnz753 (fun i => (hnY 5) (i + 2)) (by show 0 ≤ xz754.toInt ∧ xz754.toInt ≤ 99; omega)) (cwV 2 hts (gk_V (wl_mem 14 rfl) (wl_mem 15 rfl) (wl_mem 16 rfl) (wl_mem 3 rfl) (fun w h => List.mem_cons_of_mem _ (List.mem_append_right _ (List.mem_append_right _ (List.mem_append_right _ (List.mem_append_right _ (List.mem_append_right _ (List.mem_append_right _ (List.mem_append_left _ h)))))))) wkg_c_X11_depthWith) rfl rfl rfl (by decide +kernel) ⟨Nat.le_of_ble_eq_true rfl, Nat.le_of_ble_eq_true rfl⟩) ⟨fun a U g mk q => by obtain ⟨q0, q1, qP, qK, qD⟩ := q; exact ⟨q0, q1, qP, va_K.moved (u := U) (U := U.calling g mk a) (Vm.Alike.refl U.vm) qK, qD⟩, va_recv hK hPc (ci := 11) (q0 := 3) rfl rfl, fun U hU hW => ⟨rfl, by rw [hU], by rw [hU]; exact hPc, va_K.moved hW.alike hK, hDc.weaken (fun _ _ _ _ => trivial)⟩⟩ rfl rfl hl.1 rfl (lv_room (Nat.le_of_ble_eq_true rfl)) dX11_free_45 ⟨Nat.le_of_ble_eq_true rfl, Nat.le_of_ble_eq_true rfl⟩) hS (fun q _ h => hFc q h) hFc (fun rz763 u t H1 locs ht hvm gz762 hB hz1 hk1 hS => ?_)
                obtain ⟨nz764, az765, hnz764, hP1⟩ := hB
                rw [ht] at hP1
                obtain ⟨hP, hD⟩ := w_callR hP hD hk1 hP1 [0] rfl rfl (wk_mem [3, 4, 5, 6, 7, 8, 9, 10, 11, 12, 13, 14, 15, 81, 82, 83] rfl) rfl [some 0] rfl rfl
                clear hPc hC hDc hFc hk1 hP1
                generalize H1 = H at hP hS ⊢
                have hP : va_P (dC, dI) vwCl (List.flatten [(wMem qM k nz764 az765)] ++ List.flatten [(wSag qX k tapeX (qV 0) actsX nowX trialX (qY 0) attemptX orderSearchX routeSearchX setSearchX (qM 0) slot0X slot1X slot2X slot3X image0X image1X image2X aX), (wValley qV k vV bV cV wV aV eV), (wStoO qY k (qV 0) planY (sY 0 0) (sY 1 0) (sY 2 0) (sY 3 0) (sY 4 0) (sY 5 0) (sY 6 0) (sY 7 0)), (wState (sY 0) k (vY 0) (nY 0) (aY 0)), (wState (sY 1) k (vY 1) (nY 1) (aY 1)), (wState (sY 2) k (vY 2) (nY 2) (aY 2)), (wState (sY 3) k (vY 3) (nY 3) (aY 3)), (wState (sY 4) k (vY 4) (nY 4) (aY 4)), (wState (sY 5) k (vY 5) (nY 5) (aY 5)), (wState (sY 6) k (vY 6) (nY 6) (aY 6)), (wState (sY 7) k (vY 7) (nY 7) (aY 7))]) H := hP
                have hD : va_D A (List.flatten [(wMem qM k nz764 az765)] ++ List.flatten [(wSag qX k tapeX (qV 0) actsX nowX trialX (qY 0) attemptX orderSearchX routeSearchX setSearchX (qM 0) slot0X slot1X slot2X slot3X image0X image1X image2X aX), (wValley qV k vV bV cV wV aV eV), (wStoO qY k (qV 0) planY (sY 0 0) (sY 1 0) (sY 2 0) (sY 3 0) (sY 4 0) (sY 5 0) (sY 6 0) (sY 7 0)), (wState (sY 0) k (vY 0) (nY 0) (aY 0)), (wState (sY 1) k (vY 1) (nY 1) (aY 1)), (wState (sY 2) k (vY 2) (nY 2) (aY 2)), (wState (sY 3) k (vY 3) (nY 3) (aY 3)), (wState (sY 4) k (vY 4) (nY 4) (aY 4)), (wState (sY 5) k (vY 5) (nY 5) (aY 5)), (wState (sY 6) k (vY 6) (nY 6) (aY 6)), (wState (sY 7) k (vY 7) (nY 7) (aY 7))]) := hD
                refine W.widen (k := 0) (n := 0) (Nat.le_refl 0) (Nat.le_refl 0) ?_
                refine lv_iload hx hb dX11_free_48 (lv_at hl 2 rfl) ?_
                refine lv_icmp_gt (tgt := 56) hx hb dX11_free_50 (by decide) (fun cz766 => ?_) (fun cz766 => ?_)
                · skip
                  have bz767 := fb_rng rz731
                  have bz768 := fb_rng rz763
                  have zz769 : rz731.toInt < rz763.toInt := zi_lt.mp cz766
                  obtain ⟨xz770, exz770⟩ : ∃ y : Int32, y = xz754 + Int32.ofInt (-1) := ⟨_, rfl⟩
                  have fxz770 : xz770.toInt = xz754.toInt + (-1) := by rw [exz770]; exact fb_addI (y := Int32.ofInt (-1)) (by show -2147483648 ≤ xz754.toInt + (-1); omega) (by show xz754.toInt + (-1) < 2147483648; omega)
                  refine lv_iinc (v := xz770) (lv' := [(5, .int xz770), (0, .ref (qX 0)), (3, .ref (sY 5 8)), (4, .int rz731)]) hx hb dX11_free_56 hl (k := 3) rfl exz770.symm (by decide) rfl (fun ls hl => ?_)
                  refine lv_goto (tgt := 36) hx hb dX11_free_59 (by decide) ?_
                  exact ih36 H locs ls az765 nz764 xz770 (by show (xz770.toInt + 2147483648).toNat < n9_36; omega) hnz764 (by show xz770.toInt ≤ 99; omega) hP hD hS (lv_sub hl [1, 2, 3, 0] rfl)
                · skip
                  have bz771 := fb_rng rz731
                  have bz772 := fb_rng rz763
                  have zz773 : ¬ rz731.toInt < rz763.toInt := fun h9 => cz766 (zi_lt.mpr h9)
                  refine lv_iload hx hb dX11_free_53 (lv_at hl 3 rfl) ?_
                  rw [hQ]
                  exact W.iret (v := xz754) hx hb hr (fun t ht hW => ⟨⟨xz754, (), rfl, trivial, nz764, az765, hnz764, by rw [ht]; exact hP⟩, hS.F ht⟩) hS.2.2 dX11_free_55
          exact lp36_kz755 _ s.heap [] ls aM nM (99 : Int32) (Nat.lt_succ_self _) hnM (by show (99 : Int) ≤ 99; omega) hP hD hS (lv_sub hl [3, 2, 1, 0] rfl)
      · skip
        have zz774 : ¬ p2.toInt < (0 : Int) := fun h9 => cz70 (zi_lt.mpr h9)
        have zz775 : ¬ (7 : Int) ≤ p2.toInt := fun h9 => cz71 (zi_le.mpr h9)
        have zz776 : p2.toInt = (5 : Int) := zi_eq.mp cz72
        refine W.eq (g2 := F0 m 20 ls [.ref (sY 6 0)]) rfl ?_
        refine va_get (D := (dC, dI)) (ci := 7) (v := .ref (sY 6 1)) (C := RX7) (T := TX7) (N := 9) hx hb hts (fun w h => List.mem_cons_of_mem _ (List.mem_append_right _ (List.mem_append_right _ (List.mem_append_right _ (List.mem_append_right _ (List.mem_append_left _ h)))))) hown hK hP 84 rfl rfl 0 (by decide) (hts (.fieldLink RX11 194 "SagMemory$State" "memories" "[LSagMemory$Memory;") (wl_mem 9 rfl)) (fun _ h9 => h9) rfl dX11_free_20 ?_
        refine lv_iload_n hx hb dX11_free_23 rfl (lv_at hl 1 rfl) ?_
        rcases (show p1 = 0 ∨ p1 = 1 ∨ p1 = 2 by simp only [zi_eq]; show p1.toInt = 0 ∨ p1.toInt = 1 ∨ p1.toInt = 2; omega) with cz777 | cz777 | cz777
        · skip
          have zz778 : p1.toInt = (0 : Int) := zi_eq.mp cz777
          refine W.eq (g2 := F0 m 24 ls [.int 0, .ref (sY 6 1)]) (by rw [cz777]) ?_
          refine va_aldq hx hb hK hP 85 4 rfl rfl (by unfold vp_in; decide) dX11_free_24 ?_
          refine W.eq (g2 := F0 m 25 ls [.ref (sY 6 2)]) rfl ?_
          refine lv_astore_n (lv' := [(3, .ref (sY 6 2)), (0, .ref (qX 0)), (1, .int p1), (2, .int p2)]) hx hb dX11_free_25 rfl hl (by decide) rfl (fun ls hl => ?_)
          refine lv_aload_n hx hb dX11_free_26 rfl (lv_at hl 0 rfl) ?_
          have hPc := hP.sub (ws' := (List.flatten [(wMem (fun i => sY 6 (i + 2)) k (nY 6) (aY 6))])) [86, 87, 88] rfl
          refine vp_callSi (va_Run.run (va_runV (As := []) (rest := []) ⟨hx, hb, hml, hown, hts⟩ (c_X2_depth l dC dI k (fun i => sY 6 (i + 2)) (nY 6) (aY 6) (hnY 6)) (cwV 0 hts (gk_V (wl_mem 10 rfl) (wl_mem 11 rfl) (wl_mem 12 rfl) (wl_mem 13 rfl) (fun w h => List.mem_cons_of_mem _ (List.mem_append_right _ (List.mem_append_right _ (List.mem_append_right _ (List.mem_append_right _ (List.mem_append_right _ (List.mem_append_left _ h))))))) wkg_c_X2_depth) rfl rfl rfl (by decide +kernel) ⟨Nat.le_of_ble_eq_true rfl, Nat.le_of_ble_eq_true rfl⟩) ⟨fun a U g mk q => by obtain ⟨q0, qP, qK⟩ := q; exact ⟨q0, qP, va_K.moved (u := U) (U := U.calling g mk a) (Vm.Alike.refl U.vm) qK⟩, va_recv hK hPc (ci := 2) (q0 := 0) rfl rfl, fun U hU hW => ⟨rfl, by rw [hU]; exact hPc, va_K.moved hW.alike hK⟩⟩ rfl rfl hl.1 rfl (lv_room (Nat.le_of_ble_eq_true rfl)) dX11_free_27 ⟨Nat.le_of_ble_eq_true rfl, Nat.le_of_ble_eq_true rfl⟩)) (fun rz780 gz779 => ?_)
          clear hPc
          refine lv_istore (lv' := [(4, .int rz780), (3, .ref (sY 6 2)), (0, .ref (qX 0)), (1, .int p1), (2, .int p2)]) hx hb dX11_free_30 hl (by decide) rfl (fun ls hl => ?_)
          refine lv_bipush (v := 99) hx hb dX11_free_32 (by decide) ?_
          refine lv_istore (lv' := [(5, .int 99), (4, .int rz780), (3, .ref (sY 6 2)), (0, .ref (qX 0)), (1, .int p1), (2, .int p2)]) hx hb dX11_free_34 hl (by decide) rfl (fun ls hl => ?_)
          have lp36_kz804 : ∀ (n9_36 : Nat) (H : Heap) (locs : List Loc) (ls : Array Slot) (az801 : Nat → Nat → Int32) (nz802 : Nat → Int32) (xz803 : Int32), (xz803.toInt + 2147483648).toNat < n9_36 → Rg 0 8 nz802 → xz803.toInt ≤ 99 → va_P (dC, dI) vwCl (List.flatten [(wMem qM k nz802 az801)] ++ List.flatten [(wSag qX k tapeX (qV 0) actsX nowX trialX (qY 0) attemptX orderSearchX routeSearchX setSearchX (qM 0) slot0X slot1X slot2X slot3X image0X image1X image2X aX), (wValley qV k vV bV cV wV aV eV), (wStoO qY k (qV 0) planY (sY 0 0) (sY 1 0) (sY 2 0) (sY 3 0) (sY 4 0) (sY 5 0) (sY 6 0) (sY 7 0)), (wState (sY 0) k (vY 0) (nY 0) (aY 0)), (wState (sY 1) k (vY 1) (nY 1) (aY 1)), (wState (sY 2) k (vY 2) (nY 2) (aY 2)), (wState (sY 3) k (vY 3) (nY 3) (aY 3)), (wState (sY 4) k (vY 4) (nY 4) (aY 4)), (wState (sY 5) k (vY 5) (nY 5) (aY 5)), (wState (sY 6) k (vY 6) (nY 6) (aY 6)), (wState (sY 7) k (vY 7) (nY 7) (aY 7))]) H → va_D A (List.flatten [(wMem qM k nz802 az801)] ++ List.flatten [(wSag qX k tapeX (qV 0) actsX nowX trialX (qY 0) attemptX orderSearchX routeSearchX setSearchX (qM 0) slot0X slot1X slot2X slot3X image0X image1X image2X aX), (wValley qV k vV bV cV wV aV eV), (wStoO qY k (qV 0) planY (sY 0 0) (sY 1 0) (sY 2 0) (sY 3 0) (sY 4 0) (sY 5 0) (sY 6 0) (sY 7 0)), (wState (sY 0) k (vY 0) (nY 0) (aY 0)), (wState (sY 1) k (vY 1) (nY 1) (aY 1)), (wState (sY 2) k (vY 2) (nY 2) (aY 2)), (wState (sY 3) k (vY 3) (nY 3) (aY 3)), (wState (sY 4) k (vY 4) (nY 4) (aY 4)), (wState (sY 5) k (vY 5) (nY 5) (aY 5)), (wState (sY 6) k (vY 6) (nY 6) (aY 6)), (wState (sY 7) k (vY 7) (nY 7) (aY 7))]) → va_S A s.heap H locs → lv_has ls 6 [(0, .ref (qX 0)), (3, .ref (sY 6 2)), (4, .int rz780), (5, .int xz803)] → W p l e (headSpec wk_c_X11_free ({ frames := 2, cells := 0, slots := 0, locals := 49 })).room s m ([.ref (qX 0), .int p1, .int p2] : List Value).toArray below meth c H locs 0 0 Q (F0 m 36 ls []) := by
            intro n9_36
            induction n9_36 with
            | zero => intro H locs ls az801 nz802 xz803 hm; exact absurd hm (Nat.not_lt_zero _)
            | succ n9_36 ih36 =>
              intro H locs ls az801 nz802 xz803 hm36 hnz802 jz805 hP hD hS hl
              refine lv_iload hx hb dX11_free_36 (lv_at hl 3 rfl) ?_
              refine lv_if_le (tgt := 62) hx hb dX11_free_38 (by decide) (fun cz806 => ?_) (fun cz806 => ?_)
              · skip
                have bz807 := fb_rng xz803
                have zz808 : xz803.toInt ≤ (0 : Int) := zi_le.mp cz806
                refine lv_iconst (v := 0) hx hb dX11_free_62 (by decide) ?_
                rw [hQ]
                exact W.iret (v := (0 : Int32)) hx hb hr (fun t ht hW => ⟨⟨(0 : Int32), (), rfl, trivial, nz802, az801, hnz802, by rw [ht]; exact hP⟩, hS.F ht⟩) hS.2.2 dX11_free_63
              · skip
                have bz809 := fb_rng xz803
                have zz810 : ¬ xz803.toInt ≤ (0 : Int) := fun h9 => cz806 (zi_le.mpr h9)
                refine lv_aload_n hx hb dX11_free_41 rfl (lv_at hl 0 rfl) ?_
                refine lv_aload_n hx hb dX11_free_42 rfl (lv_at hl 1 rfl) ?_
                refine lv_iload hx hb dX11_free_43 (lv_at hl 3 rfl) ?_
                have hPc := hP.sub (ws' := (List.flatten [(wMem qM k nz802 az801)] ++ List.flatten [(wSag qX k tapeX (qV 0) actsX nowX trialX (qY 0) attemptX orderSearchX routeSearchX setSearchX (qM 0) slot0X slot1X slot2X slot3X image0X image1X image2X aX), (wValley qV k vV bV cV wV aV eV), (wMem (fun i => sY 6 (i + 2)) k (nY 6) (aY 6))])) [0, 1, 2, 3, 4, 5, 6, 7, 8, 9, 10, 11, 12, 13, 14, 15, 86, 87, 88] rfl
                have hC : [0, 1, 2, 3, 4, 5, 6, 7, 8, 9, 10, 11, 12, 13, 14, 15, 86, 87, 88].map (fun i => (List.flatten [(wMem qM k nz802 az801)] ++ List.flatten [(wSag qX k tapeX (qV 0) actsX nowX trialX (qY 0) attemptX orderSearchX routeSearchX setSearchX (qM 0) slot0X slot1X slot2X slot3X image0X image1X image2X aX), (wValley qV k vV bV cV wV aV eV), (wStoO qY k (qV 0) planY (sY 0 0) (sY 1 0) (sY 2 0) (sY 3 0) (sY 4 0) (sY 5 0) (sY 6 0) (sY 7 0)), (wState (sY 0) k (vY 0) (nY 0) (aY 0)), (wState (sY 1) k (vY 1) (nY 1) (aY 1)), (wState (sY 2) k (vY 2) (nY 2) (aY 2)), (wState (sY 3) k (vY 3) (nY 3) (aY 3)), (wState (sY 4) k (vY 4) (nY 4) (aY 4)), (wState (sY 5) k (vY 5) (nY 5) (aY 5)), (wState (sY 6) k (vY 6) (nY 6) (aY 6)), (wState (sY 7) k (vY 7) (nY 7) (aY 7))])[i]?) = (List.flatten [(wMem qM k nz802 az801)] ++ List.flatten [(wSag qX k tapeX (qV 0) actsX nowX trialX (qY 0) attemptX orderSearchX routeSearchX setSearchX (qM 0) slot0X slot1X slot2X slot3X image0X image1X image2X aX), (wValley qV k vV bV cV wV aV eV), (wMem (fun i => sY 6 (i + 2)) k (nY 6) (aY 6))]).map some := rfl
                have hDc := hD.sub [0, 1, 2, 3, 4, 5, 6, 7, 8, 9, 10, 11, 12, 13, 14, 15, 86, 87, 88] (by decide) hC
                have hFc := va_free hD hS hA [0, 1, 2, 3, 4, 5, 6, 7, 8, 9, 10, 11, 12, 13, 14, 15, 86, 87, 88] hC
                refine va_calli (va_runV (As := [.ref (sY 6 2), .int xz803]) (rest := []) ⟨hx, hb, hml, hown, hts⟩ (c_X11_depthWith l dC dI k H.size qX tapeX actsX nowX trialX (qY 0) attemptX orderSearchX routeSearchX setSearchX slot0X slot1X slot2X slot3X image0X image1X image2X aX qV vV bV cV wV aV eV qM nz802 az801 (fun i => sY 6 (i + 2)) (nY 6) (aY 6) xz803 hbV hcV hwV heV hnz802 (hnY 6) (by show 0 ≤ xz803.toInt ∧ xz803.toInt ≤ 99; omega)) (cwV 2 hts (gk_V (wl_mem 14 rfl) (wl_mem 15 rfl) (wl_mem 16 rfl) (wl_mem 3 rfl) (fun w h => List.mem_cons_of_mem _ (List.mem_append_right _ (List.mem_append_right _ (List.mem_append_right _ (List.mem_append_right _ (List.mem_append_right _ (List.mem_append_right _ (List.mem_append_left _ h)))))))) wkg_c_X11_depthWith) rfl rfl rfl (by decide +kernel) ⟨Nat.le_of_ble_eq_true rfl, Nat.le_of_ble_eq_true rfl⟩) ⟨fun a U g mk q => by obtain ⟨q0, q1, qP, qK, qD⟩ := q; exact ⟨q0, q1, qP, va_K.moved (u := U) (U := U.calling g mk a) (Vm.Alike.refl U.vm) qK, qD⟩, va_recv hK hPc (ci := 11) (q0 := 3) rfl rfl, fun U hU hW => ⟨rfl, by rw [hU], by rw [hU]; exact hPc, va_K.moved hW.alike hK, hDc.weaken (fun _ _ _ _ => trivial)⟩⟩ rfl rfl hl.1 rfl (lv_room (Nat.le_of_ble_eq_true rfl)) dX11_free_45 ⟨Nat.le_of_ble_eq_true rfl, Nat.le_of_ble_eq_true rfl⟩) hS (fun q _ h => hFc q h) hFc (fun rz812 u t H1 locs ht hvm gz811 hB hz1 hk1 hS => ?_)
                obtain ⟨nz813, az814, hnz813, hP1⟩ := hB
                rw [ht] at hP1
                obtain ⟨hP, hD⟩ := w_callR hP hD hk1 hP1 [0] rfl rfl (wk_mem [3, 4, 5, 6, 7, 8, 9, 10, 11, 12, 13, 14, 15, 86, 87, 88] rfl) rfl [some 0] rfl rfl
                clear hPc hC hDc hFc hk1 hP1
                generalize H1 = H at hP hS ⊢
                have hP : va_P (dC, dI) vwCl (List.flatten [(wMem qM k nz813 az814)] ++ List.flatten [(wSag qX k tapeX (qV 0) actsX nowX trialX (qY 0) attemptX orderSearchX routeSearchX setSearchX (qM 0) slot0X slot1X slot2X slot3X image0X image1X image2X aX), (wValley qV k vV bV cV wV aV eV), (wStoO qY k (qV 0) planY (sY 0 0) (sY 1 0) (sY 2 0) (sY 3 0) (sY 4 0) (sY 5 0) (sY 6 0) (sY 7 0)), (wState (sY 0) k (vY 0) (nY 0) (aY 0)), (wState (sY 1) k (vY 1) (nY 1) (aY 1)), (wState (sY 2) k (vY 2) (nY 2) (aY 2)), (wState (sY 3) k (vY 3) (nY 3) (aY 3)), (wState (sY 4) k (vY 4) (nY 4) (aY 4)), (wState (sY 5) k (vY 5) (nY 5) (aY 5)), (wState (sY 6) k (vY 6) (nY 6) (aY 6)), (wState (sY 7) k (vY 7) (nY 7) (aY 7))]) H := hP
                have hD : va_D A (List.flatten [(wMem qM k nz813 az814)] ++ List.flatten [(wSag qX k tapeX (qV 0) actsX nowX trialX (qY 0) attemptX orderSearchX routeSearchX setSearchX (qM 0) slot0X slot1X slot2X slot3X image0X image1X image2X aX), (wValley qV k vV bV cV wV aV eV), (wStoO qY k (qV 0) planY (sY 0 0) (sY 1 0) (sY 2 0) (sY 3 0) (sY 4 0) (sY 5 0) (sY 6 0) (sY 7 0)), (wState (sY 0) k (vY 0) (nY 0) (aY 0)), (wState (sY 1) k (vY 1) (nY 1) (aY 1)), (wState (sY 2) k (vY 2) (nY 2) (aY 2)), (wState (sY 3) k (vY 3) (nY 3) (aY 3)), (wState (sY 4) k (vY 4) (nY 4) (aY 4)), (wState (sY 5) k (vY 5) (nY 5) (aY 5)), (wState (sY 6) k (vY 6) (nY 6) (aY 6)), (wState (sY 7) k (vY 7) (nY 7) (aY 7))]) := hD
                refine W.widen (k := 0) (n := 0) (Nat.le_refl 0) (Nat.le_refl 0) ?_
                refine lv_iload hx hb dX11_free_48 (lv_at hl 2 rfl) ?_
                refine lv_icmp_gt (tgt := 56) hx hb dX11_free_50 (by decide) (fun cz815 => ?_) (fun cz815 => ?_)
                · skip
                  have bz816 := fb_rng rz780
                  have bz817 := fb_rng rz812
                  have zz818 : rz780.toInt < rz812.toInt := zi_lt.mp cz815
                  obtain ⟨xz819, exz819⟩ : ∃ y : Int32, y = xz803 + Int32.ofInt (-1) := ⟨_, rfl⟩
                  have fxz819 : xz819.toInt = xz803.toInt + (-1) := by rw [exz819]; exact fb_addI (y := Int32.ofInt (-1)) (by show -2147483648 ≤ xz803.toInt + (-1); omega) (by show xz803.toInt + (-1) < 2147483648; omega)
                  refine lv_iinc (v := xz819) (lv' := [(5, .int xz819), (0, .ref (qX 0)), (3, .ref (sY 6 2)), (4, .int rz780)]) hx hb dX11_free_56 hl (k := 3) rfl exz819.symm (by decide) rfl (fun ls hl => ?_)
                  refine lv_goto (tgt := 36) hx hb dX11_free_59 (by decide) ?_
                  exact ih36 H locs ls az814 nz813 xz819 (by show (xz819.toInt + 2147483648).toNat < n9_36; omega) hnz813 (by show xz819.toInt ≤ 99; omega) hP hD hS (lv_sub hl [1, 2, 3, 0] rfl)
                · skip
                  have bz820 := fb_rng rz780
                  have bz821 := fb_rng rz812
                  have zz822 : ¬ rz780.toInt < rz812.toInt := fun h9 => cz815 (zi_lt.mpr h9)
                  refine lv_iload hx hb dX11_free_53 (lv_at hl 3 rfl) ?_
                  rw [hQ]
                  exact W.iret (v := xz803) hx hb hr (fun t ht hW => ⟨⟨xz803, (), rfl, trivial, nz813, az814, hnz813, by rw [ht]; exact hP⟩, hS.F ht⟩) hS.2.2 dX11_free_55
          exact lp36_kz804 _ s.heap [] ls aM nM (99 : Int32) (Nat.lt_succ_self _) hnM (by show (99 : Int) ≤ 99; omega) hP hD hS (lv_sub hl [3, 2, 1, 0] rfl)
        · skip
          have zz823 : p1.toInt = (1 : Int) := zi_eq.mp cz777
          refine W.eq (g2 := F0 m 24 ls [.int 1, .ref (sY 6 1)]) (by rw [cz777]) ?_
          refine va_aldq hx hb hK hP 85 4 rfl rfl (by unfold vp_in; decide) dX11_free_24 ?_
          refine W.eq (g2 := F0 m 25 ls [.ref (sY 6 5)]) rfl ?_
          refine lv_astore_n (lv' := [(3, .ref (sY 6 5)), (0, .ref (qX 0)), (1, .int p1), (2, .int p2)]) hx hb dX11_free_25 rfl hl (by decide) rfl (fun ls hl => ?_)
          refine lv_aload_n hx hb dX11_free_26 rfl (lv_at hl 0 rfl) ?_
          have hPc := hP.sub (ws' := (List.flatten [(wMem (fun i => sY 6 (i + 5)) k (fun i => (nY 6) (i + 1)) (fun i => (aY 6) (i + 2)))])) [89, 90, 91] rfl
          refine vp_callSi (va_Run.run (va_runV (As := []) (rest := []) ⟨hx, hb, hml, hown, hts⟩ (c_X2_depth l dC dI k (fun i => sY 6 (i + 5)) (fun i => (nY 6) (i + 1)) (fun i => (aY 6) (i + 2)) (fun i => (hnY 6) (i + 1))) (cwV 0 hts (gk_V (wl_mem 10 rfl) (wl_mem 11 rfl) (wl_mem 12 rfl) (wl_mem 13 rfl) (fun w h => List.mem_cons_of_mem _ (List.mem_append_right _ (List.mem_append_right _ (List.mem_append_right _ (List.mem_append_right _ (List.mem_append_right _ (List.mem_append_left _ h))))))) wkg_c_X2_depth) rfl rfl rfl (by decide +kernel) ⟨Nat.le_of_ble_eq_true rfl, Nat.le_of_ble_eq_true rfl⟩) ⟨fun a U g mk q => by obtain ⟨q0, qP, qK⟩ := q; exact ⟨q0, qP, va_K.moved (u := U) (U := U.calling g mk a) (Vm.Alike.refl U.vm) qK⟩, va_recv hK hPc (ci := 2) (q0 := 0) rfl rfl, fun U hU hW => ⟨rfl, by rw [hU]; exact hPc, va_K.moved hW.alike hK⟩⟩ rfl rfl hl.1 rfl (lv_room (Nat.le_of_ble_eq_true rfl)) dX11_free_27 ⟨Nat.le_of_ble_eq_true rfl, Nat.le_of_ble_eq_true rfl⟩)) (fun rz825 gz824 => ?_)
          clear hPc
          refine lv_istore (lv' := [(4, .int rz825), (3, .ref (sY 6 5)), (0, .ref (qX 0)), (1, .int p1), (2, .int p2)]) hx hb dX11_free_30 hl (by decide) rfl (fun ls hl => ?_)
          refine lv_bipush (v := 99) hx hb dX11_free_32 (by decide) ?_
          refine lv_istore (lv' := [(5, .int 99), (4, .int rz825), (3, .ref (sY 6 5)), (0, .ref (qX 0)), (1, .int p1), (2, .int p2)]) hx hb dX11_free_34 hl (by decide) rfl (fun ls hl => ?_)
          have lp36_kz849 : ∀ (n9_36 : Nat) (H : Heap) (locs : List Loc) (ls : Array Slot) (az846 : Nat → Nat → Int32) (nz847 : Nat → Int32) (xz848 : Int32), (xz848.toInt + 2147483648).toNat < n9_36 → Rg 0 8 nz847 → xz848.toInt ≤ 99 → va_P (dC, dI) vwCl (List.flatten [(wMem qM k nz847 az846)] ++ List.flatten [(wSag qX k tapeX (qV 0) actsX nowX trialX (qY 0) attemptX orderSearchX routeSearchX setSearchX (qM 0) slot0X slot1X slot2X slot3X image0X image1X image2X aX), (wValley qV k vV bV cV wV aV eV), (wStoO qY k (qV 0) planY (sY 0 0) (sY 1 0) (sY 2 0) (sY 3 0) (sY 4 0) (sY 5 0) (sY 6 0) (sY 7 0)), (wState (sY 0) k (vY 0) (nY 0) (aY 0)), (wState (sY 1) k (vY 1) (nY 1) (aY 1)), (wState (sY 2) k (vY 2) (nY 2) (aY 2)), (wState (sY 3) k (vY 3) (nY 3) (aY 3)), (wState (sY 4) k (vY 4) (nY 4) (aY 4)), (wState (sY 5) k (vY 5) (nY 5) (aY 5)), (wState (sY 6) k (vY 6) (nY 6) (aY 6)), (wState (sY 7) k (vY 7) (nY 7) (aY 7))]) H → va_D A (List.flatten [(wMem qM k nz847 az846)] ++ List.flatten [(wSag qX k tapeX (qV 0) actsX nowX trialX (qY 0) attemptX orderSearchX routeSearchX setSearchX (qM 0) slot0X slot1X slot2X slot3X image0X image1X image2X aX), (wValley qV k vV bV cV wV aV eV), (wStoO qY k (qV 0) planY (sY 0 0) (sY 1 0) (sY 2 0) (sY 3 0) (sY 4 0) (sY 5 0) (sY 6 0) (sY 7 0)), (wState (sY 0) k (vY 0) (nY 0) (aY 0)), (wState (sY 1) k (vY 1) (nY 1) (aY 1)), (wState (sY 2) k (vY 2) (nY 2) (aY 2)), (wState (sY 3) k (vY 3) (nY 3) (aY 3)), (wState (sY 4) k (vY 4) (nY 4) (aY 4)), (wState (sY 5) k (vY 5) (nY 5) (aY 5)), (wState (sY 6) k (vY 6) (nY 6) (aY 6)), (wState (sY 7) k (vY 7) (nY 7) (aY 7))]) → va_S A s.heap H locs → lv_has ls 6 [(0, .ref (qX 0)), (3, .ref (sY 6 5)), (4, .int rz825), (5, .int xz848)] → W p l e (headSpec wk_c_X11_free ({ frames := 2, cells := 0, slots := 0, locals := 49 })).room s m ([.ref (qX 0), .int p1, .int p2] : List Value).toArray below meth c H locs 0 0 Q (F0 m 36 ls []) := by
            intro n9_36
            induction n9_36 with
            | zero => intro H locs ls az846 nz847 xz848 hm; exact absurd hm (Nat.not_lt_zero _)
            | succ n9_36 ih36 =>
              intro H locs ls az846 nz847 xz848 hm36 hnz847 jz850 hP hD hS hl
              refine lv_iload hx hb dX11_free_36 (lv_at hl 3 rfl) ?_
              refine lv_if_le (tgt := 62) hx hb dX11_free_38 (by decide) (fun cz851 => ?_) (fun cz851 => ?_)
              · skip
                have bz852 := fb_rng xz848
                have zz853 : xz848.toInt ≤ (0 : Int) := zi_le.mp cz851
                refine lv_iconst (v := 0) hx hb dX11_free_62 (by decide) ?_
                rw [hQ]
                exact W.iret (v := (0 : Int32)) hx hb hr (fun t ht hW => ⟨⟨(0 : Int32), (), rfl, trivial, nz847, az846, hnz847, by rw [ht]; exact hP⟩, hS.F ht⟩) hS.2.2 dX11_free_63
              · skip
                have bz854 := fb_rng xz848
                have zz855 : ¬ xz848.toInt ≤ (0 : Int) := fun h9 => cz851 (zi_le.mpr h9)
                refine lv_aload_n hx hb dX11_free_41 rfl (lv_at hl 0 rfl) ?_
                refine lv_aload_n hx hb dX11_free_42 rfl (lv_at hl 1 rfl) ?_
                refine lv_iload hx hb dX11_free_43 (lv_at hl 3 rfl) ?_
                have hPc := hP.sub (ws' := (List.flatten [(wMem qM k nz847 az846)] ++ List.flatten [(wSag qX k tapeX (qV 0) actsX nowX trialX (qY 0) attemptX orderSearchX routeSearchX setSearchX (qM 0) slot0X slot1X slot2X slot3X image0X image1X image2X aX), (wValley qV k vV bV cV wV aV eV), (wMem (fun i => sY 6 (i + 5)) k (fun i => (nY 6) (i + 1)) (fun i => (aY 6) (i + 2)))])) [0, 1, 2, 3, 4, 5, 6, 7, 8, 9, 10, 11, 12, 13, 14, 15, 89, 90, 91] rfl
                have hC : [0, 1, 2, 3, 4, 5, 6, 7, 8, 9, 10, 11, 12, 13, 14, 15, 89, 90, 91].map (fun i => (List.flatten [(wMem qM k nz847 az846)] ++ List.flatten [(wSag qX k tapeX (qV 0) actsX nowX trialX (qY 0) attemptX orderSearchX routeSearchX setSearchX (qM 0) slot0X slot1X slot2X slot3X image0X image1X image2X aX), (wValley qV k vV bV cV wV aV eV), (wStoO qY k (qV 0) planY (sY 0 0) (sY 1 0) (sY 2 0) (sY 3 0) (sY 4 0) (sY 5 0) (sY 6 0) (sY 7 0)), (wState (sY 0) k (vY 0) (nY 0) (aY 0)), (wState (sY 1) k (vY 1) (nY 1) (aY 1)), (wState (sY 2) k (vY 2) (nY 2) (aY 2)), (wState (sY 3) k (vY 3) (nY 3) (aY 3)), (wState (sY 4) k (vY 4) (nY 4) (aY 4)), (wState (sY 5) k (vY 5) (nY 5) (aY 5)), (wState (sY 6) k (vY 6) (nY 6) (aY 6)), (wState (sY 7) k (vY 7) (nY 7) (aY 7))])[i]?) = (List.flatten [(wMem qM k nz847 az846)] ++ List.flatten [(wSag qX k tapeX (qV 0) actsX nowX trialX (qY 0) attemptX orderSearchX routeSearchX setSearchX (qM 0) slot0X slot1X slot2X slot3X image0X image1X image2X aX), (wValley qV k vV bV cV wV aV eV), (wMem (fun i => sY 6 (i + 5)) k (fun i => (nY 6) (i + 1)) (fun i => (aY 6) (i + 2)))]).map some := rfl
                have hDc := hD.sub [0, 1, 2, 3, 4, 5, 6, 7, 8, 9, 10, 11, 12, 13, 14, 15, 89, 90, 91] (by decide) hC
                have hFc := va_free hD hS hA [0, 1, 2, 3, 4, 5, 6, 7, 8, 9, 10, 11, 12, 13, 14, 15, 89, 90, 91] hC
                refine va_calli (va_runV (As := [.ref (sY 6 5), .int xz848]) (rest := []) ⟨hx, hb, hml, hown, hts⟩ (c_X11_depthWith l dC dI k H.size qX tapeX actsX nowX trialX (qY 0) attemptX orderSearchX routeSearchX setSearchX slot0X slot1X slot2X slot3X image0X image1X image2X aX qV vV bV cV wV aV eV qM nz847 az846 (fun i => sY 6 (i + 5)) (fun i => (nY 6) (i + 1)) (fun i => (aY 6) (i + 2)) xz848 hbV hcV hwV heV hnz847 (fun i => (hnY 6) (i + 1)) (by show 0 ≤ xz848.toInt ∧ xz848.toInt ≤ 99; omega)) (cwV 2 hts (gk_V (wl_mem 14 rfl) (wl_mem 15 rfl) (wl_mem 16 rfl) (wl_mem 3 rfl) (fun w h => List.mem_cons_of_mem _ (List.mem_append_right _ (List.mem_append_right _ (List.mem_append_right _ (List.mem_append_right _ (List.mem_append_right _ (List.mem_append_right _ (List.mem_append_left _ h)))))))) wkg_c_X11_depthWith) rfl rfl rfl (by decide +kernel) ⟨Nat.le_of_ble_eq_true rfl, Nat.le_of_ble_eq_true rfl⟩) ⟨fun a U g mk q => by obtain ⟨q0, q1, qP, qK, qD⟩ := q; exact ⟨q0, q1, qP, va_K.moved (u := U) (U := U.calling g mk a) (Vm.Alike.refl U.vm) qK, qD⟩, va_recv hK hPc (ci := 11) (q0 := 3) rfl rfl, fun U hU hW => ⟨rfl, by rw [hU], by rw [hU]; exact hPc, va_K.moved hW.alike hK, hDc.weaken (fun _ _ _ _ => trivial)⟩⟩ rfl rfl hl.1 rfl (lv_room (Nat.le_of_ble_eq_true rfl)) dX11_free_45 ⟨Nat.le_of_ble_eq_true rfl, Nat.le_of_ble_eq_true rfl⟩) hS (fun q _ h => hFc q h) hFc (fun rz857 u t H1 locs ht hvm gz856 hB hz1 hk1 hS => ?_)
                obtain ⟨nz858, az859, hnz858, hP1⟩ := hB
                rw [ht] at hP1
                obtain ⟨hP, hD⟩ := w_callR hP hD hk1 hP1 [0] rfl rfl (wk_mem [3, 4, 5, 6, 7, 8, 9, 10, 11, 12, 13, 14, 15, 89, 90, 91] rfl) rfl [some 0] rfl rfl
                clear hPc hC hDc hFc hk1 hP1
                generalize H1 = H at hP hS ⊢
                have hP : va_P (dC, dI) vwCl (List.flatten [(wMem qM k nz858 az859)] ++ List.flatten [(wSag qX k tapeX (qV 0) actsX nowX trialX (qY 0) attemptX orderSearchX routeSearchX setSearchX (qM 0) slot0X slot1X slot2X slot3X image0X image1X image2X aX), (wValley qV k vV bV cV wV aV eV), (wStoO qY k (qV 0) planY (sY 0 0) (sY 1 0) (sY 2 0) (sY 3 0) (sY 4 0) (sY 5 0) (sY 6 0) (sY 7 0)), (wState (sY 0) k (vY 0) (nY 0) (aY 0)), (wState (sY 1) k (vY 1) (nY 1) (aY 1)), (wState (sY 2) k (vY 2) (nY 2) (aY 2)), (wState (sY 3) k (vY 3) (nY 3) (aY 3)), (wState (sY 4) k (vY 4) (nY 4) (aY 4)), (wState (sY 5) k (vY 5) (nY 5) (aY 5)), (wState (sY 6) k (vY 6) (nY 6) (aY 6)), (wState (sY 7) k (vY 7) (nY 7) (aY 7))]) H := hP
                have hD : va_D A (List.flatten [(wMem qM k nz858 az859)] ++ List.flatten [(wSag qX k tapeX (qV 0) actsX nowX trialX (qY 0) attemptX orderSearchX routeSearchX setSearchX (qM 0) slot0X slot1X slot2X slot3X image0X image1X image2X aX), (wValley qV k vV bV cV wV aV eV), (wStoO qY k (qV 0) planY (sY 0 0) (sY 1 0) (sY 2 0) (sY 3 0) (sY 4 0) (sY 5 0) (sY 6 0) (sY 7 0)), (wState (sY 0) k (vY 0) (nY 0) (aY 0)), (wState (sY 1) k (vY 1) (nY 1) (aY 1)), (wState (sY 2) k (vY 2) (nY 2) (aY 2)), (wState (sY 3) k (vY 3) (nY 3) (aY 3)), (wState (sY 4) k (vY 4) (nY 4) (aY 4)), (wState (sY 5) k (vY 5) (nY 5) (aY 5)), (wState (sY 6) k (vY 6) (nY 6) (aY 6)), (wState (sY 7) k (vY 7) (nY 7) (aY 7))]) := hD
                refine W.widen (k := 0) (n := 0) (Nat.le_refl 0) (Nat.le_refl 0) ?_
                refine lv_iload hx hb dX11_free_48 (lv_at hl 2 rfl) ?_
                refine lv_icmp_gt (tgt := 56) hx hb dX11_free_50 (by decide) (fun cz860 => ?_) (fun cz860 => ?_)
                · skip
                  have bz861 := fb_rng rz825
                  have bz862 := fb_rng rz857
                  have zz863 : rz825.toInt < rz857.toInt := zi_lt.mp cz860
                  obtain ⟨xz864, exz864⟩ : ∃ y : Int32, y = xz848 + Int32.ofInt (-1) := ⟨_, rfl⟩
                  have fxz864 : xz864.toInt = xz848.toInt + (-1) := by rw [exz864]; exact fb_addI (y := Int32.ofInt (-1)) (by show -2147483648 ≤ xz848.toInt + (-1); omega) (by show xz848.toInt + (-1) < 2147483648; omega)
                  refine lv_iinc (v := xz864) (lv' := [(5, .int xz864), (0, .ref (qX 0)), (3, .ref (sY 6 5)), (4, .int rz825)]) hx hb dX11_free_56 hl (k := 3) rfl exz864.symm (by decide) rfl (fun ls hl => ?_)
                  refine lv_goto (tgt := 36) hx hb dX11_free_59 (by decide) ?_
                  exact ih36 H locs ls az859 nz858 xz864 (by show (xz864.toInt + 2147483648).toNat < n9_36; omega) hnz858 (by show xz864.toInt ≤ 99; omega) hP hD hS (lv_sub hl [1, 2, 3, 0] rfl)
                · skip
                  have bz865 := fb_rng rz825
                  have bz866 := fb_rng rz857
                  have zz867 : ¬ rz825.toInt < rz857.toInt := fun h9 => cz860 (zi_lt.mpr h9)
                  refine lv_iload hx hb dX11_free_53 (lv_at hl 3 rfl) ?_
                  rw [hQ]
                  exact W.iret (v := xz848) hx hb hr (fun t ht hW => ⟨⟨xz848, (), rfl, trivial, nz858, az859, hnz858, by rw [ht]; exact hP⟩, hS.F ht⟩) hS.2.2 dX11_free_55
          exact lp36_kz849 _ s.heap [] ls aM nM (99 : Int32) (Nat.lt_succ_self _) hnM (by show (99 : Int) ≤ 99; omega) hP hD hS (lv_sub hl [3, 2, 1, 0] rfl)
        · skip
          have zz868 : p1.toInt = (2 : Int) := zi_eq.mp cz777
          refine W.eq (g2 := F0 m 24 ls [.int 2, .ref (sY 6 1)]) (by rw [cz777]) ?_
          refine va_aldq hx hb hK hP 85 4 rfl rfl (by unfold vp_in; decide) dX11_free_24 ?_
          refine W.eq (g2 := F0 m 25 ls [.ref (sY 6 8)]) rfl ?_
          refine lv_astore_n (lv' := [(3, .ref (sY 6 8)), (0, .ref (qX 0)), (1, .int p1), (2, .int p2)]) hx hb dX11_free_25 rfl hl (by decide) rfl (fun ls hl => ?_)
          refine lv_aload_n hx hb dX11_free_26 rfl (lv_at hl 0 rfl) ?_
          have hPc := hP.sub (ws' := (List.flatten [(wMem (fun i => sY 6 (i + 8)) k (fun i => (nY 6) (i + 2)) (fun i => (aY 6) (i + 4)))])) [92, 93, 94] rfl
          refine vp_callSi (va_Run.run (va_runV (As := []) (rest := []) ⟨hx, hb, hml, hown, hts⟩ (c_X2_depth l dC dI k (fun i => sY 6 (i + 8)) (fun i => (nY 6) (i + 2)) (fun i => (aY 6) (i + 4)) (fun i => (hnY 6) (i + 2))) (cwV 0 hts (gk_V (wl_mem 10 rfl) (wl_mem 11 rfl) (wl_mem 12 rfl) (wl_mem 13 rfl) (fun w h => List.mem_cons_of_mem _ (List.mem_append_right _ (List.mem_append_right _ (List.mem_append_right _ (List.mem_append_right _ (List.mem_append_right _ (List.mem_append_left _ h))))))) wkg_c_X2_depth) rfl rfl rfl (by decide +kernel) ⟨Nat.le_of_ble_eq_true rfl, Nat.le_of_ble_eq_true rfl⟩) ⟨fun a U g mk q => by obtain ⟨q0, qP, qK⟩ := q; exact ⟨q0, qP, va_K.moved (u := U) (U := U.calling g mk a) (Vm.Alike.refl U.vm) qK⟩, va_recv hK hPc (ci := 2) (q0 := 0) rfl rfl, fun U hU hW => ⟨rfl, by rw [hU]; exact hPc, va_K.moved hW.alike hK⟩⟩ rfl rfl hl.1 rfl (lv_room (Nat.le_of_ble_eq_true rfl)) dX11_free_27 ⟨Nat.le_of_ble_eq_true rfl, Nat.le_of_ble_eq_true rfl⟩)) (fun rz870 gz869 => ?_)
          clear hPc
          refine lv_istore (lv' := [(4, .int rz870), (3, .ref (sY 6 8)), (0, .ref (qX 0)), (1, .int p1), (2, .int p2)]) hx hb dX11_free_30 hl (by decide) rfl (fun ls hl => ?_)
          refine lv_bipush (v := 99) hx hb dX11_free_32 (by decide) ?_
          refine lv_istore (lv' := [(5, .int 99), (4, .int rz870), (3, .ref (sY 6 8)), (0, .ref (qX 0)), (1, .int p1), (2, .int p2)]) hx hb dX11_free_34 hl (by decide) rfl (fun ls hl => ?_)
          have lp36_kz894 : ∀ (n9_36 : Nat) (H : Heap) (locs : List Loc) (ls : Array Slot) (az891 : Nat → Nat → Int32) (nz892 : Nat → Int32) (xz893 : Int32), (xz893.toInt + 2147483648).toNat < n9_36 → Rg 0 8 nz892 → xz893.toInt ≤ 99 → va_P (dC, dI) vwCl (List.flatten [(wMem qM k nz892 az891)] ++ List.flatten [(wSag qX k tapeX (qV 0) actsX nowX trialX (qY 0) attemptX orderSearchX routeSearchX setSearchX (qM 0) slot0X slot1X slot2X slot3X image0X image1X image2X aX), (wValley qV k vV bV cV wV aV eV), (wStoO qY k (qV 0) planY (sY 0 0) (sY 1 0) (sY 2 0) (sY 3 0) (sY 4 0) (sY 5 0) (sY 6 0) (sY 7 0)), (wState (sY 0) k (vY 0) (nY 0) (aY 0)), (wState (sY 1) k (vY 1) (nY 1) (aY 1)), (wState (sY 2) k (vY 2) (nY 2) (aY 2)), (wState (sY 3) k (vY 3) (nY 3) (aY 3)), (wState (sY 4) k (vY 4) (nY 4) (aY 4)), (wState (sY 5) k (vY 5) (nY 5) (aY 5)), (wState (sY 6) k (vY 6) (nY 6) (aY 6)), (wState (sY 7) k (vY 7) (nY 7) (aY 7))]) H → va_D A (List.flatten [(wMem qM k nz892 az891)] ++ List.flatten [(wSag qX k tapeX (qV 0) actsX nowX trialX (qY 0) attemptX orderSearchX routeSearchX setSearchX (qM 0) slot0X slot1X slot2X slot3X image0X image1X image2X aX), (wValley qV k vV bV cV wV aV eV), (wStoO qY k (qV 0) planY (sY 0 0) (sY 1 0) (sY 2 0) (sY 3 0) (sY 4 0) (sY 5 0) (sY 6 0) (sY 7 0)), (wState (sY 0) k (vY 0) (nY 0) (aY 0)), (wState (sY 1) k (vY 1) (nY 1) (aY 1)), (wState (sY 2) k (vY 2) (nY 2) (aY 2)), (wState (sY 3) k (vY 3) (nY 3) (aY 3)), (wState (sY 4) k (vY 4) (nY 4) (aY 4)), (wState (sY 5) k (vY 5) (nY 5) (aY 5)), (wState (sY 6) k (vY 6) (nY 6) (aY 6)), (wState (sY 7) k (vY 7) (nY 7) (aY 7))]) → va_S A s.heap H locs → lv_has ls 6 [(0, .ref (qX 0)), (3, .ref (sY 6 8)), (4, .int rz870), (5, .int xz893)] → W p l e (headSpec wk_c_X11_free ({ frames := 2, cells := 0, slots := 0, locals := 49 })).room s m ([.ref (qX 0), .int p1, .int p2] : List Value).toArray below meth c H locs 0 0 Q (F0 m 36 ls []) := by
            intro n9_36
            induction n9_36 with
            | zero => intro H locs ls az891 nz892 xz893 hm; exact absurd hm (Nat.not_lt_zero _)
            | succ n9_36 ih36 =>
              intro H locs ls az891 nz892 xz893 hm36 hnz892 jz895 hP hD hS hl
              refine lv_iload hx hb dX11_free_36 (lv_at hl 3 rfl) ?_
              refine lv_if_le (tgt := 62) hx hb dX11_free_38 (by decide) (fun cz896 => ?_) (fun cz896 => ?_)
              · skip
                have bz897 := fb_rng xz893
                have zz898 : xz893.toInt ≤ (0 : Int) := zi_le.mp cz896
                refine lv_iconst (v := 0) hx hb dX11_free_62 (by decide) ?_
                rw [hQ]
                exact W.iret (v := (0 : Int32)) hx hb hr (fun t ht hW => ⟨⟨(0 : Int32), (), rfl, trivial, nz892, az891, hnz892, by rw [ht]; exact hP⟩, hS.F ht⟩) hS.2.2 dX11_free_63
              · skip
                have bz899 := fb_rng xz893
                have zz900 : ¬ xz893.toInt ≤ (0 : Int) := fun h9 => cz896 (zi_le.mpr h9)
                refine lv_aload_n hx hb dX11_free_41 rfl (lv_at hl 0 rfl) ?_
                refine lv_aload_n hx hb dX11_free_42 rfl (lv_at hl 1 rfl) ?_
                refine lv_iload hx hb dX11_free_43 (lv_at hl 3 rfl) ?_
                have hPc := hP.sub (ws' := (List.flatten [(wMem qM k nz892 az891)] ++ List.flatten [(wSag qX k tapeX (qV 0) actsX nowX trialX (qY 0) attemptX orderSearchX routeSearchX setSearchX (qM 0) slot0X slot1X slot2X slot3X image0X image1X image2X aX), (wValley qV k vV bV cV wV aV eV), (wMem (fun i => sY 6 (i + 8)) k (fun i => (nY 6) (i + 2)) (fun i => (aY 6) (i + 4)))])) [0, 1, 2, 3, 4, 5, 6, 7, 8, 9, 10, 11, 12, 13, 14, 15, 92, 93, 94] rfl
                have hC : [0, 1, 2, 3, 4, 5, 6, 7, 8, 9, 10, 11, 12, 13, 14, 15, 92, 93, 94].map (fun i => (List.flatten [(wMem qM k nz892 az891)] ++ List.flatten [(wSag qX k tapeX (qV 0) actsX nowX trialX (qY 0) attemptX orderSearchX routeSearchX setSearchX (qM 0) slot0X slot1X slot2X slot3X image0X image1X image2X aX), (wValley qV k vV bV cV wV aV eV), (wStoO qY k (qV 0) planY (sY 0 0) (sY 1 0) (sY 2 0) (sY 3 0) (sY 4 0) (sY 5 0) (sY 6 0) (sY 7 0)), (wState (sY 0) k (vY 0) (nY 0) (aY 0)), (wState (sY 1) k (vY 1) (nY 1) (aY 1)), (wState (sY 2) k (vY 2) (nY 2) (aY 2)), (wState (sY 3) k (vY 3) (nY 3) (aY 3)), (wState (sY 4) k (vY 4) (nY 4) (aY 4)), (wState (sY 5) k (vY 5) (nY 5) (aY 5)), (wState (sY 6) k (vY 6) (nY 6) (aY 6)), (wState (sY 7) k (vY 7) (nY 7) (aY 7))])[i]?) = (List.flatten [(wMem qM k nz892 az891)] ++ List.flatten [(wSag qX k tapeX (qV 0) actsX nowX trialX (qY 0) attemptX orderSearchX routeSearchX setSearchX (qM 0) slot0X slot1X slot2X slot3X image0X image1X image2X aX), (wValley qV k vV bV cV wV aV eV), (wMem (fun i => sY 6 (i + 8)) k (fun i => (nY 6) (i + 2)) (fun i => (aY 6) (i + 4)))]).map some := rfl
                have hDc := hD.sub [0, 1, 2, 3, 4, 5, 6, 7, 8, 9, 10, 11, 12, 13, 14, 15, 92, 93, 94] (by decide) hC
                have hFc := va_free hD hS hA [0, 1, 2, 3, 4, 5, 6, 7, 8, 9, 10, 11, 12, 13, 14, 15, 92, 93, 94] hC
                refine va_calli (va_runV (As := [.ref (sY 6 8), .int xz893]) (rest := []) ⟨hx, hb, hml, hown, hts⟩ (c_X11_depthWith l dC dI k H.size qX tapeX actsX nowX trialX (qY 0) attemptX orderSearchX routeSearchX setSearchX slot0X slot1X slot2X slot3X image0X image1X image2X aX qV vV bV cV wV aV eV qM nz892 az891 (fun i => sY 6 (i + 8)) (fun i => (nY 6) (i + 2)) (fun i => (aY 6) (i + 4)) xz893 hbV hcV hwV heV hnz892 (fun i => (hnY 6) (i + 2)) (by show 0 ≤ xz893.toInt ∧ xz893.toInt ≤ 99; omega)) (cwV 2 hts (gk_V (wl_mem 14 rfl) (wl_mem 15 rfl) (wl_mem 16 rfl) (wl_mem 3 rfl) (fun w h => List.mem_cons_of_mem _ (List.mem_append_right _ (List.mem_append_right _ (List.mem_append_right _ (List.mem_append_right _ (List.mem_append_right _ (List.mem_append_right _ (List.mem_append_left _ h)))))))) wkg_c_X11_depthWith) rfl rfl rfl (by decide +kernel) ⟨Nat.le_of_ble_eq_true rfl, Nat.le_of_ble_eq_true rfl⟩) ⟨fun a U g mk q => by obtain ⟨q0, q1, qP, qK, qD⟩ := q; exact ⟨q0, q1, qP, va_K.moved (u := U) (U := U.calling g mk a) (Vm.Alike.refl U.vm) qK, qD⟩, va_recv hK hPc (ci := 11) (q0 := 3) rfl rfl, fun U hU hW => ⟨rfl, by rw [hU], by rw [hU]; exact hPc, va_K.moved hW.alike hK, hDc.weaken (fun _ _ _ _ => trivial)⟩⟩ rfl rfl hl.1 rfl (lv_room (Nat.le_of_ble_eq_true rfl)) dX11_free_45 ⟨Nat.le_of_ble_eq_true rfl, Nat.le_of_ble_eq_true rfl⟩) hS (fun q _ h => hFc q h) hFc (fun rz902 u t H1 locs ht hvm gz901 hB hz1 hk1 hS => ?_)
                obtain ⟨nz903, az904, hnz903, hP1⟩ := hB
                rw [ht] at hP1
                obtain ⟨hP, hD⟩ := w_callR hP hD hk1 hP1 [0] rfl rfl (wk_mem [3, 4, 5, 6, 7, 8, 9, 10, 11, 12, 13, 14, 15, 92, 93, 94] rfl) rfl [some 0] rfl rfl
                clear hPc hC hDc hFc hk1 hP1
                generalize H1 = H at hP hS ⊢
                have hP : va_P (dC, dI) vwCl (List.flatten [(wMem qM k nz903 az904)] ++ List.flatten [(wSag qX k tapeX (qV 0) actsX nowX trialX (qY 0) attemptX orderSearchX routeSearchX setSearchX (qM 0) slot0X slot1X slot2X slot3X image0X image1X image2X aX), (wValley qV k vV bV cV wV aV eV), (wStoO qY k (qV 0) planY (sY 0 0) (sY 1 0) (sY 2 0) (sY 3 0) (sY 4 0) (sY 5 0) (sY 6 0) (sY 7 0)), (wState (sY 0) k (vY 0) (nY 0) (aY 0)), (wState (sY 1) k (vY 1) (nY 1) (aY 1)), (wState (sY 2) k (vY 2) (nY 2) (aY 2)), (wState (sY 3) k (vY 3) (nY 3) (aY 3)), (wState (sY 4) k (vY 4) (nY 4) (aY 4)), (wState (sY 5) k (vY 5) (nY 5) (aY 5)), (wState (sY 6) k (vY 6) (nY 6) (aY 6)), (wState (sY 7) k (vY 7) (nY 7) (aY 7))]) H := hP
                have hD : va_D A (List.flatten [(wMem qM k nz903 az904)] ++ List.flatten [(wSag qX k tapeX (qV 0) actsX nowX trialX (qY 0) attemptX orderSearchX routeSearchX setSearchX (qM 0) slot0X slot1X slot2X slot3X image0X image1X image2X aX), (wValley qV k vV bV cV wV aV eV), (wStoO qY k (qV 0) planY (sY 0 0) (sY 1 0) (sY 2 0) (sY 3 0) (sY 4 0) (sY 5 0) (sY 6 0) (sY 7 0)), (wState (sY 0) k (vY 0) (nY 0) (aY 0)), (wState (sY 1) k (vY 1) (nY 1) (aY 1)), (wState (sY 2) k (vY 2) (nY 2) (aY 2)), (wState (sY 3) k (vY 3) (nY 3) (aY 3)), (wState (sY 4) k (vY 4) (nY 4) (aY 4)), (wState (sY 5) k (vY 5) (nY 5) (aY 5)), (wState (sY 6) k (vY 6) (nY 6) (aY 6)), (wState (sY 7) k (vY 7) (nY 7) (aY 7))]) := hD
                refine W.widen (k := 0) (n := 0) (Nat.le_refl 0) (Nat.le_refl 0) ?_
                refine lv_iload hx hb dX11_free_48 (lv_at hl 2 rfl) ?_
                refine lv_icmp_gt (tgt := 56) hx hb dX11_free_50 (by decide) (fun cz905 => ?_) (fun cz905 => ?_)
                · skip
                  have bz906 := fb_rng rz870
                  have bz907 := fb_rng rz902
                  have zz908 : rz870.toInt < rz902.toInt := zi_lt.mp cz905
                  obtain ⟨xz909, exz909⟩ : ∃ y : Int32, y = xz893 + Int32.ofInt (-1) := ⟨_, rfl⟩
                  have fxz909 : xz909.toInt = xz893.toInt + (-1) := by rw [exz909]; exact fb_addI (y := Int32.ofInt (-1)) (by show -2147483648 ≤ xz893.toInt + (-1); omega) (by show xz893.toInt + (-1) < 2147483648; omega)
                  refine lv_iinc (v := xz909) (lv' := [(5, .int xz909), (0, .ref (qX 0)), (3, .ref (sY 6 8)), (4, .int rz870)]) hx hb dX11_free_56 hl (k := 3) rfl exz909.symm (by decide) rfl (fun ls hl => ?_)
                  refine lv_goto (tgt := 36) hx hb dX11_free_59 (by decide) ?_
                  exact ih36 H locs ls az904 nz903 xz909 (by show (xz909.toInt + 2147483648).toNat < n9_36; omega) hnz903 (by show xz909.toInt ≤ 99; omega) hP hD hS (lv_sub hl [1, 2, 3, 0] rfl)
                · skip
                  have bz910 := fb_rng rz870
                  have bz911 := fb_rng rz902
                  have zz912 : ¬ rz870.toInt < rz902.toInt := fun h9 => cz905 (zi_lt.mpr h9)
                  refine lv_iload hx hb dX11_free_53 (lv_at hl 3 rfl) ?_
                  rw [hQ]
                  exact W.iret (v := xz893) hx hb hr (fun t ht hW => ⟨⟨xz893, (), rfl, trivial, nz903, az904, hnz903, by rw [ht]; exact hP⟩, hS.F ht⟩) hS.2.2 dX11_free_55
          exact lp36_kz894 _ s.heap [] ls aM nM (99 : Int32) (Nat.lt_succ_self _) hnM (by show (99 : Int) ≤ 99; omega) hP hD hS (lv_sub hl [3, 2, 1, 0] rfl)
      · skip
        have zz913 : ¬ p2.toInt < (0 : Int) := fun h9 => cz73 (zi_lt.mpr h9)
        have zz914 : ¬ (7 : Int) ≤ p2.toInt := fun h9 => cz74 (zi_le.mpr h9)
        have zz915 : p2.toInt = (6 : Int) := zi_eq.mp cz75
        refine W.eq (g2 := F0 m 20 ls [.ref (sY 7 0)]) rfl ?_
        refine va_get (D := (dC, dI)) (ci := 7) (v := .ref (sY 7 1)) (C := RX7) (T := TX7) (N := 9) hx hb hts (fun w h => List.mem_cons_of_mem _ (List.mem_append_right _ (List.mem_append_right _ (List.mem_append_right _ (List.mem_append_right _ (List.mem_append_left _ h)))))) hown hK hP 95 rfl rfl 0 (by decide) (hts (.fieldLink RX11 194 "SagMemory$State" "memories" "[LSagMemory$Memory;") (wl_mem 9 rfl)) (fun _ h9 => h9) rfl dX11_free_20 ?_
        refine lv_iload_n hx hb dX11_free_23 rfl (lv_at hl 1 rfl) ?_
        rcases (show p1 = 0 ∨ p1 = 1 ∨ p1 = 2 by simp only [zi_eq]; show p1.toInt = 0 ∨ p1.toInt = 1 ∨ p1.toInt = 2; omega) with cz916 | cz916 | cz916
        · skip
          have zz917 : p1.toInt = (0 : Int) := zi_eq.mp cz916
          refine W.eq (g2 := F0 m 24 ls [.int 0, .ref (sY 7 1)]) (by rw [cz916]) ?_
          refine va_aldq hx hb hK hP 96 4 rfl rfl (by unfold vp_in; decide) dX11_free_24 ?_
          refine W.eq (g2 := F0 m 25 ls [.ref (sY 7 2)]) rfl ?_
          refine lv_astore_n (lv' := [(3, .ref (sY 7 2)), (0, .ref (qX 0)), (1, .int p1), (2, .int p2)]) hx hb dX11_free_25 rfl hl (by decide) rfl (fun ls hl => ?_)
          refine lv_aload_n hx hb dX11_free_26 rfl (lv_at hl 0 rfl) ?_
          have hPc := hP.sub (ws' := (List.flatten [(wMem (fun i => sY 7 (i + 2)) k (nY 7) (aY 7))])) [97, 98, 99] rfl
          refine vp_callSi (va_Run.run (va_runV (As := []) (rest := []) ⟨hx, hb, hml, hown, hts⟩ (c_X2_depth l dC dI k (fun i => sY 7 (i + 2)) (nY 7) (aY 7) (hnY 7)) (cwV 0 hts (gk_V (wl_mem 10 rfl) (wl_mem 11 rfl) (wl_mem 12 rfl) (wl_mem 13 rfl) (fun w h => List.mem_cons_of_mem _ (List.mem_append_right _ (List.mem_append_right _ (List.mem_append_right _ (List.mem_append_right _ (List.mem_append_right _ (List.mem_append_left _ h))))))) wkg_c_X2_depth) rfl rfl rfl (by decide +kernel) ⟨Nat.le_of_ble_eq_true rfl, Nat.le_of_ble_eq_true rfl⟩) ⟨fun a U g mk q => by obtain ⟨q0, qP, qK⟩ := q; exact ⟨q0, qP, va_K.moved (u := U) (U := U.calling g mk a) (Vm.Alike.refl U.vm) qK⟩, va_recv hK hPc (ci := 2) (q0 := 0) rfl rfl, fun U hU hW => ⟨rfl, by rw [hU]; exact hPc, va_K.moved hW.alike hK⟩⟩ rfl rfl hl.1 rfl (lv_room (Nat.le_of_ble_eq_true rfl)) dX11_free_27 ⟨Nat.le_of_ble_eq_true rfl, Nat.le_of_ble_eq_true rfl⟩)) (fun rz919 gz918 => ?_)
          clear hPc
          refine lv_istore (lv' := [(4, .int rz919), (3, .ref (sY 7 2)), (0, .ref (qX 0)), (1, .int p1), (2, .int p2)]) hx hb dX11_free_30 hl (by decide) rfl (fun ls hl => ?_)
          refine lv_bipush (v := 99) hx hb dX11_free_32 (by decide) ?_
          refine lv_istore (lv' := [(5, .int 99), (4, .int rz919), (3, .ref (sY 7 2)), (0, .ref (qX 0)), (1, .int p1), (2, .int p2)]) hx hb dX11_free_34 hl (by decide) rfl (fun ls hl => ?_)
          have lp36_kz943 : ∀ (n9_36 : Nat) (H : Heap) (locs : List Loc) (ls : Array Slot) (az940 : Nat → Nat → Int32) (nz941 : Nat → Int32) (xz942 : Int32), (xz942.toInt + 2147483648).toNat < n9_36 → Rg 0 8 nz941 → xz942.toInt ≤ 99 → va_P (dC, dI) vwCl (List.flatten [(wMem qM k nz941 az940)] ++ List.flatten [(wSag qX k tapeX (qV 0) actsX nowX trialX (qY 0) attemptX orderSearchX routeSearchX setSearchX (qM 0) slot0X slot1X slot2X slot3X image0X image1X image2X aX), (wValley qV k vV bV cV wV aV eV), (wStoO qY k (qV 0) planY (sY 0 0) (sY 1 0) (sY 2 0) (sY 3 0) (sY 4 0) (sY 5 0) (sY 6 0) (sY 7 0)), (wState (sY 0) k (vY 0) (nY 0) (aY 0)), (wState (sY 1) k (vY 1) (nY 1) (aY 1)), (wState (sY 2) k (vY 2) (nY 2) (aY 2)), (wState (sY 3) k (vY 3) (nY 3) (aY 3)), (wState (sY 4) k (vY 4) (nY 4) (aY 4)), (wState (sY 5) k (vY 5) (nY 5) (aY 5)), (wState (sY 6) k (vY 6) (nY 6) (aY 6)), (wState (sY 7) k (vY 7) (nY 7) (aY 7))]) H → va_D A (List.flatten [(wMem qM k nz941 az940)] ++ List.flatten [(wSag qX k tapeX (qV 0) actsX nowX trialX (qY 0) attemptX orderSearchX routeSearchX setSearchX (qM 0) slot0X slot1X slot2X slot3X image0X image1X image2X aX), (wValley qV k vV bV cV wV aV eV), (wStoO qY k (qV 0) planY (sY 0 0) (sY 1 0) (sY 2 0) (sY 3 0) (sY 4 0) (sY 5 0) (sY 6 0) (sY 7 0)), (wState (sY 0) k (vY 0) (nY 0) (aY 0)), (wState (sY 1) k (vY 1) (nY 1) (aY 1)), (wState (sY 2) k (vY 2) (nY 2) (aY 2)), (wState (sY 3) k (vY 3) (nY 3) (aY 3)), (wState (sY 4) k (vY 4) (nY 4) (aY 4)), (wState (sY 5) k (vY 5) (nY 5) (aY 5)), (wState (sY 6) k (vY 6) (nY 6) (aY 6)), (wState (sY 7) k (vY 7) (nY 7) (aY 7))]) → va_S A s.heap H locs → lv_has ls 6 [(0, .ref (qX 0)), (3, .ref (sY 7 2)), (4, .int rz919), (5, .int xz942)] → W p l e (headSpec wk_c_X11_free ({ frames := 2, cells := 0, slots := 0, locals := 49 })).room s m ([.ref (qX 0), .int p1, .int p2] : List Value).toArray below meth c H locs 0 0 Q (F0 m 36 ls []) := by
            intro n9_36
            induction n9_36 with
            | zero => intro H locs ls az940 nz941 xz942 hm; exact absurd hm (Nat.not_lt_zero _)
            | succ n9_36 ih36 =>
              intro H locs ls az940 nz941 xz942 hm36 hnz941 jz944 hP hD hS hl
              refine lv_iload hx hb dX11_free_36 (lv_at hl 3 rfl) ?_
              refine lv_if_le (tgt := 62) hx hb dX11_free_38 (by decide) (fun cz945 => ?_) (fun cz945 => ?_)
              · skip
                have bz946 := fb_rng xz942
                have zz947 : xz942.toInt ≤ (0 : Int) := zi_le.mp cz945
                refine lv_iconst (v := 0) hx hb dX11_free_62 (by decide) ?_
                rw [hQ]
                exact W.iret (v := (0 : Int32)) hx hb hr (fun t ht hW => ⟨⟨(0 : Int32), (), rfl, trivial, nz941, az940, hnz941, by rw [ht]; exact hP⟩, hS.F ht⟩) hS.2.2 dX11_free_63
              · skip
                have bz948 := fb_rng xz942
                have zz949 : ¬ xz942.toInt ≤ (0 : Int) := fun h9 => cz945 (zi_le.mpr h9)
                refine lv_aload_n hx hb dX11_free_41 rfl (lv_at hl 0 rfl) ?_
                refine lv_aload_n hx hb dX11_free_42 rfl (lv_at hl 1 rfl) ?_
                refine lv_iload hx hb dX11_free_43 (lv_at hl 3 rfl) ?_
                have hPc := hP.sub (ws' := (List.flatten [(wMem qM k nz941 az940)] ++ List.flatten [(wSag qX k tapeX (qV 0) actsX nowX trialX (qY 0) attemptX orderSearchX routeSearchX setSearchX (qM 0) slot0X slot1X slot2X slot3X image0X image1X image2X aX), (wValley qV k vV bV cV wV aV eV), (wMem (fun i => sY 7 (i + 2)) k (nY 7) (aY 7))])) [0, 1, 2, 3, 4, 5, 6, 7, 8, 9, 10, 11, 12, 13, 14, 15, 97, 98, 99] rfl
                have hC : [0, 1, 2, 3, 4, 5, 6, 7, 8, 9, 10, 11, 12, 13, 14, 15, 97, 98, 99].map (fun i => (List.flatten [(wMem qM k nz941 az940)] ++ List.flatten [(wSag qX k tapeX (qV 0) actsX nowX trialX (qY 0) attemptX orderSearchX routeSearchX setSearchX (qM 0) slot0X slot1X slot2X slot3X image0X image1X image2X aX), (wValley qV k vV bV cV wV aV eV), (wStoO qY k (qV 0) planY (sY 0 0) (sY 1 0) (sY 2 0) (sY 3 0) (sY 4 0) (sY 5 0) (sY 6 0) (sY 7 0)), (wState (sY 0) k (vY 0) (nY 0) (aY 0)), (wState (sY 1) k (vY 1) (nY 1) (aY 1)), (wState (sY 2) k (vY 2) (nY 2) (aY 2)), (wState (sY 3) k (vY 3) (nY 3) (aY 3)), (wState (sY 4) k (vY 4) (nY 4) (aY 4)), (wState (sY 5) k (vY 5) (nY 5) (aY 5)), (wState (sY 6) k (vY 6) (nY 6) (aY 6)), (wState (sY 7) k (vY 7) (nY 7) (aY 7))])[i]?) = (List.flatten [(wMem qM k nz941 az940)] ++ List.flatten [(wSag qX k tapeX (qV 0) actsX nowX trialX (qY 0) attemptX orderSearchX routeSearchX setSearchX (qM 0) slot0X slot1X slot2X slot3X image0X image1X image2X aX), (wValley qV k vV bV cV wV aV eV), (wMem (fun i => sY 7 (i + 2)) k (nY 7) (aY 7))]).map some := rfl
                have hDc := hD.sub [0, 1, 2, 3, 4, 5, 6, 7, 8, 9, 10, 11, 12, 13, 14, 15, 97, 98, 99] (by decide) hC
                have hFc := va_free hD hS hA [0, 1, 2, 3, 4, 5, 6, 7, 8, 9, 10, 11, 12, 13, 14, 15, 97, 98, 99] hC
                refine va_calli (va_runV (As := [.ref (sY 7 2), .int xz942]) (rest := []) ⟨hx, hb, hml, hown, hts⟩ (c_X11_depthWith l dC dI k H.size qX tapeX actsX nowX trialX (qY 0) attemptX orderSearchX routeSearchX setSearchX slot0X slot1X slot2X slot3X image0X image1X image2X aX qV vV bV cV wV aV eV qM nz941 az940 (fun i => sY 7 (i + 2)) (nY 7) (aY 7) xz942 hbV hcV hwV heV hnz941 (hnY 7) (by show 0 ≤ xz942.toInt ∧ xz942.toInt ≤ 99; omega)) (cwV 2 hts (gk_V (wl_mem 14 rfl) (wl_mem 15 rfl) (wl_mem 16 rfl) (wl_mem 3 rfl) (fun w h => List.mem_cons_of_mem _ (List.mem_append_right _ (List.mem_append_right _ (List.mem_append_right _ (List.mem_append_right _ (List.mem_append_right _ (List.mem_append_right _ (List.mem_append_left _ h)))))))) wkg_c_X11_depthWith) rfl rfl rfl (by decide +kernel) ⟨Nat.le_of_ble_eq_true rfl, Nat.le_of_ble_eq_true rfl⟩) ⟨fun a U g mk q => by obtain ⟨q0, q1, qP, qK, qD⟩ := q; exact ⟨q0, q1, qP, va_K.moved (u := U) (U := U.calling g mk a) (Vm.Alike.refl U.vm) qK, qD⟩, va_recv hK hPc (ci := 11) (q0 := 3) rfl rfl, fun U hU hW => ⟨rfl, by rw [hU], by rw [hU]; exact hPc, va_K.moved hW.alike hK, hDc.weaken (fun _ _ _ _ => trivial)⟩⟩ rfl rfl hl.1 rfl (lv_room (Nat.le_of_ble_eq_true rfl)) dX11_free_45 ⟨Nat.le_of_ble_eq_true rfl, Nat.le_of_ble_eq_true rfl⟩) hS (fun q _ h => hFc q h) hFc (fun rz951 u t H1 locs ht hvm gz950 hB hz1 hk1 hS => ?_)
                obtain ⟨nz952, az953, hnz952, hP1⟩ := hB
                rw [ht] at hP1
                obtain ⟨hP, hD⟩ := w_callR hP hD hk1 hP1 [0] rfl rfl (wk_mem [3, 4, 5, 6, 7, 8, 9, 10, 11, 12, 13, 14, 15, 97, 98, 99] rfl) rfl [some 0] rfl rfl
                clear hPc hC hDc hFc hk1 hP1
                generalize H1 = H at hP hS ⊢
                have hP : va_P (dC, dI) vwCl (List.flatten [(wMem qM k nz952 az953)] ++ List.flatten [(wSag qX k tapeX (qV 0) actsX nowX trialX (qY 0) attemptX orderSearchX routeSearchX setSearchX (qM 0) slot0X slot1X slot2X slot3X image0X image1X image2X aX), (wValley qV k vV bV cV wV aV eV), (wStoO qY k (qV 0) planY (sY 0 0) (sY 1 0) (sY 2 0) (sY 3 0) (sY 4 0) (sY 5 0) (sY 6 0) (sY 7 0)), (wState (sY 0) k (vY 0) (nY 0) (aY 0)), (wState (sY 1) k (vY 1) (nY 1) (aY 1)), (wState (sY 2) k (vY 2) (nY 2) (aY 2)), (wState (sY 3) k (vY 3) (nY 3) (aY 3)), (wState (sY 4) k (vY 4) (nY 4) (aY 4)), (wState (sY 5) k (vY 5) (nY 5) (aY 5)), (wState (sY 6) k (vY 6) (nY 6) (aY 6)), (wState (sY 7) k (vY 7) (nY 7) (aY 7))]) H := hP
                have hD : va_D A (List.flatten [(wMem qM k nz952 az953)] ++ List.flatten [(wSag qX k tapeX (qV 0) actsX nowX trialX (qY 0) attemptX orderSearchX routeSearchX setSearchX (qM 0) slot0X slot1X slot2X slot3X image0X image1X image2X aX), (wValley qV k vV bV cV wV aV eV), (wStoO qY k (qV 0) planY (sY 0 0) (sY 1 0) (sY 2 0) (sY 3 0) (sY 4 0) (sY 5 0) (sY 6 0) (sY 7 0)), (wState (sY 0) k (vY 0) (nY 0) (aY 0)), (wState (sY 1) k (vY 1) (nY 1) (aY 1)), (wState (sY 2) k (vY 2) (nY 2) (aY 2)), (wState (sY 3) k (vY 3) (nY 3) (aY 3)), (wState (sY 4) k (vY 4) (nY 4) (aY 4)), (wState (sY 5) k (vY 5) (nY 5) (aY 5)), (wState (sY 6) k (vY 6) (nY 6) (aY 6)), (wState (sY 7) k (vY 7) (nY 7) (aY 7))]) := hD
                refine W.widen (k := 0) (n := 0) (Nat.le_refl 0) (Nat.le_refl 0) ?_
                refine lv_iload hx hb dX11_free_48 (lv_at hl 2 rfl) ?_
                refine lv_icmp_gt (tgt := 56) hx hb dX11_free_50 (by decide) (fun cz954 => ?_) (fun cz954 => ?_)
                · skip
                  have bz955 := fb_rng rz919
                  have bz956 := fb_rng rz951
                  have zz957 : rz919.toInt < rz951.toInt := zi_lt.mp cz954
                  obtain ⟨xz958, exz958⟩ : ∃ y : Int32, y = xz942 + Int32.ofInt (-1) := ⟨_, rfl⟩
                  have fxz958 : xz958.toInt = xz942.toInt + (-1) := by rw [exz958]; exact fb_addI (y := Int32.ofInt (-1)) (by show -2147483648 ≤ xz942.toInt + (-1); omega) (by show xz942.toInt + (-1) < 2147483648; omega)
                  refine lv_iinc (v := xz958) (lv' := [(5, .int xz958), (0, .ref (qX 0)), (3, .ref (sY 7 2)), (4, .int rz919)]) hx hb dX11_free_56 hl (k := 3) rfl exz958.symm (by decide) rfl (fun ls hl => ?_)
                  refine lv_goto (tgt := 36) hx hb dX11_free_59 (by decide) ?_
                  exact ih36 H locs ls az953 nz952 xz958 (by show (xz958.toInt + 2147483648).toNat < n9_36; omega) hnz952 (by show xz958.toInt ≤ 99; omega) hP hD hS (lv_sub hl [1, 2, 3, 0] rfl)
                · skip
                  have bz959 := fb_rng rz919
                  have bz960 := fb_rng rz951
                  have zz961 : ¬ rz919.toInt < rz951.toInt := fun h9 => cz954 (zi_lt.mpr h9)
                  refine lv_iload hx hb dX11_free_53 (lv_at hl 3 rfl) ?_
                  rw [hQ]
                  exact W.iret (v := xz942) hx hb hr (fun t ht hW => ⟨⟨xz942, (), rfl, trivial, nz952, az953, hnz952, by rw [ht]; exact hP⟩, hS.F ht⟩) hS.2.2 dX11_free_55
          exact lp36_kz943 _ s.heap [] ls aM nM (99 : Int32) (Nat.lt_succ_self _) hnM (by show (99 : Int) ≤ 99; omega) hP hD hS (lv_sub hl [3, 2, 1, 0] rfl)
        · skip
          have zz962 : p1.toInt = (1 : Int) := zi_eq.mp cz916
          refine W.eq (g2 := F0 m 24 ls [.int 1, .ref (sY 7 1)]) (by rw [cz916]) ?_
          refine va_aldq hx hb hK hP 96 4 rfl rfl (by unfold vp_in; decide) dX11_free_24 ?_
          refine W.eq (g2 := F0 m 25 ls [.ref (sY 7 5)]) rfl ?_
          refine lv_astore_n (lv' := [(3, .ref (sY 7 5)), (0, .ref (qX 0)), (1, .int p1), (2, .int p2)]) hx hb dX11_free_25 rfl hl (by decide) rfl (fun ls hl => ?_)
          refine lv_aload_n hx hb dX11_free_26 rfl (lv_at hl 0 rfl) ?_
          have hPc := hP.sub (ws' := (List.flatten [(wMem (fun i => sY 7 (i + 5)) k (fun i => (nY 7) (i + 1)) (fun i => (aY 7) (i + 2)))])) [100, 101, 102] rfl
          refine vp_callSi (va_Run.run (va_runV (As := []) (rest := []) ⟨hx, hb, hml, hown, hts⟩ (c_X2_depth l dC dI k (fun i => sY 7 (i + 5)) (fun i => (nY 7) (i + 1)) (fun i => (aY 7) (i + 2)) (fun i => (hnY 7) (i + 1))) (cwV 0 hts (gk_V (wl_mem 10 rfl) (wl_mem 11 rfl) (wl_mem 12 rfl) (wl_mem 13 rfl) (fun w h => List.mem_cons_of_mem _ (List.mem_append_right _ (List.mem_append_right _ (List.mem_append_right _ (List.mem_append_right _ (List.mem_append_right _ (List.mem_append_left _ h))))))) wkg_c_X2_depth) rfl rfl rfl (by decide +kernel) ⟨Nat.le_of_ble_eq_true rfl, Nat.le_of_ble_eq_true rfl⟩) ⟨fun a U g mk q => by obtain ⟨q0, qP, qK⟩ := q; exact ⟨q0, qP, va_K.moved (u := U) (U := U.calling g mk a) (Vm.Alike.refl U.vm) qK⟩, va_recv hK hPc (ci := 2) (q0 := 0) rfl rfl, fun U hU hW => ⟨rfl, by rw [hU]; exact hPc, va_K.moved hW.alike hK⟩⟩ rfl rfl hl.1 rfl (lv_room (Nat.le_of_ble_eq_true rfl)) dX11_free_27 ⟨Nat.le_of_ble_eq_true rfl, Nat.le_of_ble_eq_true rfl⟩)) (fun rz964 gz963 => ?_)
          clear hPc
          refine lv_istore (lv' := [(4, .int rz964), (3, .ref (sY 7 5)), (0, .ref (qX 0)), (1, .int p1), (2, .int p2)]) hx hb dX11_free_30 hl (by decide) rfl (fun ls hl => ?_)
          refine lv_bipush (v := 99) hx hb dX11_free_32 (by decide) ?_
          refine lv_istore (lv' := [(5, .int 99), (4, .int rz964), (3, .ref (sY 7 5)), (0, .ref (qX 0)), (1, .int p1), (2, .int p2)]) hx hb dX11_free_34 hl (by decide) rfl (fun ls hl => ?_)
          have lp36_kz988 : ∀ (n9_36 : Nat) (H : Heap) (locs : List Loc) (ls : Array Slot) (az985 : Nat → Nat → Int32) (nz986 : Nat → Int32) (xz987 : Int32), (xz987.toInt + 2147483648).toNat < n9_36 → Rg 0 8 nz986 → xz987.toInt ≤ 99 → va_P (dC, dI) vwCl (List.flatten [(wMem qM k nz986 az985)] ++ List.flatten [(wSag qX k tapeX (qV 0) actsX nowX trialX (qY 0) attemptX orderSearchX routeSearchX setSearchX (qM 0) slot0X slot1X slot2X slot3X image0X image1X image2X aX), (wValley qV k vV bV cV wV aV eV), (wStoO qY k (qV 0) planY (sY 0 0) (sY 1 0) (sY 2 0) (sY 3 0) (sY 4 0) (sY 5 0) (sY 6 0) (sY 7 0)), (wState (sY 0) k (vY 0) (nY 0) (aY 0)), (wState (sY 1) k (vY 1) (nY 1) (aY 1)), (wState (sY 2) k (vY 2) (nY 2) (aY 2)), (wState (sY 3) k (vY 3) (nY 3) (aY 3)), (wState (sY 4) k (vY 4) (nY 4) (aY 4)), (wState (sY 5) k (vY 5) (nY 5) (aY 5)), (wState (sY 6) k (vY 6) (nY 6) (aY 6)), (wState (sY 7) k (vY 7) (nY 7) (aY 7))]) H → va_D A (List.flatten [(wMem qM k nz986 az985)] ++ List.flatten [(wSag qX k tapeX (qV 0) actsX nowX trialX (qY 0) attemptX orderSearchX routeSearchX setSearchX (qM 0) slot0X slot1X slot2X slot3X image0X image1X image2X aX), (wValley qV k vV bV cV wV aV eV), (wStoO qY k (qV 0) planY (sY 0 0) (sY 1 0) (sY 2 0) (sY 3 0) (sY 4 0) (sY 5 0) (sY 6 0) (sY 7 0)), (wState (sY 0) k (vY 0) (nY 0) (aY 0)), (wState (sY 1) k (vY 1) (nY 1) (aY 1)), (wState (sY 2) k (vY 2) (nY 2) (aY 2)), (wState (sY 3) k (vY 3) (nY 3) (aY 3)), (wState (sY 4) k (vY 4) (nY 4) (aY 4)), (wState (sY 5) k (vY 5) (nY 5) (aY 5)), (wState (sY 6) k (vY 6) (nY 6) (aY 6)), (wState (sY 7) k (vY 7) (nY 7) (aY 7))]) → va_S A s.heap H locs → lv_has ls 6 [(0, .ref (qX 0)), (3, .ref (sY 7 5)), (4, .int rz964), (5, .int xz987)] → W p l e (headSpec wk_c_X11_free ({ frames := 2, cells := 0, slots := 0, locals := 49 })).room s m ([.ref (qX 0), .int p1, .int p2] : List Value).toArray below meth c H locs 0 0 Q (F0 m 36 ls []) := by
            intro n9_36
            induction n9_36 with
            | zero => intro H locs ls az985 nz986 xz987 hm; exact absurd hm (Nat.not_lt_zero _)
            | succ n9_36 ih36 =>
              intro H locs ls az985 nz986 xz987 hm36 hnz986 jz989 hP hD hS hl
              refine lv_iload hx hb dX11_free_36 (lv_at hl 3 rfl) ?_
              refine lv_if_le (tgt := 62) hx hb dX11_free_38 (by decide) (fun cz990 => ?_) (fun cz990 => ?_)
              · skip
                have bz991 := fb_rng xz987
                have zz992 : xz987.toInt ≤ (0 : Int) := zi_le.mp cz990
                refine lv_iconst (v := 0) hx hb dX11_free_62 (by decide) ?_
                rw [hQ]
                exact W.iret (v := (0 : Int32)) hx hb hr (fun t ht hW => ⟨⟨(0 : Int32), (), rfl, trivial, nz986, az985, hnz986, by rw [ht]; exact hP⟩, hS.F ht⟩) hS.2.2 dX11_free_63
              · skip
                have bz993 := fb_rng xz987
                have zz994 : ¬ xz987.toInt ≤ (0 : Int) := fun h9 => cz990 (zi_le.mpr h9)
                refine lv_aload_n hx hb dX11_free_41 rfl (lv_at hl 0 rfl) ?_
                refine lv_aload_n hx hb dX11_free_42 rfl (lv_at hl 1 rfl) ?_
                refine lv_iload hx hb dX11_free_43 (lv_at hl 3 rfl) ?_
                have hPc := hP.sub (ws' := (List.flatten [(wMem qM k nz986 az985)] ++ List.flatten [(wSag qX k tapeX (qV 0) actsX nowX trialX (qY 0) attemptX orderSearchX routeSearchX setSearchX (qM 0) slot0X slot1X slot2X slot3X image0X image1X image2X aX), (wValley qV k vV bV cV wV aV eV), (wMem (fun i => sY 7 (i + 5)) k (fun i => (nY 7) (i + 1)) (fun i => (aY 7) (i + 2)))])) [0, 1, 2, 3, 4, 5, 6, 7, 8, 9, 10, 11, 12, 13, 14, 15, 100, 101, 102] rfl
                have hC : [0, 1, 2, 3, 4, 5, 6, 7, 8, 9, 10, 11, 12, 13, 14, 15, 100, 101, 102].map (fun i => (List.flatten [(wMem qM k nz986 az985)] ++ List.flatten [(wSag qX k tapeX (qV 0) actsX nowX trialX (qY 0) attemptX orderSearchX routeSearchX setSearchX (qM 0) slot0X slot1X slot2X slot3X image0X image1X image2X aX), (wValley qV k vV bV cV wV aV eV), (wStoO qY k (qV 0) planY (sY 0 0) (sY 1 0) (sY 2 0) (sY 3 0) (sY 4 0) (sY 5 0) (sY 6 0) (sY 7 0)), (wState (sY 0) k (vY 0) (nY 0) (aY 0)), (wState (sY 1) k (vY 1) (nY 1) (aY 1)), (wState (sY 2) k (vY 2) (nY 2) (aY 2)), (wState (sY 3) k (vY 3) (nY 3) (aY 3)), (wState (sY 4) k (vY 4) (nY 4) (aY 4)), (wState (sY 5) k (vY 5) (nY 5) (aY 5)), (wState (sY 6) k (vY 6) (nY 6) (aY 6)), (wState (sY 7) k (vY 7) (nY 7) (aY 7))])[i]?) = (List.flatten [(wMem qM k nz986 az985)] ++ List.flatten [(wSag qX k tapeX (qV 0) actsX nowX trialX (qY 0) attemptX orderSearchX routeSearchX setSearchX (qM 0) slot0X slot1X slot2X slot3X image0X image1X image2X aX), (wValley qV k vV bV cV wV aV eV), (wMem (fun i => sY 7 (i + 5)) k (fun i => (nY 7) (i + 1)) (fun i => (aY 7) (i + 2)))]).map some := rfl
                have hDc := hD.sub [0, 1, 2, 3, 4, 5, 6, 7, 8, 9, 10, 11, 12, 13, 14, 15, 100, 101, 102] (by decide) hC
                have hFc := va_free hD hS hA [0, 1, 2, 3, 4, 5, 6, 7, 8, 9, 10, 11, 12, 13, 14, 15, 100, 101, 102] hC
                refine va_calli (va_runV (As := [.ref (sY 7 5), .int xz987]) (rest := []) ⟨hx, hb, hml, hown, hts⟩ (c_X11_depthWith l dC dI k H.size qX tapeX actsX nowX trialX (qY 0) attemptX orderSearchX routeSearchX setSearchX slot0X slot1X slot2X slot3X image0X image1X image2X aX qV vV bV cV wV aV eV qM nz986 az985 (fun i => sY 7 (i + 5)) (fun i => (nY 7) (i + 1)) (fun i => (aY 7) (i + 2)) xz987 hbV hcV hwV heV hnz986 (fun i => (hnY 7) (i + 1)) (by show 0 ≤ xz987.toInt ∧ xz987.toInt ≤ 99; omega)) (cwV 2 hts (gk_V (wl_mem 14 rfl) (wl_mem 15 rfl) (wl_mem 16 rfl) (wl_mem 3 rfl) (fun w h => List.mem_cons_of_mem _ (List.mem_append_right _ (List.mem_append_right _ (List.mem_append_right _ (List.mem_append_right _ (List.mem_append_right _ (List.mem_append_right _ (List.mem_append_left _ h)))))))) wkg_c_X11_depthWith) rfl rfl rfl (by decide +kernel) ⟨Nat.le_of_ble_eq_true rfl, Nat.le_of_ble_eq_true rfl⟩) ⟨fun a U g mk q => by obtain ⟨q0, q1, qP, qK, qD⟩ := q; exact ⟨q0, q1, qP, va_K.moved (u := U) (U := U.calling g mk a) (Vm.Alike.refl U.vm) qK, qD⟩, va_recv hK hPc (ci := 11) (q0 := 3) rfl rfl, fun U hU hW => ⟨rfl, by rw [hU], by rw [hU]; exact hPc, va_K.moved hW.alike hK, hDc.weaken (fun _ _ _ _ => trivial)⟩⟩ rfl rfl hl.1 rfl (lv_room (Nat.le_of_ble_eq_true rfl)) dX11_free_45 ⟨Nat.le_of_ble_eq_true rfl, Nat.le_of_ble_eq_true rfl⟩) hS (fun q _ h => hFc q h) hFc (fun rz996 u t H1 locs ht hvm gz995 hB hz1 hk1 hS => ?_)
                obtain ⟨nz997, az998, hnz997, hP1⟩ := hB
                rw [ht] at hP1
                obtain ⟨hP, hD⟩ := w_callR hP hD hk1 hP1 [0] rfl rfl (wk_mem [3, 4, 5, 6, 7, 8, 9, 10, 11, 12, 13, 14, 15, 100, 101, 102] rfl) rfl [some 0] rfl rfl
                clear hPc hC hDc hFc hk1 hP1
                generalize H1 = H at hP hS ⊢
                have hP : va_P (dC, dI) vwCl (List.flatten [(wMem qM k nz997 az998)] ++ List.flatten [(wSag qX k tapeX (qV 0) actsX nowX trialX (qY 0) attemptX orderSearchX routeSearchX setSearchX (qM 0) slot0X slot1X slot2X slot3X image0X image1X image2X aX), (wValley qV k vV bV cV wV aV eV), (wStoO qY k (qV 0) planY (sY 0 0) (sY 1 0) (sY 2 0) (sY 3 0) (sY 4 0) (sY 5 0) (sY 6 0) (sY 7 0)), (wState (sY 0) k (vY 0) (nY 0) (aY 0)), (wState (sY 1) k (vY 1) (nY 1) (aY 1)), (wState (sY 2) k (vY 2) (nY 2) (aY 2)), (wState (sY 3) k (vY 3) (nY 3) (aY 3)), (wState (sY 4) k (vY 4) (nY 4) (aY 4)), (wState (sY 5) k (vY 5) (nY 5) (aY 5)), (wState (sY 6) k (vY 6) (nY 6) (aY 6)), (wState (sY 7) k (vY 7) (nY 7) (aY 7))]) H := hP
                have hD : va_D A (List.flatten [(wMem qM k nz997 az998)] ++ List.flatten [(wSag qX k tapeX (qV 0) actsX nowX trialX (qY 0) attemptX orderSearchX routeSearchX setSearchX (qM 0) slot0X slot1X slot2X slot3X image0X image1X image2X aX), (wValley qV k vV bV cV wV aV eV), (wStoO qY k (qV 0) planY (sY 0 0) (sY 1 0) (sY 2 0) (sY 3 0) (sY 4 0) (sY 5 0) (sY 6 0) (sY 7 0)), (wState (sY 0) k (vY 0) (nY 0) (aY 0)), (wState (sY 1) k (vY 1) (nY 1) (aY 1)), (wState (sY 2) k (vY 2) (nY 2) (aY 2)), (wState (sY 3) k (vY 3) (nY 3) (aY 3)), (wState (sY 4) k (vY 4) (nY 4) (aY 4)), (wState (sY 5) k (vY 5) (nY 5) (aY 5)), (wState (sY 6) k (vY 6) (nY 6) (aY 6)), (wState (sY 7) k (vY 7) (nY 7) (aY 7))]) := hD
                refine W.widen (k := 0) (n := 0) (Nat.le_refl 0) (Nat.le_refl 0) ?_
                refine lv_iload hx hb dX11_free_48 (lv_at hl 2 rfl) ?_
                refine lv_icmp_gt (tgt := 56) hx hb dX11_free_50 (by decide) (fun cz999 => ?_) (fun cz999 => ?_)
                · skip
                  have bz1000 := fb_rng rz964
                  have bz1001 := fb_rng rz996
                  have zz1002 : rz964.toInt < rz996.toInt := zi_lt.mp cz999
                  obtain ⟨xz1003, exz1003⟩ : ∃ y : Int32, y = xz987 + Int32.ofInt (-1) := ⟨_, rfl⟩
                  have fxz1003 : xz1003.toInt = xz987.toInt + (-1) := by rw [exz1003]; exact fb_addI (y := Int32.ofInt (-1)) (by show -2147483648 ≤ xz987.toInt + (-1); omega) (by show xz987.toInt + (-1) < 2147483648; omega)
                  refine lv_iinc (v := xz1003) (lv' := [(5, .int xz1003), (0, .ref (qX 0)), (3, .ref (sY 7 5)), (4, .int rz964)]) hx hb dX11_free_56 hl (k := 3) rfl exz1003.symm (by decide) rfl (fun ls hl => ?_)
                  refine lv_goto (tgt := 36) hx hb dX11_free_59 (by decide) ?_
                  exact ih36 H locs ls az998 nz997 xz1003 (by show (xz1003.toInt + 2147483648).toNat < n9_36; omega) hnz997 (by show xz1003.toInt ≤ 99; omega) hP hD hS (lv_sub hl [1, 2, 3, 0] rfl)
                · skip
                  have bz1004 := fb_rng rz964
                  have bz1005 := fb_rng rz996
                  have zz1006 : ¬ rz964.toInt < rz996.toInt := fun h9 => cz999 (zi_lt.mpr h9)
                  refine lv_iload hx hb dX11_free_53 (lv_at hl 3 rfl) ?_
                  rw [hQ]
                  exact W.iret (v := xz987) hx hb hr (fun t ht hW => ⟨⟨xz987, (), rfl, trivial, nz997, az998, hnz997, by rw [ht]; exact hP⟩, hS.F ht⟩) hS.2.2 dX11_free_55
          exact lp36_kz988 _ s.heap [] ls aM nM (99 : Int32) (Nat.lt_succ_self _) hnM (by show (99 : Int) ≤ 99; omega) hP hD hS (lv_sub hl [3, 2, 1, 0] rfl)
        · skip
          have zz1007 : p1.toInt = (2 : Int) := zi_eq.mp cz916
          refine W.eq (g2 := F0 m 24 ls [.int 2, .ref (sY 7 1)]) (by rw [cz916]) ?_
          refine va_aldq hx hb hK hP 96 4 rfl rfl (by unfold vp_in; decide) dX11_free_24 ?_
          refine W.eq (g2 := F0 m 25 ls [.ref (sY 7 8)]) rfl ?_
          refine lv_astore_n (lv' := [(3, .ref (sY 7 8)), (0, .ref (qX 0)), (1, .int p1), (2, .int p2)]) hx hb dX11_free_25 rfl hl (by decide) rfl (fun ls hl => ?_)
          refine lv_aload_n hx hb dX11_free_26 rfl (lv_at hl 0 rfl) ?_
          have hPc := hP.sub (ws' := (List.flatten [(wMem (fun i => sY 7 (i + 8)) k (fun i => (nY 7) (i + 2)) (fun i => (aY 7) (i + 4)))])) [103, 104, 105] rfl
          refine vp_callSi (va_Run.run (va_runV (As := []) (rest := []) ⟨hx, hb, hml, hown, hts⟩ (c_X2_depth l dC dI k (fun i => sY 7 (i + 8)) (fun i => (nY 7) (i + 2)) (fun i => (aY 7) (i + 4)) (fun i => (hnY 7) (i + 2))) (cwV 0 hts (gk_V (wl_mem 10 rfl) (wl_mem 11 rfl) (wl_mem 12 rfl) (wl_mem 13 rfl) (fun w h => List.mem_cons_of_mem _ (List.mem_append_right _ (List.mem_append_right _ (List.mem_append_right _ (List.mem_append_right _ (List.mem_append_right _ (List.mem_append_left _ h))))))) wkg_c_X2_depth) rfl rfl rfl (by decide +kernel) ⟨Nat.le_of_ble_eq_true rfl, Nat.le_of_ble_eq_true rfl⟩) ⟨fun a U g mk q => by obtain ⟨q0, qP, qK⟩ := q; exact ⟨q0, qP, va_K.moved (u := U) (U := U.calling g mk a) (Vm.Alike.refl U.vm) qK⟩, va_recv hK hPc (ci := 2) (q0 := 0) rfl rfl, fun U hU hW => ⟨rfl, by rw [hU]; exact hPc, va_K.moved hW.alike hK⟩⟩ rfl rfl hl.1 rfl (lv_room (Nat.le_of_ble_eq_true rfl)) dX11_free_27 ⟨Nat.le_of_ble_eq_true rfl, Nat.le_of_ble_eq_true rfl⟩)) (fun rz1009 gz1008 => ?_)
          clear hPc
          refine lv_istore (lv' := [(4, .int rz1009), (3, .ref (sY 7 8)), (0, .ref (qX 0)), (1, .int p1), (2, .int p2)]) hx hb dX11_free_30 hl (by decide) rfl (fun ls hl => ?_)
          refine lv_bipush (v := 99) hx hb dX11_free_32 (by decide) ?_
          refine lv_istore (lv' := [(5, .int 99), (4, .int rz1009), (3, .ref (sY 7 8)), (0, .ref (qX 0)), (1, .int p1), (2, .int p2)]) hx hb dX11_free_34 hl (by decide) rfl (fun ls hl => ?_)
          have lp36_kz1033 : ∀ (n9_36 : Nat) (H : Heap) (locs : List Loc) (ls : Array Slot) (az1030 : Nat → Nat → Int32) (nz1031 : Nat → Int32) (xz1032 : Int32), (xz1032.toInt + 2147483648).toNat < n9_36 → Rg 0 8 nz1031 → xz1032.toInt ≤ 99 → va_P (dC, dI) vwCl (List.flatten [(wMem qM k nz1031 az1030)] ++ List.flatten [(wSag qX k tapeX (qV 0) actsX nowX trialX (qY 0) attemptX orderSearchX routeSearchX setSearchX (qM 0) slot0X slot1X slot2X slot3X image0X image1X image2X aX), (wValley qV k vV bV cV wV aV eV), (wStoO qY k (qV 0) planY (sY 0 0) (sY 1 0) (sY 2 0) (sY 3 0) (sY 4 0) (sY 5 0) (sY 6 0) (sY 7 0)), (wState (sY 0) k (vY 0) (nY 0) (aY 0)), (wState (sY 1) k (vY 1) (nY 1) (aY 1)), (wState (sY 2) k (vY 2) (nY 2) (aY 2)), (wState (sY 3) k (vY 3) (nY 3) (aY 3)), (wState (sY 4) k (vY 4) (nY 4) (aY 4)), (wState (sY 5) k (vY 5) (nY 5) (aY 5)), (wState (sY 6) k (vY 6) (nY 6) (aY 6)), (wState (sY 7) k (vY 7) (nY 7) (aY 7))]) H → va_D A (List.flatten [(wMem qM k nz1031 az1030)] ++ List.flatten [(wSag qX k tapeX (qV 0) actsX nowX trialX (qY 0) attemptX orderSearchX routeSearchX setSearchX (qM 0) slot0X slot1X slot2X slot3X image0X image1X image2X aX), (wValley qV k vV bV cV wV aV eV), (wStoO qY k (qV 0) planY (sY 0 0) (sY 1 0) (sY 2 0) (sY 3 0) (sY 4 0) (sY 5 0) (sY 6 0) (sY 7 0)), (wState (sY 0) k (vY 0) (nY 0) (aY 0)), (wState (sY 1) k (vY 1) (nY 1) (aY 1)), (wState (sY 2) k (vY 2) (nY 2) (aY 2)), (wState (sY 3) k (vY 3) (nY 3) (aY 3)), (wState (sY 4) k (vY 4) (nY 4) (aY 4)), (wState (sY 5) k (vY 5) (nY 5) (aY 5)), (wState (sY 6) k (vY 6) (nY 6) (aY 6)), (wState (sY 7) k (vY 7) (nY 7) (aY 7))]) → va_S A s.heap H locs → lv_has ls 6 [(0, .ref (qX 0)), (3, .ref (sY 7 8)), (4, .int rz1009), (5, .int xz1032)] → W p l e (headSpec wk_c_X11_free ({ frames := 2, cells := 0, slots := 0, locals := 49 })).room s m ([.ref (qX 0), .int p1, .int p2] : List Value).toArray below meth c H locs 0 0 Q (F0 m 36 ls []) := by
            intro n9_36
            induction n9_36 with
            | zero => intro H locs ls az1030 nz1031 xz1032 hm; exact absurd hm (Nat.not_lt_zero _)
            | succ n9_36 ih36 =>
              intro H locs ls az1030 nz1031 xz1032 hm36 hnz1031 jz1034 hP hD hS hl
              refine lv_iload hx hb dX11_free_36 (lv_at hl 3 rfl) ?_
              refine lv_if_le (tgt := 62) hx hb dX11_free_38 (by decide) (fun cz1035 => ?_) (fun cz1035 => ?_)
              · skip
                have bz1036 := fb_rng xz1032
                have zz1037 : xz1032.toInt ≤ (0 : Int) := zi_le.mp cz1035
                refine lv_iconst (v := 0) hx hb dX11_free_62 (by decide) ?_
                rw [hQ]
                exact W.iret (v := (0 : Int32)) hx hb hr (fun t ht hW => ⟨⟨(0 : Int32), (), rfl, trivial, nz1031, az1030, hnz1031, by rw [ht]; exact hP⟩, hS.F ht⟩) hS.2.2 dX11_free_63
              · skip
                have bz1038 := fb_rng xz1032
                have zz1039 : ¬ xz1032.toInt ≤ (0 : Int) := fun h9 => cz1035 (zi_le.mpr h9)
                refine lv_aload_n hx hb dX11_free_41 rfl (lv_at hl 0 rfl) ?_
                refine lv_aload_n hx hb dX11_free_42 rfl (lv_at hl 1 rfl) ?_
                refine lv_iload hx hb dX11_free_43 (lv_at hl 3 rfl) ?_
                have hPc := hP.sub (ws' := (List.flatten [(wMem qM k nz1031 az1030)] ++ List.flatten [(wSag qX k tapeX (qV 0) actsX nowX trialX (qY 0) attemptX orderSearchX routeSearchX setSearchX (qM 0) slot0X slot1X slot2X slot3X image0X image1X image2X aX), (wValley qV k vV bV cV wV aV eV), (wMem (fun i => sY 7 (i + 8)) k (fun i => (nY 7) (i + 2)) (fun i => (aY 7) (i + 4)))])) [0, 1, 2, 3, 4, 5, 6, 7, 8, 9, 10, 11, 12, 13, 14, 15, 103, 104, 105] rfl
                have hC : [0, 1, 2, 3, 4, 5, 6, 7, 8, 9, 10, 11, 12, 13, 14, 15, 103, 104, 105].map (fun i => (List.flatten [(wMem qM k nz1031 az1030)] ++ List.flatten [(wSag qX k tapeX (qV 0) actsX nowX trialX (qY 0) attemptX orderSearchX routeSearchX setSearchX (qM 0) slot0X slot1X slot2X slot3X image0X image1X image2X aX), (wValley qV k vV bV cV wV aV eV), (wStoO qY k (qV 0) planY (sY 0 0) (sY 1 0) (sY 2 0) (sY 3 0) (sY 4 0) (sY 5 0) (sY 6 0) (sY 7 0)), (wState (sY 0) k (vY 0) (nY 0) (aY 0)), (wState (sY 1) k (vY 1) (nY 1) (aY 1)), (wState (sY 2) k (vY 2) (nY 2) (aY 2)), (wState (sY 3) k (vY 3) (nY 3) (aY 3)), (wState (sY 4) k (vY 4) (nY 4) (aY 4)), (wState (sY 5) k (vY 5) (nY 5) (aY 5)), (wState (sY 6) k (vY 6) (nY 6) (aY 6)), (wState (sY 7) k (vY 7) (nY 7) (aY 7))])[i]?) = (List.flatten [(wMem qM k nz1031 az1030)] ++ List.flatten [(wSag qX k tapeX (qV 0) actsX nowX trialX (qY 0) attemptX orderSearchX routeSearchX setSearchX (qM 0) slot0X slot1X slot2X slot3X image0X image1X image2X aX), (wValley qV k vV bV cV wV aV eV), (wMem (fun i => sY 7 (i + 8)) k (fun i => (nY 7) (i + 2)) (fun i => (aY 7) (i + 4)))]).map some := rfl
                have hDc := hD.sub [0, 1, 2, 3, 4, 5, 6, 7, 8, 9, 10, 11, 12, 13, 14, 15, 103, 104, 105] (by decide) hC
                have hFc := va_free hD hS hA [0, 1, 2, 3, 4, 5, 6, 7, 8, 9, 10, 11, 12, 13, 14, 15, 103, 104, 105] hC
                refine va_calli (va_runV (As := [.ref (sY 7 8), .int xz1032]) (rest := []) ⟨hx, hb, hml, hown, hts⟩ (c_X11_depthWith l dC dI k H.size qX tapeX actsX nowX trialX (qY 0) attemptX orderSearchX routeSearchX setSearchX slot0X slot1X slot2X slot3X image0X image1X image2X aX qV vV bV cV wV aV eV qM nz1031 az1030 (fun i => sY 7 (i + 8)) (fun i => (nY 7) (i + 2)) (fun i => (aY 7) (i + 4)) xz1032 hbV hcV hwV heV hnz1031 (fun i => (hnY 7) (i + 2)) (by show 0 ≤ xz1032.toInt ∧ xz1032.toInt ≤ 99; omega)) (cwV 2 hts (gk_V (wl_mem 14 rfl) (wl_mem 15 rfl) (wl_mem 16 rfl) (wl_mem 3 rfl) (fun w h => List.mem_cons_of_mem _ (List.mem_append_right _ (List.mem_append_right _ (List.mem_append_right _ (List.mem_append_right _ (List.mem_append_right _ (List.mem_append_right _ (List.mem_append_left _ h)))))))) wkg_c_X11_depthWith) rfl rfl rfl (by decide +kernel) ⟨Nat.le_of_ble_eq_true rfl, Nat.le_of_ble_eq_true rfl⟩) ⟨fun a U g mk q => by obtain ⟨q0, q1, qP, qK, qD⟩ := q; exact ⟨q0, q1, qP, va_K.moved (u := U) (U := U.calling g mk a) (Vm.Alike.refl U.vm) qK, qD⟩, va_recv hK hPc (ci := 11) (q0 := 3) rfl rfl, fun U hU hW => ⟨rfl, by rw [hU], by rw [hU]; exact hPc, va_K.moved hW.alike hK, hDc.weaken (fun _ _ _ _ => trivial)⟩⟩ rfl rfl hl.1 rfl (lv_room (Nat.le_of_ble_eq_true rfl)) dX11_free_45 ⟨Nat.le_of_ble_eq_true rfl, Nat.le_of_ble_eq_true rfl⟩) hS (fun q _ h => hFc q h) hFc (fun rz1041 u t H1 locs ht hvm gz1040 hB hz1 hk1 hS => ?_)
                obtain ⟨nz1042, az1043, hnz1042, hP1⟩ := hB
                rw [ht] at hP1
                obtain ⟨hP, hD⟩ := w_callR hP hD hk1 hP1 [0] rfl rfl (wk_mem [3, 4, 5, 6, 7, 8, 9, 10, 11, 12, 13, 14, 15, 103, 104, 105] rfl) rfl [some 0] rfl rfl
                clear hPc hC hDc hFc hk1 hP1
                generalize H1 = H at hP hS ⊢
                have hP : va_P (dC, dI) vwCl (List.flatten [(wMem qM k nz1042 az1043)] ++ List.flatten [(wSag qX k tapeX (qV 0) actsX nowX trialX (qY 0) attemptX orderSearchX routeSearchX setSearchX (qM 0) slot0X slot1X slot2X slot3X image0X image1X image2X aX), (wValley qV k vV bV cV wV aV eV), (wStoO qY k (qV 0) planY (sY 0 0) (sY 1 0) (sY 2 0) (sY 3 0) (sY 4 0) (sY 5 0) (sY 6 0) (sY 7 0)), (wState (sY 0) k (vY 0) (nY 0) (aY 0)), (wState (sY 1) k (vY 1) (nY 1) (aY 1)), (wState (sY 2) k (vY 2) (nY 2) (aY 2)), (wState (sY 3) k (vY 3) (nY 3) (aY 3)), (wState (sY 4) k (vY 4) (nY 4) (aY 4)), (wState (sY 5) k (vY 5) (nY 5) (aY 5)), (wState (sY 6) k (vY 6) (nY 6) (aY 6)), (wState (sY 7) k (vY 7) (nY 7) (aY 7))]) H := hP
                have hD : va_D A (List.flatten [(wMem qM k nz1042 az1043)] ++ List.flatten [(wSag qX k tapeX (qV 0) actsX nowX trialX (qY 0) attemptX orderSearchX routeSearchX setSearchX (qM 0) slot0X slot1X slot2X slot3X image0X image1X image2X aX), (wValley qV k vV bV cV wV aV eV), (wStoO qY k (qV 0) planY (sY 0 0) (sY 1 0) (sY 2 0) (sY 3 0) (sY 4 0) (sY 5 0) (sY 6 0) (sY 7 0)), (wState (sY 0) k (vY 0) (nY 0) (aY 0)), (wState (sY 1) k (vY 1) (nY 1) (aY 1)), (wState (sY 2) k (vY 2) (nY 2) (aY 2)), (wState (sY 3) k (vY 3) (nY 3) (aY 3)), (wState (sY 4) k (vY 4) (nY 4) (aY 4)), (wState (sY 5) k (vY 5) (nY 5) (aY 5)), (wState (sY 6) k (vY 6) (nY 6) (aY 6)), (wState (sY 7) k (vY 7) (nY 7) (aY 7))]) := hD
                refine W.widen (k := 0) (n := 0) (Nat.le_refl 0) (Nat.le_refl 0) ?_
                refine lv_iload hx hb dX11_free_48 (lv_at hl 2 rfl) ?_
                refine lv_icmp_gt (tgt := 56) hx hb dX11_free_50 (by decide) (fun cz1044 => ?_) (fun cz1044 => ?_)
                · skip
                  have bz1045 := fb_rng rz1009
                  have bz1046 := fb_rng rz1041
                  have zz1047 : rz1009.toInt < rz1041.toInt := zi_lt.mp cz1044
                  obtain ⟨xz1048, exz1048⟩ : ∃ y : Int32, y = xz1032 + Int32.ofInt (-1) := ⟨_, rfl⟩
                  have fxz1048 : xz1048.toInt = xz1032.toInt + (-1) := by rw [exz1048]; exact fb_addI (y := Int32.ofInt (-1)) (by show -2147483648 ≤ xz1032.toInt + (-1); omega) (by show xz1032.toInt + (-1) < 2147483648; omega)
                  refine lv_iinc (v := xz1048) (lv' := [(5, .int xz1048), (0, .ref (qX 0)), (3, .ref (sY 7 8)), (4, .int rz1009)]) hx hb dX11_free_56 hl (k := 3) rfl exz1048.symm (by decide) rfl (fun ls hl => ?_)
                  refine lv_goto (tgt := 36) hx hb dX11_free_59 (by decide) ?_
                  exact ih36 H locs ls az1043 nz1042 xz1048 (by show (xz1048.toInt + 2147483648).toNat < n9_36; omega) hnz1042 (by show xz1048.toInt ≤ 99; omega) hP hD hS (lv_sub hl [1, 2, 3, 0] rfl)
                · skip
                  have bz1049 := fb_rng rz1009
                  have bz1050 := fb_rng rz1041
                  have zz1051 : ¬ rz1009.toInt < rz1041.toInt := fun h9 => cz1044 (zi_lt.mpr h9)
                  refine lv_iload hx hb dX11_free_53 (lv_at hl 3 rfl) ?_
                  rw [hQ]
                  exact W.iret (v := xz1032) hx hb hr (fun t ht hW => ⟨⟨xz1032, (), rfl, trivial, nz1042, az1043, hnz1042, by rw [ht]; exact hP⟩, hS.F ht⟩) hS.2.2 dX11_free_55
          exact lp36_kz1033 _ s.heap [] ls aM nM (99 : Int32) (Nat.lt_succ_self _) hnM (by show (99 : Int) ≤ 99; omega) hP hD hS (lv_sub hl [3, 2, 1, 0] rfl)
    · skip
      exact absurd cz49 (by decide)
