def wk_c_X11_sag : List Cond := .code yX11_sag cX11_sag 3 (some .int) :: ([.methodLink RX11 190 yX11_hasBoth, .instanceMethod yX11_hasBoth, .selects RX11 yX11_hasBoth yX11_hasBoth, .initialized RX11, .fieldLink RX11 45 "SagMemory" "story" "LSagMemory$Story;", .methodLink RX11 165 yX8_behind, .instanceMethod yX8_behind, .selects RX8 yX8_behind yX8_behind, .initialized RX8, .fieldLink RX11 194 "SagMemory$State" "memories" "[LSagMemory$Memory;", .methodLink RX11 205 yX2_depth, .instanceMethod yX2_depth, .selects RX2 yX2_depth yX2_depth, .initialized RX2] ++ (wk_c_X11_hasBoth ++ (wsX110 ++ (wk_c_X8_behind ++ (wsX70 ++ (wk_c_X2_depth ++ []))))))
theorem wkg_c_X11_sag : wk_c_X11_sag.all goodWord = true := by decide +kernel
set_option maxHeartbeats 4000000 in
set_option maxRecDepth 100000 in
theorem c_X11_sag (l : Launch) (dC : Nat → ClassId) (dI : Nat → Nat → Nat) (k : Nat → ClassId) (qX : Nat → Nat) (tapeX : Nat) (actsX : Nat) (nowX : Nat) (trialX : Nat) (attemptX : Nat) (orderSearchX : Nat) (routeSearchX : Nat) (setSearchX : Nat) (probeX : Nat) (slot0X : Nat) (slot1X : Nat) (slot2X : Nat) (slot3X : Nat) (image0X : Nat) (image1X : Nat) (image2X : Nat) (aX : Nat → Nat → Int32) (qV : Nat → Nat) (vV : Nat → Int32) (bV : Nat → Int32) (cV : Nat → Int32) (wV : Nat → Int32) (aV : Nat → Nat → Int32) (eV : Nat → Nat → Int32) (qY : Nat → Nat) (sY : Nat → Nat → Nat) (planY : Nat) (vY : Nat → Nat → Int32) (nY : Nat → Nat → Int32) (aY : Nat → Nat → Nat → Int32) (p1 : Int32) (p2 : Int32) (hbV : Rg 0 3 bV) (hcV : Rg 0 7 cV) (hwV : Rg 0 5 wV) (heV : RgA 0 99 eV) (hnY : ∀ t9, Rg 0 8 (nY t9)) : Met l yX11_sag wk_c_X11_sag ({ frames := 2, cells := 0, slots := 0, locals := 43 }) (va_Pc [.ref (qX 0), .int p1, .int p2] (fun U => va_P (dC, dI) vwCl (List.flatten [(wSag qX k tapeX (qV 0) actsX nowX trialX (qY 0) attemptX orderSearchX routeSearchX setSearchX probeX slot0X slot1X slot2X slot3X image0X image1X image2X aX), (wValley qV k vV bV cV wV aV eV), (wStoO qY k (qV 0) planY (sY 0 0) (sY 1 0) (sY 2 0) (sY 3 0) (sY 4 0) (sY 5 0) (sY 6 0) (sY 7 0)), (wState (sY 0) k (vY 0) (nY 0) (aY 0)), (wState (sY 1) k (vY 1) (nY 1) (aY 1)), (wState (sY 2) k (vY 2) (nY 2) (aY 2)), (wState (sY 3) k (vY 3) (nY 3) (aY 3)), (wState (sY 4) k (vY 4) (nY 4) (aY 4)), (wState (sY 5) k (vY 5) (nY 5) (aY 5)), (wState (sY 6) k (vY 6) (nY 6) (aY 6)), (wState (sY 7) k (vY 7) (nY 7) (aY 7))]) U.heap ∧ va_K (dC, dI) vwCl (tK k) U)) (vp_Si (fun r : Int32 => True)) 0 0 (fun _ => False) := by
  refine Met.ofW (cc := cX11_sag) (maxL := 3) (ret := (some .int)) (by decide) rfl ?_
  intro p e s m args below meth c s₁ B hml hv
  obtain ⟨rfl, hP, hK⟩ := hv
  have hx := B.exec
  have hb := B.bytes
  have hr := B.returns
  have hts := atoms_spec (ws := wk_c_X11_sag) B.pre
  have hown : s.vm.findClass RX11 = some m.cls := findClass_of_methodNamed B.named
  have hlocks := B.notSynchronized
  have hP : va_P (dC, dI) vwCl (List.flatten [(wSag qX k tapeX (qV 0) actsX nowX trialX (qY 0) attemptX orderSearchX routeSearchX setSearchX probeX slot0X slot1X slot2X slot3X image0X image1X image2X aX), (wValley qV k vV bV cV wV aV eV), (wStoO qY k (qV 0) planY (sY 0 0) (sY 1 0) (sY 2 0) (sY 3 0) (sY 4 0) (sY 5 0) (sY 6 0) (sY 7 0)), (wState (sY 0) k (vY 0) (nY 0) (aY 0)), (wState (sY 1) k (vY 1) (nY 1) (aY 1)), (wState (sY 2) k (vY 2) (nY 2) (aY 2)), (wState (sY 3) k (vY 3) (nY 3) (aY 3)), (wState (sY 4) k (vY 4) (nY 4) (aY 4)), (wState (sY 5) k (vY 5) (nY 5) (aY 5)), (wState (sY 6) k (vY 6) (nY 6) (aY 6)), (wState (sY 7) k (vY 7) (nY 7) (aY 7))]) s.heap := hP
  have hl := lv_entry ([.ref (qX 0), .int p1, .int p2]) (n := 3) (Nat.le_of_ble_eq_true rfl)
  rw [lg_entry_eq]
  generalize (lg_sl ([.ref (qX 0), .int p1, .int p2]) ++ List.replicate (3 - (lg_sl ([.ref (qX 0), .int p1, .int p2])).length) Slot.unset).toArray = ls at hl ⊢
  have hl : lv_has ls 3 [(0, .ref (qX 0)), (1, .int p1), (2, .int p2)] := hl
  refine w_gen (fun Q hQ => ?_)
  refine lv_aload_n hx hb dX11_sag_0 rfl (lv_at hl 0 rfl) ?_
  refine lv_iload_n hx hb dX11_sag_1 rfl (lv_at hl 1 rfl) ?_
  refine lv_iload_n hx hb dX11_sag_2 rfl (lv_at hl 2 rfl) ?_
  have hPc := hP.sub (ws' := (List.flatten [(wSag qX k tapeX (qV 0) actsX nowX trialX (qY 0) attemptX orderSearchX routeSearchX setSearchX probeX slot0X slot1X slot2X slot3X image0X image1X image2X aX), (wValley qV k vV bV cV wV aV eV)])) [0, 1, 2, 3, 4, 5, 6, 7, 8, 9, 10, 11, 12] rfl
  refine vp_callSi (va_Run.run (va_runV (As := [.int p1, .int p2]) (rest := []) ⟨hx, hb, hml, hown, hts⟩ (c_X11_hasBoth l dC dI k qX tapeX actsX nowX trialX (qY 0) attemptX orderSearchX routeSearchX setSearchX probeX slot0X slot1X slot2X slot3X image0X image1X image2X aX qV vV bV cV wV aV eV p1 p2 hbV hcV hwV heV) (cwV 2 hts (gk_V (wl_mem 0 rfl) (wl_mem 1 rfl) (wl_mem 2 rfl) (wl_mem 3 rfl) (fun w h => List.mem_cons_of_mem _ (List.mem_append_right _ (List.mem_append_left _ h))) wkg_c_X11_hasBoth) rfl rfl rfl (by decide +kernel) ⟨Nat.le_of_ble_eq_true rfl, Nat.le_of_ble_eq_true rfl⟩) ⟨fun a U g mk q => by obtain ⟨q0, qP, qK⟩ := q; exact ⟨q0, qP, va_K.moved (u := U) (U := U.calling g mk a) (Vm.Alike.refl U.vm) qK⟩, va_recv hK hPc (ci := 11) (q0 := 0) rfl rfl, fun U hU hW => ⟨rfl, by rw [hU]; exact hPc, va_K.moved hW.alike hK⟩⟩ rfl rfl hl.1 rfl (lv_room (Nat.le_of_ble_eq_true rfl)) dX11_sag_3 ⟨Nat.le_of_ble_eq_true rfl, Nat.le_of_ble_eq_true rfl⟩)) (fun rz2 gz1 => ?_)
  clear hPc
  rcases gz1 with ⟨er, cz3⟩ | ⟨er, cz4, cz5⟩ | ⟨er, cz6, cz7, cz8⟩ | ⟨er, cz9, cz10, cz11, cz12⟩ | ⟨er, cz13, cz14, cz15, cz16⟩
  · obtain rfl := er.symm
    have bz17 := fb_rng p1
    have zz18 : p1.toInt < (0 : Int) := zi_lt.mp cz3
    refine lv_if_ne (tgt := 12) hx hb dX11_sag_6 (by decide) (fun cz19 => ?_) (fun cz19 => ?_)
    · skip
      exact absurd cz19 (by decide)
    · skip
      refine lv_bipush (v := (-2)) hx hb dX11_sag_9 (by decide) ?_
      rw [hQ]
      exact W.iret (v := (-2 : Int32)) hx hb hr (fun t ht hW => ⟨(-2 : Int32), rfl, trivial, ht⟩) (fun _ h => absurd h List.not_mem_nil) dX11_sag_11
  · obtain rfl := er.symm
    have bz20 := fb_rng p1
    have zz21 : ¬ p1.toInt < (0 : Int) := fun h9 => cz4 (zi_lt.mpr h9)
    have bz22 := hbV 0
    have zz23 : (bV 0).toInt ≤ p1.toInt := zi_le.mp cz5
    refine lv_if_ne (tgt := 12) hx hb dX11_sag_6 (by decide) (fun cz24 => ?_) (fun cz24 => ?_)
    · skip
      exact absurd cz24 (by decide)
    · skip
      refine lv_bipush (v := (-2)) hx hb dX11_sag_9 (by decide) ?_
      rw [hQ]
      exact W.iret (v := (-2 : Int32)) hx hb hr (fun t ht hW => ⟨(-2 : Int32), rfl, trivial, ht⟩) (fun _ h => absurd h List.not_mem_nil) dX11_sag_11
  · obtain rfl := er.symm
    have bz25 := fb_rng p1
    have zz26 : ¬ p1.toInt < (0 : Int) := fun h9 => cz6 (zi_lt.mpr h9)
    have bz27 := hbV 0
    have zz28 : ¬ (bV 0).toInt ≤ p1.toInt := fun h9 => cz7 (zi_le.mpr h9)
    have bz29 := fb_rng p2
    have zz30 : p2.toInt < (0 : Int) := zi_lt.mp cz8
    refine lv_if_ne (tgt := 12) hx hb dX11_sag_6 (by decide) (fun cz31 => ?_) (fun cz31 => ?_)
    · skip
      exact absurd cz31 (by decide)
    · skip
      refine lv_bipush (v := (-2)) hx hb dX11_sag_9 (by decide) ?_
      rw [hQ]
      exact W.iret (v := (-2 : Int32)) hx hb hr (fun t ht hW => ⟨(-2 : Int32), rfl, trivial, ht⟩) (fun _ h => absurd h List.not_mem_nil) dX11_sag_11
  · obtain rfl := er.symm
    have bz32 := fb_rng p1
    have zz33 : ¬ p1.toInt < (0 : Int) := fun h9 => cz9 (zi_lt.mpr h9)
    have bz34 := hbV 0
    have zz35 : ¬ (bV 0).toInt ≤ p1.toInt := fun h9 => cz10 (zi_le.mpr h9)
    have bz36 := fb_rng p2
    have zz37 : ¬ p2.toInt < (0 : Int) := fun h9 => cz11 (zi_lt.mpr h9)
    have bz38 := hcV 0
    have zz39 : (cV 0).toInt ≤ p2.toInt := zi_le.mp cz12
    refine lv_if_ne (tgt := 12) hx hb dX11_sag_6 (by decide) (fun cz40 => ?_) (fun cz40 => ?_)
    · skip
      exact absurd cz40 (by decide)
    · skip
      refine lv_bipush (v := (-2)) hx hb dX11_sag_9 (by decide) ?_
      rw [hQ]
      exact W.iret (v := (-2 : Int32)) hx hb hr (fun t ht hW => ⟨(-2 : Int32), rfl, trivial, ht⟩) (fun _ h => absurd h List.not_mem_nil) dX11_sag_11
  · obtain rfl := er.symm
    have bz41 := fb_rng p1
    have zz42 : ¬ p1.toInt < (0 : Int) := fun h9 => cz13 (zi_lt.mpr h9)
    have bz43 := hbV 0
    have zz44 : ¬ (bV 0).toInt ≤ p1.toInt := fun h9 => cz14 (zi_le.mpr h9)
    have bz45 := fb_rng p2
    have zz46 : ¬ p2.toInt < (0 : Int) := fun h9 => cz15 (zi_lt.mpr h9)
    have bz47 := hcV 0
    have zz48 : ¬ (cV 0).toInt ≤ p2.toInt := fun h9 => cz16 (zi_le.mpr h9)
    refine lv_if_ne (tgt := 12) hx hb dX11_sag_6 (by decide) (fun cz49 => ?_) (fun cz49 => ?_)
    · skip
      refine lv_aload_n hx hb dX11_sag_12 rfl (lv_at hl 0 rfl) ?_
      refine va_get (D := (dC, dI)) (ci := 11) (v := .ref (qY 0)) (C := RX11) (T := TX11) (N := 15) hx hb hts (fun w h => List.mem_cons_of_mem _ (List.mem_append_right _ (List.mem_append_right _ (List.mem_append_left _ h)))) hown hK hP 0 rfl rfl 5 (by decide) (hts (.fieldLink RX11 45 "SagMemory" "story" "LSagMemory$Story;") (wl_mem 4 rfl)) (fun _ h9 => h9) rfl dX11_sag_13 ?_
      refine lv_iload_n hx hb dX11_sag_16 rfl (lv_at hl 2 rfl) ?_
      have hPc : va_P (dC, dI) vwCl (List.flatten [(wStoO qY k (qV 0) planY (sY 0 0) (sY 1 0) (sY 2 0) (sY 3 0) (sY 4 0) (sY 5 0) (sY 6 0) (sY 7 0)), (wState (sY 0) k (vY 0) (nY 0) (aY 0)), (wState (sY 1) k (vY 1) (nY 1) (aY 1)), (wState (sY 2) k (vY 2) (nY 2) (aY 2)), (wState (sY 3) k (vY 3) (nY 3) (aY 3)), (wState (sY 4) k (vY 4) (nY 4) (aY 4)), (wState (sY 5) k (vY 5) (nY 5) (aY 5)), (wState (sY 6) k (vY 6) (nY 6) (aY 6)), (wState (sY 7) k (vY 7) (nY 7) (aY 7))]) s.heap := wc_subP0 hP [2, 3, 4, 5, 6, 7, 8, 9, 10] rfl
      refine va_csr (va_Run.run (va_runV (As := [.int p2]) (rest := []) ⟨hx, hb, hml, hown, hts⟩ (c_X8_behind l dC dI k qY sY (qV 0) planY vY nY aY p2 hnY) (cwV 1 hts (gk_V (wl_mem 5 rfl) (wl_mem 6 rfl) (wl_mem 7 rfl) (wl_mem 8 rfl) (fun w h => List.mem_cons_of_mem _ (List.mem_append_right _ (List.mem_append_right _ (List.mem_append_right _ (List.mem_append_left _ h))))) wkg_c_X8_behind) rfl rfl rfl (by decide +kernel) ⟨Nat.le_of_ble_eq_true rfl, Nat.le_of_ble_eq_true rfl⟩) ⟨fun a U g mk q => by obtain ⟨q0, qP, qK⟩ := q; exact ⟨q0, qP, va_K.moved (u := U) (U := U.calling g mk a) (Vm.Alike.refl U.vm) qK⟩, va_recv hK hPc (ci := 8) (q0 := 0) rfl rfl, fun U hU hW => ⟨rfl, by rw [hU]; exact hPc, va_K.moved hW.alike hK⟩⟩ rfl rfl hl.1 rfl (lv_room (Nat.le_of_ble_eq_true rfl)) dX11_sag_17 ⟨Nat.le_of_ble_eq_true rfl, Nat.le_of_ble_eq_true rfl⟩)) (fun rz51 gz50 => ?_)
      clear hPc
      rcases gz50 with ⟨rfl, cz52⟩ | ⟨rfl, cz53, cz54⟩ | ⟨rfl, cz55, cz56, cz57⟩ | ⟨rfl, cz58, cz59, cz60⟩ | ⟨rfl, cz61, cz62, cz63⟩ | ⟨rfl, cz64, cz65, cz66⟩ | ⟨rfl, cz67, cz68, cz69⟩ | ⟨rfl, cz70, cz71, cz72⟩ | ⟨rfl, cz73, cz74, cz75⟩
      · skip
        have zz76 : p2.toInt < (0 : Int) := zi_lt.mp cz52
        omega
      · skip
        have zz77 : ¬ p2.toInt < (0 : Int) := fun h9 => cz53 (zi_lt.mpr h9)
        have zz78 : (7 : Int) ≤ p2.toInt := zi_le.mp cz54
        omega
      · skip
        have zz79 : ¬ p2.toInt < (0 : Int) := fun h9 => cz55 (zi_lt.mpr h9)
        have zz80 : ¬ (7 : Int) ≤ p2.toInt := fun h9 => cz56 (zi_le.mpr h9)
        have zz81 : p2.toInt = (0 : Int) := zi_eq.mp cz57
        refine W.eq (g2 := F0 m 20 ls [.ref (sY 1 0)]) rfl ?_
        refine va_get (D := (dC, dI)) (ci := 7) (v := .ref (sY 1 1)) (C := RX7) (T := TX7) (N := 9) hx hb hts (fun w h => List.mem_cons_of_mem _ (List.mem_append_right _ (List.mem_append_right _ (List.mem_append_right _ (List.mem_append_right _ (List.mem_append_left _ h)))))) hown hK hP 26 rfl rfl 0 (by decide) (hts (.fieldLink RX11 194 "SagMemory$State" "memories" "[LSagMemory$Memory;") (wl_mem 9 rfl)) (fun _ h9 => h9) rfl dX11_sag_20 ?_
        refine lv_iload_n hx hb dX11_sag_23 rfl (lv_at hl 1 rfl) ?_
        rcases (show p1 = 0 ∨ p1 = 1 ∨ p1 = 2 by simp only [zi_eq]; show p1.toInt = 0 ∨ p1.toInt = 1 ∨ p1.toInt = 2; omega) with cz82 | cz82 | cz82
        · skip
          have zz83 : p1.toInt = (0 : Int) := zi_eq.mp cz82
          refine W.eq (g2 := F0 m 24 ls [.int 0, .ref (sY 1 1)]) (by rw [cz82]) ?_
          refine va_aldq hx hb hK hP 27 4 rfl rfl (by unfold vp_in; decide) dX11_sag_24 ?_
          refine W.eq (g2 := F0 m 25 ls [.ref (sY 1 2)]) rfl ?_
          have hPc := hP.sub (ws' := (List.flatten [(wMem (fun i => sY 1 (i + 2)) k (nY 1) (aY 1))])) [28, 29, 30] rfl
          refine vp_callSi (va_Run.run (va_runV (As := []) (rest := []) ⟨hx, hb, hml, hown, hts⟩ (c_X2_depth l dC dI k (fun i => sY 1 (i + 2)) (nY 1) (aY 1) (hnY 1)) (cwV 0 hts (gk_V (wl_mem 10 rfl) (wl_mem 11 rfl) (wl_mem 12 rfl) (wl_mem 13 rfl) (fun w h => List.mem_cons_of_mem _ (List.mem_append_right _ (List.mem_append_right _ (List.mem_append_right _ (List.mem_append_right _ (List.mem_append_right _ (List.mem_append_left _ h))))))) wkg_c_X2_depth) rfl rfl rfl (by decide +kernel) ⟨Nat.le_of_ble_eq_true rfl, Nat.le_of_ble_eq_true rfl⟩) ⟨fun a U g mk q => by obtain ⟨q0, qP, qK⟩ := q; exact ⟨q0, qP, va_K.moved (u := U) (U := U.calling g mk a) (Vm.Alike.refl U.vm) qK⟩, va_recv hK hPc (ci := 2) (q0 := 0) rfl rfl, fun U hU hW => ⟨rfl, by rw [hU]; exact hPc, va_K.moved hW.alike hK⟩⟩ rfl rfl hl.1 rfl (lv_room (Nat.le_of_ble_eq_true rfl)) dX11_sag_25 ⟨Nat.le_of_ble_eq_true rfl, Nat.le_of_ble_eq_true rfl⟩)) (fun rz85 gz84 => ?_)
          clear hPc
          rw [hQ]
          exact W.iret (v := rz85) hx hb hr (fun t ht hW => ⟨rz85, rfl, trivial, ht⟩) (fun _ h => absurd h List.not_mem_nil) dX11_sag_28
        · skip
          have zz86 : p1.toInt = (1 : Int) := zi_eq.mp cz82
          refine W.eq (g2 := F0 m 24 ls [.int 1, .ref (sY 1 1)]) (by rw [cz82]) ?_
          refine va_aldq hx hb hK hP 27 4 rfl rfl (by unfold vp_in; decide) dX11_sag_24 ?_
          refine W.eq (g2 := F0 m 25 ls [.ref (sY 1 5)]) rfl ?_
          have hPc := hP.sub (ws' := (List.flatten [(wMem (fun i => sY 1 (i + 5)) k (fun i => (nY 1) (i + 1)) (fun i => (aY 1) (i + 2)))])) [31, 32, 33] rfl
          refine vp_callSi (va_Run.run (va_runV (As := []) (rest := []) ⟨hx, hb, hml, hown, hts⟩ (c_X2_depth l dC dI k (fun i => sY 1 (i + 5)) (fun i => (nY 1) (i + 1)) (fun i => (aY 1) (i + 2)) (fun i => (hnY 1) (i + 1))) (cwV 0 hts (gk_V (wl_mem 10 rfl) (wl_mem 11 rfl) (wl_mem 12 rfl) (wl_mem 13 rfl) (fun w h => List.mem_cons_of_mem _ (List.mem_append_right _ (List.mem_append_right _ (List.mem_append_right _ (List.mem_append_right _ (List.mem_append_right _ (List.mem_append_left _ h))))))) wkg_c_X2_depth) rfl rfl rfl (by decide +kernel) ⟨Nat.le_of_ble_eq_true rfl, Nat.le_of_ble_eq_true rfl⟩) ⟨fun a U g mk q => by obtain ⟨q0, qP, qK⟩ := q; exact ⟨q0, qP, va_K.moved (u := U) (U := U.calling g mk a) (Vm.Alike.refl U.vm) qK⟩, va_recv hK hPc (ci := 2) (q0 := 0) rfl rfl, fun U hU hW => ⟨rfl, by rw [hU]; exact hPc, va_K.moved hW.alike hK⟩⟩ rfl rfl hl.1 rfl (lv_room (Nat.le_of_ble_eq_true rfl)) dX11_sag_25 ⟨Nat.le_of_ble_eq_true rfl, Nat.le_of_ble_eq_true rfl⟩)) (fun rz88 gz87 => ?_)
          clear hPc
          rw [hQ]
          exact W.iret (v := rz88) hx hb hr (fun t ht hW => ⟨rz88, rfl, trivial, ht⟩) (fun _ h => absurd h List.not_mem_nil) dX11_sag_28
        · skip
          have zz89 : p1.toInt = (2 : Int) := zi_eq.mp cz82
          refine W.eq (g2 := F0 m 24 ls [.int 2, .ref (sY 1 1)]) (by rw [cz82]) ?_
          refine va_aldq hx hb hK hP 27 4 rfl rfl (by unfold vp_in; decide) dX11_sag_24 ?_
          refine W.eq (g2 := F0 m 25 ls [.ref (sY 1 8)]) rfl ?_
          have hPc := hP.sub (ws' := (List.flatten [(wMem (fun i => sY 1 (i + 8)) k (fun i => (nY 1) (i + 2)) (fun i => (aY 1) (i + 4)))])) [34, 35, 36] rfl
          refine vp_callSi (va_Run.run (va_runV (As := []) (rest := []) ⟨hx, hb, hml, hown, hts⟩ (c_X2_depth l dC dI k (fun i => sY 1 (i + 8)) (fun i => (nY 1) (i + 2)) (fun i => (aY 1) (i + 4)) (fun i => (hnY 1) (i + 2))) (cwV 0 hts (gk_V (wl_mem 10 rfl) (wl_mem 11 rfl) (wl_mem 12 rfl) (wl_mem 13 rfl) (fun w h => List.mem_cons_of_mem _ (List.mem_append_right _ (List.mem_append_right _ (List.mem_append_right _ (List.mem_append_right _ (List.mem_append_right _ (List.mem_append_left _ h))))))) wkg_c_X2_depth) rfl rfl rfl (by decide +kernel) ⟨Nat.le_of_ble_eq_true rfl, Nat.le_of_ble_eq_true rfl⟩) ⟨fun a U g mk q => by obtain ⟨q0, qP, qK⟩ := q; exact ⟨q0, qP, va_K.moved (u := U) (U := U.calling g mk a) (Vm.Alike.refl U.vm) qK⟩, va_recv hK hPc (ci := 2) (q0 := 0) rfl rfl, fun U hU hW => ⟨rfl, by rw [hU]; exact hPc, va_K.moved hW.alike hK⟩⟩ rfl rfl hl.1 rfl (lv_room (Nat.le_of_ble_eq_true rfl)) dX11_sag_25 ⟨Nat.le_of_ble_eq_true rfl, Nat.le_of_ble_eq_true rfl⟩)) (fun rz91 gz90 => ?_)
          clear hPc
          rw [hQ]
          exact W.iret (v := rz91) hx hb hr (fun t ht hW => ⟨rz91, rfl, trivial, ht⟩) (fun _ h => absurd h List.not_mem_nil) dX11_sag_28
      · skip
        have zz92 : ¬ p2.toInt < (0 : Int) := fun h9 => cz58 (zi_lt.mpr h9)
        have zz93 : ¬ (7 : Int) ≤ p2.toInt := fun h9 => cz59 (zi_le.mpr h9)
        have zz94 : p2.toInt = (1 : Int) := zi_eq.mp cz60
        refine W.eq (g2 := F0 m 20 ls [.ref (sY 2 0)]) rfl ?_
        refine va_get (D := (dC, dI)) (ci := 7) (v := .ref (sY 2 1)) (C := RX7) (T := TX7) (N := 9) hx hb hts (fun w h => List.mem_cons_of_mem _ (List.mem_append_right _ (List.mem_append_right _ (List.mem_append_right _ (List.mem_append_right _ (List.mem_append_left _ h)))))) hown hK hP 37 rfl rfl 0 (by decide) (hts (.fieldLink RX11 194 "SagMemory$State" "memories" "[LSagMemory$Memory;") (wl_mem 9 rfl)) (fun _ h9 => h9) rfl dX11_sag_20 ?_
        refine lv_iload_n hx hb dX11_sag_23 rfl (lv_at hl 1 rfl) ?_
        rcases (show p1 = 0 ∨ p1 = 1 ∨ p1 = 2 by simp only [zi_eq]; show p1.toInt = 0 ∨ p1.toInt = 1 ∨ p1.toInt = 2; omega) with cz95 | cz95 | cz95
        · skip
          have zz96 : p1.toInt = (0 : Int) := zi_eq.mp cz95
          refine W.eq (g2 := F0 m 24 ls [.int 0, .ref (sY 2 1)]) (by rw [cz95]) ?_
          refine va_aldq hx hb hK hP 38 4 rfl rfl (by unfold vp_in; decide) dX11_sag_24 ?_
          refine W.eq (g2 := F0 m 25 ls [.ref (sY 2 2)]) rfl ?_
          have hPc := hP.sub (ws' := (List.flatten [(wMem (fun i => sY 2 (i + 2)) k (nY 2) (aY 2))])) [39, 40, 41] rfl
          refine vp_callSi (va_Run.run (va_runV (As := []) (rest := []) ⟨hx, hb, hml, hown, hts⟩ (c_X2_depth l dC dI k (fun i => sY 2 (i + 2)) (nY 2) (aY 2) (hnY 2)) (cwV 0 hts (gk_V (wl_mem 10 rfl) (wl_mem 11 rfl) (wl_mem 12 rfl) (wl_mem 13 rfl) (fun w h => List.mem_cons_of_mem _ (List.mem_append_right _ (List.mem_append_right _ (List.mem_append_right _ (List.mem_append_right _ (List.mem_append_right _ (List.mem_append_left _ h))))))) wkg_c_X2_depth) rfl rfl rfl (by decide +kernel) ⟨Nat.le_of_ble_eq_true rfl, Nat.le_of_ble_eq_true rfl⟩) ⟨fun a U g mk q => by obtain ⟨q0, qP, qK⟩ := q; exact ⟨q0, qP, va_K.moved (u := U) (U := U.calling g mk a) (Vm.Alike.refl U.vm) qK⟩, va_recv hK hPc (ci := 2) (q0 := 0) rfl rfl, fun U hU hW => ⟨rfl, by rw [hU]; exact hPc, va_K.moved hW.alike hK⟩⟩ rfl rfl hl.1 rfl (lv_room (Nat.le_of_ble_eq_true rfl)) dX11_sag_25 ⟨Nat.le_of_ble_eq_true rfl, Nat.le_of_ble_eq_true rfl⟩)) (fun rz98 gz97 => ?_)
          clear hPc
          rw [hQ]
          exact W.iret (v := rz98) hx hb hr (fun t ht hW => ⟨rz98, rfl, trivial, ht⟩) (fun _ h => absurd h List.not_mem_nil) dX11_sag_28
        · skip
          have zz99 : p1.toInt = (1 : Int) := zi_eq.mp cz95
          refine W.eq (g2 := F0 m 24 ls [.int 1, .ref (sY 2 1)]) (by rw [cz95]) ?_
          refine va_aldq hx hb hK hP 38 4 rfl rfl (by unfold vp_in; decide) dX11_sag_24 ?_
          refine W.eq (g2 := F0 m 25 ls [.ref (sY 2 5)]) rfl ?_
          have hPc := hP.sub (ws' := (List.flatten [(wMem (fun i => sY 2 (i + 5)) k (fun i => (nY 2) (i + 1)) (fun i => (aY 2) (i + 2)))])) [42, 43, 44] rfl
          refine vp_callSi (va_Run.run (va_runV (As := []) (rest := []) ⟨hx, hb, hml, hown, hts⟩ (c_X2_depth l dC dI k (fun i => sY 2 (i + 5)) (fun i => (nY 2) (i + 1)) (fun i => (aY 2) (i + 2)) (fun i => (hnY 2) (i + 1))) (cwV 0 hts (gk_V (wl_mem 10 rfl) (wl_mem 11 rfl) (wl_mem 12 rfl) (wl_mem 13 rfl) (fun w h => List.mem_cons_of_mem _ (List.mem_append_right _ (List.mem_append_right _ (List.mem_append_right _ (List.mem_append_right _ (List.mem_append_right _ (List.mem_append_left _ h))))))) wkg_c_X2_depth) rfl rfl rfl (by decide +kernel) ⟨Nat.le_of_ble_eq_true rfl, Nat.le_of_ble_eq_true rfl⟩) ⟨fun a U g mk q => by obtain ⟨q0, qP, qK⟩ := q; exact ⟨q0, qP, va_K.moved (u := U) (U := U.calling g mk a) (Vm.Alike.refl U.vm) qK⟩, va_recv hK hPc (ci := 2) (q0 := 0) rfl rfl, fun U hU hW => ⟨rfl, by rw [hU]; exact hPc, va_K.moved hW.alike hK⟩⟩ rfl rfl hl.1 rfl (lv_room (Nat.le_of_ble_eq_true rfl)) dX11_sag_25 ⟨Nat.le_of_ble_eq_true rfl, Nat.le_of_ble_eq_true rfl⟩)) (fun rz101 gz100 => ?_)
          clear hPc
          rw [hQ]
          exact W.iret (v := rz101) hx hb hr (fun t ht hW => ⟨rz101, rfl, trivial, ht⟩) (fun _ h => absurd h List.not_mem_nil) dX11_sag_28
        · skip
          have zz102 : p1.toInt = (2 : Int) := zi_eq.mp cz95
          refine W.eq (g2 := F0 m 24 ls [.int 2, .ref (sY 2 1)]) (by rw [cz95]) ?_
          refine va_aldq hx hb hK hP 38 4 rfl rfl (by unfold vp_in; decide) dX11_sag_24 ?_
          refine W.eq (g2 := F0 m 25 ls [.ref (sY 2 8)]) rfl ?_
          have hPc := hP.sub (ws' := (List.flatten [(wMem (fun i => sY 2 (i + 8)) k (fun i => (nY 2) (i + 2)) (fun i => (aY 2) (i + 4)))])) [45, 46, 47] rfl
          refine vp_callSi (va_Run.run (va_runV (As := []) (rest := []) ⟨hx, hb, hml, hown, hts⟩ (c_X2_depth l dC dI k (fun i => sY 2 (i + 8)) (fun i => (nY 2) (i + 2)) (fun i => (aY 2) (i + 4)) (fun i => (hnY 2) (i + 2))) (cwV 0 hts (gk_V (wl_mem 10 rfl) (wl_mem 11 rfl) (wl_mem 12 rfl) (wl_mem 13 rfl) (fun w h => List.mem_cons_of_mem _ (List.mem_append_right _ (List.mem_append_right _ (List.mem_append_right _ (List.mem_append_right _ (List.mem_append_right _ (List.mem_append_left _ h))))))) wkg_c_X2_depth) rfl rfl rfl (by decide +kernel) ⟨Nat.le_of_ble_eq_true rfl, Nat.le_of_ble_eq_true rfl⟩) ⟨fun a U g mk q => by obtain ⟨q0, qP, qK⟩ := q; exact ⟨q0, qP, va_K.moved (u := U) (U := U.calling g mk a) (Vm.Alike.refl U.vm) qK⟩, va_recv hK hPc (ci := 2) (q0 := 0) rfl rfl, fun U hU hW => ⟨rfl, by rw [hU]; exact hPc, va_K.moved hW.alike hK⟩⟩ rfl rfl hl.1 rfl (lv_room (Nat.le_of_ble_eq_true rfl)) dX11_sag_25 ⟨Nat.le_of_ble_eq_true rfl, Nat.le_of_ble_eq_true rfl⟩)) (fun rz104 gz103 => ?_)
          clear hPc
          rw [hQ]
          exact W.iret (v := rz104) hx hb hr (fun t ht hW => ⟨rz104, rfl, trivial, ht⟩) (fun _ h => absurd h List.not_mem_nil) dX11_sag_28
      · skip
        have zz105 : ¬ p2.toInt < (0 : Int) := fun h9 => cz61 (zi_lt.mpr h9)
        have zz106 : ¬ (7 : Int) ≤ p2.toInt := fun h9 => cz62 (zi_le.mpr h9)
        have zz107 : p2.toInt = (2 : Int) := zi_eq.mp cz63
        refine W.eq (g2 := F0 m 20 ls [.ref (sY 3 0)]) rfl ?_
        refine va_get (D := (dC, dI)) (ci := 7) (v := .ref (sY 3 1)) (C := RX7) (T := TX7) (N := 9) hx hb hts (fun w h => List.mem_cons_of_mem _ (List.mem_append_right _ (List.mem_append_right _ (List.mem_append_right _ (List.mem_append_right _ (List.mem_append_left _ h)))))) hown hK hP 48 rfl rfl 0 (by decide) (hts (.fieldLink RX11 194 "SagMemory$State" "memories" "[LSagMemory$Memory;") (wl_mem 9 rfl)) (fun _ h9 => h9) rfl dX11_sag_20 ?_
        refine lv_iload_n hx hb dX11_sag_23 rfl (lv_at hl 1 rfl) ?_
        rcases (show p1 = 0 ∨ p1 = 1 ∨ p1 = 2 by simp only [zi_eq]; show p1.toInt = 0 ∨ p1.toInt = 1 ∨ p1.toInt = 2; omega) with cz108 | cz108 | cz108
        · skip
          have zz109 : p1.toInt = (0 : Int) := zi_eq.mp cz108
          refine W.eq (g2 := F0 m 24 ls [.int 0, .ref (sY 3 1)]) (by rw [cz108]) ?_
          refine va_aldq hx hb hK hP 49 4 rfl rfl (by unfold vp_in; decide) dX11_sag_24 ?_
          refine W.eq (g2 := F0 m 25 ls [.ref (sY 3 2)]) rfl ?_
          have hPc := hP.sub (ws' := (List.flatten [(wMem (fun i => sY 3 (i + 2)) k (nY 3) (aY 3))])) [50, 51, 52] rfl
          refine vp_callSi (va_Run.run (va_runV (As := []) (rest := []) ⟨hx, hb, hml, hown, hts⟩ (c_X2_depth l dC dI k (fun i => sY 3 (i + 2)) (nY 3) (aY 3) (hnY 3)) (cwV 0 hts (gk_V (wl_mem 10 rfl) (wl_mem 11 rfl) (wl_mem 12 rfl) (wl_mem 13 rfl) (fun w h => List.mem_cons_of_mem _ (List.mem_append_right _ (List.mem_append_right _ (List.mem_append_right _ (List.mem_append_right _ (List.mem_append_right _ (List.mem_append_left _ h))))))) wkg_c_X2_depth) rfl rfl rfl (by decide +kernel) ⟨Nat.le_of_ble_eq_true rfl, Nat.le_of_ble_eq_true rfl⟩) ⟨fun a U g mk q => by obtain ⟨q0, qP, qK⟩ := q; exact ⟨q0, qP, va_K.moved (u := U) (U := U.calling g mk a) (Vm.Alike.refl U.vm) qK⟩, va_recv hK hPc (ci := 2) (q0 := 0) rfl rfl, fun U hU hW => ⟨rfl, by rw [hU]; exact hPc, va_K.moved hW.alike hK⟩⟩ rfl rfl hl.1 rfl (lv_room (Nat.le_of_ble_eq_true rfl)) dX11_sag_25 ⟨Nat.le_of_ble_eq_true rfl, Nat.le_of_ble_eq_true rfl⟩)) (fun rz111 gz110 => ?_)
          clear hPc
          rw [hQ]
          exact W.iret (v := rz111) hx hb hr (fun t ht hW => ⟨rz111, rfl, trivial, ht⟩) (fun _ h => absurd h List.not_mem_nil) dX11_sag_28
        · skip
          have zz112 : p1.toInt = (1 : Int) := zi_eq.mp cz108
          refine W.eq (g2 := F0 m 24 ls [.int 1, .ref (sY 3 1)]) (by rw [cz108]) ?_
          refine va_aldq hx hb hK hP 49 4 rfl rfl (by unfold vp_in; decide) dX11_sag_24 ?_
          refine W.eq (g2 := F0 m 25 ls [.ref (sY 3 5)]) rfl ?_
          have hPc := hP.sub (ws' := (List.flatten [(wMem (fun i => sY 3 (i + 5)) k (fun i => (nY 3) (i + 1)) (fun i => (aY 3) (i + 2)))])) [53, 54, 55] rfl
          refine vp_callSi (va_Run.run (va_runV (As := []) (rest := []) ⟨hx, hb, hml, hown, hts⟩ (c_X2_depth l dC dI k (fun i => sY 3 (i + 5)) (fun i => (nY 3) (i + 1)) (fun i => (aY 3) (i + 2)) (fun i => (hnY 3) (i + 1))) (cwV 0 hts (gk_V (wl_mem 10 rfl) (wl_mem 11 rfl) (wl_mem 12 rfl) (wl_mem 13 rfl) (fun w h => List.mem_cons_of_mem _ (List.mem_append_right _ (List.mem_append_right _ (List.mem_append_right _ (List.mem_append_right _ (List.mem_append_right _ (List.mem_append_left _ h))))))) wkg_c_X2_depth) rfl rfl rfl (by decide +kernel) ⟨Nat.le_of_ble_eq_true rfl, Nat.le_of_ble_eq_true rfl⟩) ⟨fun a U g mk q => by obtain ⟨q0, qP, qK⟩ := q; exact ⟨q0, qP, va_K.moved (u := U) (U := U.calling g mk a) (Vm.Alike.refl U.vm) qK⟩, va_recv hK hPc (ci := 2) (q0 := 0) rfl rfl, fun U hU hW => ⟨rfl, by rw [hU]; exact hPc, va_K.moved hW.alike hK⟩⟩ rfl rfl hl.1 rfl (lv_room (Nat.le_of_ble_eq_true rfl)) dX11_sag_25 ⟨Nat.le_of_ble_eq_true rfl, Nat.le_of_ble_eq_true rfl⟩)) (fun rz114 gz113 => ?_)
          clear hPc
          rw [hQ]
          exact W.iret (v := rz114) hx hb hr (fun t ht hW => ⟨rz114, rfl, trivial, ht⟩) (fun _ h => absurd h List.not_mem_nil) dX11_sag_28
        · skip
          have zz115 : p1.toInt = (2 : Int) := zi_eq.mp cz108
          refine W.eq (g2 := F0 m 24 ls [.int 2, .ref (sY 3 1)]) (by rw [cz108]) ?_
          refine va_aldq hx hb hK hP 49 4 rfl rfl (by unfold vp_in; decide) dX11_sag_24 ?_
          refine W.eq (g2 := F0 m 25 ls [.ref (sY 3 8)]) rfl ?_
          have hPc := hP.sub (ws' := (List.flatten [(wMem (fun i => sY 3 (i + 8)) k (fun i => (nY 3) (i + 2)) (fun i => (aY 3) (i + 4)))])) [56, 57, 58] rfl
          refine vp_callSi (va_Run.run (va_runV (As := []) (rest := []) ⟨hx, hb, hml, hown, hts⟩ (c_X2_depth l dC dI k (fun i => sY 3 (i + 8)) (fun i => (nY 3) (i + 2)) (fun i => (aY 3) (i + 4)) (fun i => (hnY 3) (i + 2))) (cwV 0 hts (gk_V (wl_mem 10 rfl) (wl_mem 11 rfl) (wl_mem 12 rfl) (wl_mem 13 rfl) (fun w h => List.mem_cons_of_mem _ (List.mem_append_right _ (List.mem_append_right _ (List.mem_append_right _ (List.mem_append_right _ (List.mem_append_right _ (List.mem_append_left _ h))))))) wkg_c_X2_depth) rfl rfl rfl (by decide +kernel) ⟨Nat.le_of_ble_eq_true rfl, Nat.le_of_ble_eq_true rfl⟩) ⟨fun a U g mk q => by obtain ⟨q0, qP, qK⟩ := q; exact ⟨q0, qP, va_K.moved (u := U) (U := U.calling g mk a) (Vm.Alike.refl U.vm) qK⟩, va_recv hK hPc (ci := 2) (q0 := 0) rfl rfl, fun U hU hW => ⟨rfl, by rw [hU]; exact hPc, va_K.moved hW.alike hK⟩⟩ rfl rfl hl.1 rfl (lv_room (Nat.le_of_ble_eq_true rfl)) dX11_sag_25 ⟨Nat.le_of_ble_eq_true rfl, Nat.le_of_ble_eq_true rfl⟩)) (fun rz117 gz116 => ?_)
          clear hPc
          rw [hQ]
          exact W.iret (v := rz117) hx hb hr (fun t ht hW => ⟨rz117, rfl, trivial, ht⟩) (fun _ h => absurd h List.not_mem_nil) dX11_sag_28
      · skip
        have zz118 : ¬ p2.toInt < (0 : Int) := fun h9 => cz64 (zi_lt.mpr h9)
        have zz119 : ¬ (7 : Int) ≤ p2.toInt := fun h9 => cz65 (zi_le.mpr h9)
        have zz120 : p2.toInt = (3 : Int) := zi_eq.mp cz66
        refine W.eq (g2 := F0 m 20 ls [.ref (sY 4 0)]) rfl ?_
        refine va_get (D := (dC, dI)) (ci := 7) (v := .ref (sY 4 1)) (C := RX7) (T := TX7) (N := 9) hx hb hts (fun w h => List.mem_cons_of_mem _ (List.mem_append_right _ (List.mem_append_right _ (List.mem_append_right _ (List.mem_append_right _ (List.mem_append_left _ h)))))) hown hK hP 59 rfl rfl 0 (by decide) (hts (.fieldLink RX11 194 "SagMemory$State" "memories" "[LSagMemory$Memory;") (wl_mem 9 rfl)) (fun _ h9 => h9) rfl dX11_sag_20 ?_
        refine lv_iload_n hx hb dX11_sag_23 rfl (lv_at hl 1 rfl) ?_
        rcases (show p1 = 0 ∨ p1 = 1 ∨ p1 = 2 by simp only [zi_eq]; show p1.toInt = 0 ∨ p1.toInt = 1 ∨ p1.toInt = 2; omega) with cz121 | cz121 | cz121
        · skip
          have zz122 : p1.toInt = (0 : Int) := zi_eq.mp cz121
          refine W.eq (g2 := F0 m 24 ls [.int 0, .ref (sY 4 1)]) (by rw [cz121]) ?_
          refine va_aldq hx hb hK hP 60 4 rfl rfl (by unfold vp_in; decide) dX11_sag_24 ?_
          refine W.eq (g2 := F0 m 25 ls [.ref (sY 4 2)]) rfl ?_
          have hPc := hP.sub (ws' := (List.flatten [(wMem (fun i => sY 4 (i + 2)) k (nY 4) (aY 4))])) [61, 62, 63] rfl
          refine vp_callSi (va_Run.run (va_runV (As := []) (rest := []) ⟨hx, hb, hml, hown, hts⟩ (c_X2_depth l dC dI k (fun i => sY 4 (i + 2)) (nY 4) (aY 4) (hnY 4)) (cwV 0 hts (gk_V (wl_mem 10 rfl) (wl_mem 11 rfl) (wl_mem 12 rfl) (wl_mem 13 rfl) (fun w h => List.mem_cons_of_mem _ (List.mem_append_right _ (List.mem_append_right _ (List.mem_append_right _ (List.mem_append_right _ (List.mem_append_right _ (List.mem_append_left _ h))))))) wkg_c_X2_depth) rfl rfl rfl (by decide +kernel) ⟨Nat.le_of_ble_eq_true rfl, Nat.le_of_ble_eq_true rfl⟩) ⟨fun a U g mk q => by obtain ⟨q0, qP, qK⟩ := q; exact ⟨q0, qP, va_K.moved (u := U) (U := U.calling g mk a) (Vm.Alike.refl U.vm) qK⟩, va_recv hK hPc (ci := 2) (q0 := 0) rfl rfl, fun U hU hW => ⟨rfl, by rw [hU]; exact hPc, va_K.moved hW.alike hK⟩⟩ rfl rfl hl.1 rfl (lv_room (Nat.le_of_ble_eq_true rfl)) dX11_sag_25 ⟨Nat.le_of_ble_eq_true rfl, Nat.le_of_ble_eq_true rfl⟩)) (fun rz124 gz123 => ?_)
          clear hPc
          rw [hQ]
          exact W.iret (v := rz124) hx hb hr (fun t ht hW => ⟨rz124, rfl, trivial, ht⟩) (fun _ h => absurd h List.not_mem_nil) dX11_sag_28
        · skip
          have zz125 : p1.toInt = (1 : Int) := zi_eq.mp cz121
          refine W.eq (g2 := F0 m 24 ls [.int 1, .ref (sY 4 1)]) (by rw [cz121]) ?_
          refine va_aldq hx hb hK hP 60 4 rfl rfl (by unfold vp_in; decide) dX11_sag_24 ?_
          refine W.eq (g2 := F0 m 25 ls [.ref (sY 4 5)]) rfl ?_
          have hPc := hP.sub (ws' := (List.flatten [(wMem (fun i => sY 4 (i + 5)) k (fun i => (nY 4) (i + 1)) (fun i => (aY 4) (i + 2)))])) [64, 65, 66] rfl
          refine vp_callSi (va_Run.run (va_runV (As := []) (rest := []) ⟨hx, hb, hml, hown, hts⟩ (c_X2_depth l dC dI k (fun i => sY 4 (i + 5)) (fun i => (nY 4) (i + 1)) (fun i => (aY 4) (i + 2)) (fun i => (hnY 4) (i + 1))) (cwV 0 hts (gk_V (wl_mem 10 rfl) (wl_mem 11 rfl) (wl_mem 12 rfl) (wl_mem 13 rfl) (fun w h => List.mem_cons_of_mem _ (List.mem_append_right _ (List.mem_append_right _ (List.mem_append_right _ (List.mem_append_right _ (List.mem_append_right _ (List.mem_append_left _ h))))))) wkg_c_X2_depth) rfl rfl rfl (by decide +kernel) ⟨Nat.le_of_ble_eq_true rfl, Nat.le_of_ble_eq_true rfl⟩) ⟨fun a U g mk q => by obtain ⟨q0, qP, qK⟩ := q; exact ⟨q0, qP, va_K.moved (u := U) (U := U.calling g mk a) (Vm.Alike.refl U.vm) qK⟩, va_recv hK hPc (ci := 2) (q0 := 0) rfl rfl, fun U hU hW => ⟨rfl, by rw [hU]; exact hPc, va_K.moved hW.alike hK⟩⟩ rfl rfl hl.1 rfl (lv_room (Nat.le_of_ble_eq_true rfl)) dX11_sag_25 ⟨Nat.le_of_ble_eq_true rfl, Nat.le_of_ble_eq_true rfl⟩)) (fun rz127 gz126 => ?_)
          clear hPc
          rw [hQ]
          exact W.iret (v := rz127) hx hb hr (fun t ht hW => ⟨rz127, rfl, trivial, ht⟩) (fun _ h => absurd h List.not_mem_nil) dX11_sag_28
        · skip
          have zz128 : p1.toInt = (2 : Int) := zi_eq.mp cz121
          refine W.eq (g2 := F0 m 24 ls [.int 2, .ref (sY 4 1)]) (by rw [cz121]) ?_
          refine va_aldq hx hb hK hP 60 4 rfl rfl (by unfold vp_in; decide) dX11_sag_24 ?_
          refine W.eq (g2 := F0 m 25 ls [.ref (sY 4 8)]) rfl ?_
          have hPc := hP.sub (ws' := (List.flatten [(wMem (fun i => sY 4 (i + 8)) k (fun i => (nY 4) (i + 2)) (fun i => (aY 4) (i + 4)))])) [67, 68, 69] rfl
          refine vp_callSi (va_Run.run (va_runV (As := []) (rest := []) ⟨hx, hb, hml, hown, hts⟩ (c_X2_depth l dC dI k (fun i => sY 4 (i + 8)) (fun i => (nY 4) (i + 2)) (fun i => (aY 4) (i + 4)) (fun i => (hnY 4) (i + 2))) (cwV 0 hts (gk_V (wl_mem 10 rfl) (wl_mem 11 rfl) (wl_mem 12 rfl) (wl_mem 13 rfl) (fun w h => List.mem_cons_of_mem _ (List.mem_append_right _ (List.mem_append_right _ (List.mem_append_right _ (List.mem_append_right _ (List.mem_append_right _ (List.mem_append_left _ h))))))) wkg_c_X2_depth) rfl rfl rfl (by decide +kernel) ⟨Nat.le_of_ble_eq_true rfl, Nat.le_of_ble_eq_true rfl⟩) ⟨fun a U g mk q => by obtain ⟨q0, qP, qK⟩ := q; exact ⟨q0, qP, va_K.moved (u := U) (U := U.calling g mk a) (Vm.Alike.refl U.vm) qK⟩, va_recv hK hPc (ci := 2) (q0 := 0) rfl rfl, fun U hU hW => ⟨rfl, by rw [hU]; exact hPc, va_K.moved hW.alike hK⟩⟩ rfl rfl hl.1 rfl (lv_room (Nat.le_of_ble_eq_true rfl)) dX11_sag_25 ⟨Nat.le_of_ble_eq_true rfl, Nat.le_of_ble_eq_true rfl⟩)) (fun rz130 gz129 => ?_)
          clear hPc
          rw [hQ]
          exact W.iret (v := rz130) hx hb hr (fun t ht hW => ⟨rz130, rfl, trivial, ht⟩) (fun _ h => absurd h List.not_mem_nil) dX11_sag_28
      · skip
        have zz131 : ¬ p2.toInt < (0 : Int) := fun h9 => cz67 (zi_lt.mpr h9)
        have zz132 : ¬ (7 : Int) ≤ p2.toInt := fun h9 => cz68 (zi_le.mpr h9)
        have zz133 : p2.toInt = (4 : Int) := zi_eq.mp cz69
        refine W.eq (g2 := F0 m 20 ls [.ref (sY 5 0)]) rfl ?_
        refine va_get (D := (dC, dI)) (ci := 7) (v := .ref (sY 5 1)) (C := RX7) (T := TX7) (N := 9) hx hb hts (fun w h => List.mem_cons_of_mem _ (List.mem_append_right _ (List.mem_append_right _ (List.mem_append_right _ (List.mem_append_right _ (List.mem_append_left _ h)))))) hown hK hP 70 rfl rfl 0 (by decide) (hts (.fieldLink RX11 194 "SagMemory$State" "memories" "[LSagMemory$Memory;") (wl_mem 9 rfl)) (fun _ h9 => h9) rfl dX11_sag_20 ?_
        refine lv_iload_n hx hb dX11_sag_23 rfl (lv_at hl 1 rfl) ?_
        rcases (show p1 = 0 ∨ p1 = 1 ∨ p1 = 2 by simp only [zi_eq]; show p1.toInt = 0 ∨ p1.toInt = 1 ∨ p1.toInt = 2; omega) with cz134 | cz134 | cz134
        · skip
          have zz135 : p1.toInt = (0 : Int) := zi_eq.mp cz134
          refine W.eq (g2 := F0 m 24 ls [.int 0, .ref (sY 5 1)]) (by rw [cz134]) ?_
          refine va_aldq hx hb hK hP 71 4 rfl rfl (by unfold vp_in; decide) dX11_sag_24 ?_
          refine W.eq (g2 := F0 m 25 ls [.ref (sY 5 2)]) rfl ?_
          have hPc := hP.sub (ws' := (List.flatten [(wMem (fun i => sY 5 (i + 2)) k (nY 5) (aY 5))])) [72, 73, 74] rfl
          refine vp_callSi (va_Run.run (va_runV (As := []) (rest := []) ⟨hx, hb, hml, hown, hts⟩ (c_X2_depth l dC dI k (fun i => sY 5 (i + 2)) (nY 5) (aY 5) (hnY 5)) (cwV 0 hts (gk_V (wl_mem 10 rfl) (wl_mem 11 rfl) (wl_mem 12 rfl) (wl_mem 13 rfl) (fun w h => List.mem_cons_of_mem _ (List.mem_append_right _ (List.mem_append_right _ (List.mem_append_right _ (List.mem_append_right _ (List.mem_append_right _ (List.mem_append_left _ h))))))) wkg_c_X2_depth) rfl rfl rfl (by decide +kernel) ⟨Nat.le_of_ble_eq_true rfl, Nat.le_of_ble_eq_true rfl⟩) ⟨fun a U g mk q => by obtain ⟨q0, qP, qK⟩ := q; exact ⟨q0, qP, va_K.moved (u := U) (U := U.calling g mk a) (Vm.Alike.refl U.vm) qK⟩, va_recv hK hPc (ci := 2) (q0 := 0) rfl rfl, fun U hU hW => ⟨rfl, by rw [hU]; exact hPc, va_K.moved hW.alike hK⟩⟩ rfl rfl hl.1 rfl (lv_room (Nat.le_of_ble_eq_true rfl)) dX11_sag_25 ⟨Nat.le_of_ble_eq_true rfl, Nat.le_of_ble_eq_true rfl⟩)) (fun rz137 gz136 => ?_)
          clear hPc
          rw [hQ]
          exact W.iret (v := rz137) hx hb hr (fun t ht hW => ⟨rz137, rfl, trivial, ht⟩) (fun _ h => absurd h List.not_mem_nil) dX11_sag_28
        · skip
          have zz138 : p1.toInt = (1 : Int) := zi_eq.mp cz134
          refine W.eq (g2 := F0 m 24 ls [.int 1, .ref (sY 5 1)]) (by rw [cz134]) ?_
          refine va_aldq hx hb hK hP 71 4 rfl rfl (by unfold vp_in; decide) dX11_sag_24 ?_
          refine W.eq (g2 := F0 m 25 ls [.ref (sY 5 5)]) rfl ?_
          have hPc := hP.sub (ws' := (List.flatten [(wMem (fun i => sY 5 (i + 5)) k (fun i => (nY 5) (i + 1)) (fun i => (aY 5) (i + 2)))])) [75, 76, 77] rfl
          refine vp_callSi (va_Run.run (va_runV (As := []) (rest := []) ⟨hx, hb, hml, hown, hts⟩ (c_X2_depth l dC dI k (fun i => sY 5 (i + 5)) (fun i => (nY 5) (i + 1)) (fun i => (aY 5) (i + 2)) (fun i => (hnY 5) (i + 1))) (cwV 0 hts (gk_V (wl_mem 10 rfl) (wl_mem 11 rfl) (wl_mem 12 rfl) (wl_mem 13 rfl) (fun w h => List.mem_cons_of_mem _ (List.mem_append_right _ (List.mem_append_right _ (List.mem_append_right _ (List.mem_append_right _ (List.mem_append_right _ (List.mem_append_left _ h))))))) wkg_c_X2_depth) rfl rfl rfl (by decide +kernel) ⟨Nat.le_of_ble_eq_true rfl, Nat.le_of_ble_eq_true rfl⟩) ⟨fun a U g mk q => by obtain ⟨q0, qP, qK⟩ := q; exact ⟨q0, qP, va_K.moved (u := U) (U := U.calling g mk a) (Vm.Alike.refl U.vm) qK⟩, va_recv hK hPc (ci := 2) (q0 := 0) rfl rfl, fun U hU hW => ⟨rfl, by rw [hU]; exact hPc, va_K.moved hW.alike hK⟩⟩ rfl rfl hl.1 rfl (lv_room (Nat.le_of_ble_eq_true rfl)) dX11_sag_25 ⟨Nat.le_of_ble_eq_true rfl, Nat.le_of_ble_eq_true rfl⟩)) (fun rz140 gz139 => ?_)
          clear hPc
          rw [hQ]
          exact W.iret (v := rz140) hx hb hr (fun t ht hW => ⟨rz140, rfl, trivial, ht⟩) (fun _ h => absurd h List.not_mem_nil) dX11_sag_28
        · skip
          have zz141 : p1.toInt = (2 : Int) := zi_eq.mp cz134
          refine W.eq (g2 := F0 m 24 ls [.int 2, .ref (sY 5 1)]) (by rw [cz134]) ?_
          refine va_aldq hx hb hK hP 71 4 rfl rfl (by unfold vp_in; decide) dX11_sag_24 ?_
          refine W.eq (g2 := F0 m 25 ls [.ref (sY 5 8)]) rfl ?_
          have hPc := hP.sub (ws' := (List.flatten [(wMem (fun i => sY 5 (i + 8)) k (fun i => (nY 5) (i + 2)) (fun i => (aY 5) (i + 4)))])) [78, 79, 80] rfl
          refine vp_callSi (va_Run.run (va_runV (As := []) (rest := []) ⟨hx, hb, hml, hown, hts⟩ (c_X2_depth l dC dI k (fun i => sY 5 (i + 8)) (fun i => (nY 5) (i + 2)) (fun i => (aY 5) (i + 4)) (fun i => (hnY 5) (i + 2))) (cwV 0 hts (gk_V (wl_mem 10 rfl) (wl_mem 11 rfl) (wl_mem 12 rfl) (wl_mem 13 rfl) (fun w h => List.mem_cons_of_mem _ (List.mem_append_right _ (List.mem_append_right _ (List.mem_append_right _ (List.mem_append_right _ (List.mem_append_right _ (List.mem_append_left _ h))))))) wkg_c_X2_depth) rfl rfl rfl (by decide +kernel) ⟨Nat.le_of_ble_eq_true rfl, Nat.le_of_ble_eq_true rfl⟩) ⟨fun a U g mk q => by obtain ⟨q0, qP, qK⟩ := q; exact ⟨q0, qP, va_K.moved (u := U) (U := U.calling g mk a) (Vm.Alike.refl U.vm) qK⟩, va_recv hK hPc (ci := 2) (q0 := 0) rfl rfl, fun U hU hW => ⟨rfl, by rw [hU]; exact hPc, va_K.moved hW.alike hK⟩⟩ rfl rfl hl.1 rfl (lv_room (Nat.le_of_ble_eq_true rfl)) dX11_sag_25 ⟨Nat.le_of_ble_eq_true rfl, Nat.le_of_ble_eq_true rfl⟩)) (fun rz143 gz142 => ?_)
          clear hPc
          rw [hQ]
          exact W.iret (v := rz143) hx hb hr (fun t ht hW => ⟨rz143, rfl, trivial, ht⟩) (fun _ h => absurd h List.not_mem_nil) dX11_sag_28
      · skip
        have zz144 : ¬ p2.toInt < (0 : Int) := fun h9 => cz70 (zi_lt.mpr h9)
        have zz145 : ¬ (7 : Int) ≤ p2.toInt := fun h9 => cz71 (zi_le.mpr h9)
        have zz146 : p2.toInt = (5 : Int) := zi_eq.mp cz72
        refine W.eq (g2 := F0 m 20 ls [.ref (sY 6 0)]) rfl ?_
        refine va_get (D := (dC, dI)) (ci := 7) (v := .ref (sY 6 1)) (C := RX7) (T := TX7) (N := 9) hx hb hts (fun w h => List.mem_cons_of_mem _ (List.mem_append_right _ (List.mem_append_right _ (List.mem_append_right _ (List.mem_append_right _ (List.mem_append_left _ h)))))) hown hK hP 81 rfl rfl 0 (by decide) (hts (.fieldLink RX11 194 "SagMemory$State" "memories" "[LSagMemory$Memory;") (wl_mem 9 rfl)) (fun _ h9 => h9) rfl dX11_sag_20 ?_
        refine lv_iload_n hx hb dX11_sag_23 rfl (lv_at hl 1 rfl) ?_
        rcases (show p1 = 0 ∨ p1 = 1 ∨ p1 = 2 by simp only [zi_eq]; show p1.toInt = 0 ∨ p1.toInt = 1 ∨ p1.toInt = 2; omega) with cz147 | cz147 | cz147
        · skip
          have zz148 : p1.toInt = (0 : Int) := zi_eq.mp cz147
          refine W.eq (g2 := F0 m 24 ls [.int 0, .ref (sY 6 1)]) (by rw [cz147]) ?_
          refine va_aldq hx hb hK hP 82 4 rfl rfl (by unfold vp_in; decide) dX11_sag_24 ?_
          refine W.eq (g2 := F0 m 25 ls [.ref (sY 6 2)]) rfl ?_
          have hPc := hP.sub (ws' := (List.flatten [(wMem (fun i => sY 6 (i + 2)) k (nY 6) (aY 6))])) [83, 84, 85] rfl
          refine vp_callSi (va_Run.run (va_runV (As := []) (rest := []) ⟨hx, hb, hml, hown, hts⟩ (c_X2_depth l dC dI k (fun i => sY 6 (i + 2)) (nY 6) (aY 6) (hnY 6)) (cwV 0 hts (gk_V (wl_mem 10 rfl) (wl_mem 11 rfl) (wl_mem 12 rfl) (wl_mem 13 rfl) (fun w h => List.mem_cons_of_mem _ (List.mem_append_right _ (List.mem_append_right _ (List.mem_append_right _ (List.mem_append_right _ (List.mem_append_right _ (List.mem_append_left _ h))))))) wkg_c_X2_depth) rfl rfl rfl (by decide +kernel) ⟨Nat.le_of_ble_eq_true rfl, Nat.le_of_ble_eq_true rfl⟩) ⟨fun a U g mk q => by obtain ⟨q0, qP, qK⟩ := q; exact ⟨q0, qP, va_K.moved (u := U) (U := U.calling g mk a) (Vm.Alike.refl U.vm) qK⟩, va_recv hK hPc (ci := 2) (q0 := 0) rfl rfl, fun U hU hW => ⟨rfl, by rw [hU]; exact hPc, va_K.moved hW.alike hK⟩⟩ rfl rfl hl.1 rfl (lv_room (Nat.le_of_ble_eq_true rfl)) dX11_sag_25 ⟨Nat.le_of_ble_eq_true rfl, Nat.le_of_ble_eq_true rfl⟩)) (fun rz150 gz149 => ?_)
          clear hPc
          rw [hQ]
          exact W.iret (v := rz150) hx hb hr (fun t ht hW => ⟨rz150, rfl, trivial, ht⟩) (fun _ h => absurd h List.not_mem_nil) dX11_sag_28
        · skip
          have zz151 : p1.toInt = (1 : Int) := zi_eq.mp cz147
          refine W.eq (g2 := F0 m 24 ls [.int 1, .ref (sY 6 1)]) (by rw [cz147]) ?_
          refine va_aldq hx hb hK hP 82 4 rfl rfl (by unfold vp_in; decide) dX11_sag_24 ?_
          refine W.eq (g2 := F0 m 25 ls [.ref (sY 6 5)]) rfl ?_
          have hPc := hP.sub (ws' := (List.flatten [(wMem (fun i => sY 6 (i + 5)) k (fun i => (nY 6) (i + 1)) (fun i => (aY 6) (i + 2)))])) [86, 87, 88] rfl
          refine vp_callSi (va_Run.run (va_runV (As := []) (rest := []) ⟨hx, hb, hml, hown, hts⟩ (c_X2_depth l dC dI k (fun i => sY 6 (i + 5)) (fun i => (nY 6) (i + 1)) (fun i => (aY 6) (i + 2)) (fun i => (hnY 6) (i + 1))) (cwV 0 hts (gk_V (wl_mem 10 rfl) (wl_mem 11 rfl) (wl_mem 12 rfl) (wl_mem 13 rfl) (fun w h => List.mem_cons_of_mem _ (List.mem_append_right _ (List.mem_append_right _ (List.mem_append_right _ (List.mem_append_right _ (List.mem_append_right _ (List.mem_append_left _ h))))))) wkg_c_X2_depth) rfl rfl rfl (by decide +kernel) ⟨Nat.le_of_ble_eq_true rfl, Nat.le_of_ble_eq_true rfl⟩) ⟨fun a U g mk q => by obtain ⟨q0, qP, qK⟩ := q; exact ⟨q0, qP, va_K.moved (u := U) (U := U.calling g mk a) (Vm.Alike.refl U.vm) qK⟩, va_recv hK hPc (ci := 2) (q0 := 0) rfl rfl, fun U hU hW => ⟨rfl, by rw [hU]; exact hPc, va_K.moved hW.alike hK⟩⟩ rfl rfl hl.1 rfl (lv_room (Nat.le_of_ble_eq_true rfl)) dX11_sag_25 ⟨Nat.le_of_ble_eq_true rfl, Nat.le_of_ble_eq_true rfl⟩)) (fun rz153 gz152 => ?_)
          clear hPc
          rw [hQ]
          exact W.iret (v := rz153) hx hb hr (fun t ht hW => ⟨rz153, rfl, trivial, ht⟩) (fun _ h => absurd h List.not_mem_nil) dX11_sag_28
        · skip
          have zz154 : p1.toInt = (2 : Int) := zi_eq.mp cz147
          refine W.eq (g2 := F0 m 24 ls [.int 2, .ref (sY 6 1)]) (by rw [cz147]) ?_
          refine va_aldq hx hb hK hP 82 4 rfl rfl (by unfold vp_in; decide) dX11_sag_24 ?_
          refine W.eq (g2 := F0 m 25 ls [.ref (sY 6 8)]) rfl ?_
          have hPc := hP.sub (ws' := (List.flatten [(wMem (fun i => sY 6 (i + 8)) k (fun i => (nY 6) (i + 2)) (fun i => (aY 6) (i + 4)))])) [89, 90, 91] rfl
          refine vp_callSi (va_Run.run (va_runV (As := []) (rest := []) ⟨hx, hb, hml, hown, hts⟩ (c_X2_depth l dC dI k (fun i => sY 6 (i + 8)) (fun i => (nY 6) (i + 2)) (fun i => (aY 6) (i + 4)) (fun i => (hnY 6) (i + 2))) (cwV 0 hts (gk_V (wl_mem 10 rfl) (wl_mem 11 rfl) (wl_mem 12 rfl) (wl_mem 13 rfl) (fun w h => List.mem_cons_of_mem _ (List.mem_append_right _ (List.mem_append_right _ (List.mem_append_right _ (List.mem_append_right _ (List.mem_append_right _ (List.mem_append_left _ h))))))) wkg_c_X2_depth) rfl rfl rfl (by decide +kernel) ⟨Nat.le_of_ble_eq_true rfl, Nat.le_of_ble_eq_true rfl⟩) ⟨fun a U g mk q => by obtain ⟨q0, qP, qK⟩ := q; exact ⟨q0, qP, va_K.moved (u := U) (U := U.calling g mk a) (Vm.Alike.refl U.vm) qK⟩, va_recv hK hPc (ci := 2) (q0 := 0) rfl rfl, fun U hU hW => ⟨rfl, by rw [hU]; exact hPc, va_K.moved hW.alike hK⟩⟩ rfl rfl hl.1 rfl (lv_room (Nat.le_of_ble_eq_true rfl)) dX11_sag_25 ⟨Nat.le_of_ble_eq_true rfl, Nat.le_of_ble_eq_true rfl⟩)) (fun rz156 gz155 => ?_)
          clear hPc
          rw [hQ]
          exact W.iret (v := rz156) hx hb hr (fun t ht hW => ⟨rz156, rfl, trivial, ht⟩) (fun _ h => absurd h List.not_mem_nil) dX11_sag_28
      · skip
        have zz157 : ¬ p2.toInt < (0 : Int) := fun h9 => cz73 (zi_lt.mpr h9)
        have zz158 : ¬ (7 : Int) ≤ p2.toInt := fun h9 => cz74 (zi_le.mpr h9)
        have zz159 : p2.toInt = (6 : Int) := zi_eq.mp cz75
        refine W.eq (g2 := F0 m 20 ls [.ref (sY 7 0)]) rfl ?_
        refine va_get (D := (dC, dI)) (ci := 7) (v := .ref (sY 7 1)) (C := RX7) (T := TX7) (N := 9) hx hb hts (fun w h => List.mem_cons_of_mem _ (List.mem_append_right _ (List.mem_append_right _ (List.mem_append_right _ (List.mem_append_right _ (List.mem_append_left _ h)))))) hown hK hP 92 rfl rfl 0 (by decide) (hts (.fieldLink RX11 194 "SagMemory$State" "memories" "[LSagMemory$Memory;") (wl_mem 9 rfl)) (fun _ h9 => h9) rfl dX11_sag_20 ?_
        refine lv_iload_n hx hb dX11_sag_23 rfl (lv_at hl 1 rfl) ?_
        rcases (show p1 = 0 ∨ p1 = 1 ∨ p1 = 2 by simp only [zi_eq]; show p1.toInt = 0 ∨ p1.toInt = 1 ∨ p1.toInt = 2; omega) with cz160 | cz160 | cz160
        · skip
          have zz161 : p1.toInt = (0 : Int) := zi_eq.mp cz160
          refine W.eq (g2 := F0 m 24 ls [.int 0, .ref (sY 7 1)]) (by rw [cz160]) ?_
          refine va_aldq hx hb hK hP 93 4 rfl rfl (by unfold vp_in; decide) dX11_sag_24 ?_
          refine W.eq (g2 := F0 m 25 ls [.ref (sY 7 2)]) rfl ?_
          have hPc := hP.sub (ws' := (List.flatten [(wMem (fun i => sY 7 (i + 2)) k (nY 7) (aY 7))])) [94, 95, 96] rfl
          refine vp_callSi (va_Run.run (va_runV (As := []) (rest := []) ⟨hx, hb, hml, hown, hts⟩ (c_X2_depth l dC dI k (fun i => sY 7 (i + 2)) (nY 7) (aY 7) (hnY 7)) (cwV 0 hts (gk_V (wl_mem 10 rfl) (wl_mem 11 rfl) (wl_mem 12 rfl) (wl_mem 13 rfl) (fun w h => List.mem_cons_of_mem _ (List.mem_append_right _ (List.mem_append_right _ (List.mem_append_right _ (List.mem_append_right _ (List.mem_append_right _ (List.mem_append_left _ h))))))) wkg_c_X2_depth) rfl rfl rfl (by decide +kernel) ⟨Nat.le_of_ble_eq_true rfl, Nat.le_of_ble_eq_true rfl⟩) ⟨fun a U g mk q => by obtain ⟨q0, qP, qK⟩ := q; exact ⟨q0, qP, va_K.moved (u := U) (U := U.calling g mk a) (Vm.Alike.refl U.vm) qK⟩, va_recv hK hPc (ci := 2) (q0 := 0) rfl rfl, fun U hU hW => ⟨rfl, by rw [hU]; exact hPc, va_K.moved hW.alike hK⟩⟩ rfl rfl hl.1 rfl (lv_room (Nat.le_of_ble_eq_true rfl)) dX11_sag_25 ⟨Nat.le_of_ble_eq_true rfl, Nat.le_of_ble_eq_true rfl⟩)) (fun rz163 gz162 => ?_)
          clear hPc
          rw [hQ]
          exact W.iret (v := rz163) hx hb hr (fun t ht hW => ⟨rz163, rfl, trivial, ht⟩) (fun _ h => absurd h List.not_mem_nil) dX11_sag_28
        · skip
          have zz164 : p1.toInt = (1 : Int) := zi_eq.mp cz160
          refine W.eq (g2 := F0 m 24 ls [.int 1, .ref (sY 7 1)]) (by rw [cz160]) ?_
          refine va_aldq hx hb hK hP 93 4 rfl rfl (by unfold vp_in; decide) dX11_sag_24 ?_
          refine W.eq (g2 := F0 m 25 ls [.ref (sY 7 5)]) rfl ?_
          have hPc := hP.sub (ws' := (List.flatten [(wMem (fun i => sY 7 (i + 5)) k (fun i => (nY 7) (i + 1)) (fun i => (aY 7) (i + 2)))])) [97, 98, 99] rfl
          refine vp_callSi (va_Run.run (va_runV (As := []) (rest := []) ⟨hx, hb, hml, hown, hts⟩ (c_X2_depth l dC dI k (fun i => sY 7 (i + 5)) (fun i => (nY 7) (i + 1)) (fun i => (aY 7) (i + 2)) (fun i => (hnY 7) (i + 1))) (cwV 0 hts (gk_V (wl_mem 10 rfl) (wl_mem 11 rfl) (wl_mem 12 rfl) (wl_mem 13 rfl) (fun w h => List.mem_cons_of_mem _ (List.mem_append_right _ (List.mem_append_right _ (List.mem_append_right _ (List.mem_append_right _ (List.mem_append_right _ (List.mem_append_left _ h))))))) wkg_c_X2_depth) rfl rfl rfl (by decide +kernel) ⟨Nat.le_of_ble_eq_true rfl, Nat.le_of_ble_eq_true rfl⟩) ⟨fun a U g mk q => by obtain ⟨q0, qP, qK⟩ := q; exact ⟨q0, qP, va_K.moved (u := U) (U := U.calling g mk a) (Vm.Alike.refl U.vm) qK⟩, va_recv hK hPc (ci := 2) (q0 := 0) rfl rfl, fun U hU hW => ⟨rfl, by rw [hU]; exact hPc, va_K.moved hW.alike hK⟩⟩ rfl rfl hl.1 rfl (lv_room (Nat.le_of_ble_eq_true rfl)) dX11_sag_25 ⟨Nat.le_of_ble_eq_true rfl, Nat.le_of_ble_eq_true rfl⟩)) (fun rz166 gz165 => ?_)
          clear hPc
          rw [hQ]
          exact W.iret (v := rz166) hx hb hr (fun t ht hW => ⟨rz166, rfl, trivial, ht⟩) (fun _ h => absurd h List.not_mem_nil) dX11_sag_28
        · skip
          have zz167 : p1.toInt = (2 : Int) := zi_eq.mp cz160
          refine W.eq (g2 := F0 m 24 ls [.int 2, .ref (sY 7 1)]) (by rw [cz160]) ?_
          refine va_aldq hx hb hK hP 93 4 rfl rfl (by unfold vp_in; decide) dX11_sag_24 ?_
          refine W.eq (g2 := F0 m 25 ls [.ref (sY 7 8)]) rfl ?_
          have hPc := hP.sub (ws' := (List.flatten [(wMem (fun i => sY 7 (i + 8)) k (fun i => (nY 7) (i + 2)) (fun i => (aY 7) (i + 4)))])) [100, 101, 102] rfl
          refine vp_callSi (va_Run.run (va_runV (As := []) (rest := []) ⟨hx, hb, hml, hown, hts⟩ (c_X2_depth l dC dI k (fun i => sY 7 (i + 8)) (fun i => (nY 7) (i + 2)) (fun i => (aY 7) (i + 4)) (fun i => (hnY 7) (i + 2))) (cwV 0 hts (gk_V (wl_mem 10 rfl) (wl_mem 11 rfl) (wl_mem 12 rfl) (wl_mem 13 rfl) (fun w h => List.mem_cons_of_mem _ (List.mem_append_right _ (List.mem_append_right _ (List.mem_append_right _ (List.mem_append_right _ (List.mem_append_right _ (List.mem_append_left _ h))))))) wkg_c_X2_depth) rfl rfl rfl (by decide +kernel) ⟨Nat.le_of_ble_eq_true rfl, Nat.le_of_ble_eq_true rfl⟩) ⟨fun a U g mk q => by obtain ⟨q0, qP, qK⟩ := q; exact ⟨q0, qP, va_K.moved (u := U) (U := U.calling g mk a) (Vm.Alike.refl U.vm) qK⟩, va_recv hK hPc (ci := 2) (q0 := 0) rfl rfl, fun U hU hW => ⟨rfl, by rw [hU]; exact hPc, va_K.moved hW.alike hK⟩⟩ rfl rfl hl.1 rfl (lv_room (Nat.le_of_ble_eq_true rfl)) dX11_sag_25 ⟨Nat.le_of_ble_eq_true rfl, Nat.le_of_ble_eq_true rfl⟩)) (fun rz169 gz168 => ?_)
          clear hPc
          rw [hQ]
          exact W.iret (v := rz169) hx hb hr (fun t ht hW => ⟨rz169, rfl, trivial, ht⟩) (fun _ h => absurd h List.not_mem_nil) dX11_sag_28
    · skip
      exact absurd cz49 (by decide)
def wk_c_X11_all : List Cond := .code yX11_all cX11_all 2 (some .int) :: ([.fieldLink RX11 19 "SagMemory" "told" "LSagMemory$Valley;", .methodLink RX11 141 yX10_hasCart, .instanceMethod yX10_hasCart, .selects RX10 yX10_hasCart yX10_hasCart, .initialized RX10, .fieldLink RX11 45 "SagMemory" "story" "LSagMemory$Story;", .methodLink RX11 165 yX8_behind, .instanceMethod yX8_behind, .selects RX8 yX8_behind yX8_behind, .initialized RX8, .methodLink RX11 209 yX7_together, .instanceMethod yX7_together, .selects RX7 yX7_together yX7_together, .initialized RX7] ++ (wsX110 ++ (wk_c_X10_hasCart ++ (wk_c_X8_behind ++ (wk_c_X7_together ++ [])))))
theorem wkg_c_X11_all : wk_c_X11_all.all goodWord = true := by decide +kernel
set_option maxHeartbeats 4000000 in
set_option maxRecDepth 100000 in
theorem c_X11_all (l : Launch) (dC : Nat → ClassId) (dI : Nat → Nat → Nat) (k : Nat → ClassId) (qX : Nat → Nat) (tapeX : Nat) (actsX : Nat) (nowX : Nat) (trialX : Nat) (attemptX : Nat) (orderSearchX : Nat) (routeSearchX : Nat) (setSearchX : Nat) (probeX : Nat) (slot0X : Nat) (slot1X : Nat) (slot2X : Nat) (slot3X : Nat) (image0X : Nat) (image1X : Nat) (image2X : Nat) (aX : Nat → Nat → Int32) (qV : Nat → Nat) (vV : Nat → Int32) (bV : Nat → Int32) (cV : Nat → Int32) (wV : Nat → Int32) (aV : Nat → Nat → Int32) (eV : Nat → Nat → Int32) (qY : Nat → Nat) (sY : Nat → Nat → Nat) (planY : Nat) (vY : Nat → Nat → Int32) (nY : Nat → Nat → Int32) (aY : Nat → Nat → Nat → Int32) (p1 : Int32) (hbV : Rg 0 3 bV) (hcV : Rg 0 7 cV) (hwV : Rg 0 5 wV) (heV : RgA 0 99 eV) (hnY : ∀ t9, Rg 0 8 (nY t9)) : Met l yX11_all wk_c_X11_all ({ frames := 2, cells := 0, slots := 0, locals := 44 }) (va_Pc [.ref (qX 0), .int p1] (fun U => va_P (dC, dI) vwCl (List.flatten [(wSag qX k tapeX (qV 0) actsX nowX trialX (qY 0) attemptX orderSearchX routeSearchX setSearchX probeX slot0X slot1X slot2X slot3X image0X image1X image2X aX), (wValley qV k vV bV cV wV aV eV), (wStoO qY k (qV 0) planY (sY 0 0) (sY 1 0) (sY 2 0) (sY 3 0) (sY 4 0) (sY 5 0) (sY 6 0) (sY 7 0)), (wState (sY 0) k (vY 0) (nY 0) (aY 0)), (wState (sY 1) k (vY 1) (nY 1) (aY 1)), (wState (sY 2) k (vY 2) (nY 2) (aY 2)), (wState (sY 3) k (vY 3) (nY 3) (aY 3)), (wState (sY 4) k (vY 4) (nY 4) (aY 4)), (wState (sY 5) k (vY 5) (nY 5) (aY 5)), (wState (sY 6) k (vY 6) (nY 6) (aY 6)), (wState (sY 7) k (vY 7) (nY 7) (aY 7))]) U.heap ∧ va_K (dC, dI) vwCl (tK k) U)) (vp_Si (fun r : Int32 => True)) 0 0 (fun _ => False) := by
  refine Met.ofW (cc := cX11_all) (maxL := 2) (ret := (some .int)) (by decide) rfl ?_
  intro p e s m args below meth c s₁ B hml hv
  obtain ⟨rfl, hP, hK⟩ := hv
  have hx := B.exec
  have hb := B.bytes
  have hr := B.returns
  have hts := atoms_spec (ws := wk_c_X11_all) B.pre
  have hown : s.vm.findClass RX11 = some m.cls := findClass_of_methodNamed B.named
  have hlocks := B.notSynchronized
  have hP : va_P (dC, dI) vwCl (List.flatten [(wSag qX k tapeX (qV 0) actsX nowX trialX (qY 0) attemptX orderSearchX routeSearchX setSearchX probeX slot0X slot1X slot2X slot3X image0X image1X image2X aX), (wValley qV k vV bV cV wV aV eV), (wStoO qY k (qV 0) planY (sY 0 0) (sY 1 0) (sY 2 0) (sY 3 0) (sY 4 0) (sY 5 0) (sY 6 0) (sY 7 0)), (wState (sY 0) k (vY 0) (nY 0) (aY 0)), (wState (sY 1) k (vY 1) (nY 1) (aY 1)), (wState (sY 2) k (vY 2) (nY 2) (aY 2)), (wState (sY 3) k (vY 3) (nY 3) (aY 3)), (wState (sY 4) k (vY 4) (nY 4) (aY 4)), (wState (sY 5) k (vY 5) (nY 5) (aY 5)), (wState (sY 6) k (vY 6) (nY 6) (aY 6)), (wState (sY 7) k (vY 7) (nY 7) (aY 7))]) s.heap := hP
  have hl := lv_entry ([.ref (qX 0), .int p1]) (n := 2) (Nat.le_of_ble_eq_true rfl)
  rw [lg_entry_eq]
  generalize (lg_sl ([.ref (qX 0), .int p1]) ++ List.replicate (2 - (lg_sl ([.ref (qX 0), .int p1])).length) Slot.unset).toArray = ls at hl ⊢
  have hl : lv_has ls 2 [(0, .ref (qX 0)), (1, .int p1)] := hl
  refine w_gen (fun Q hQ => ?_)
  refine lv_aload_n hx hb dX11_all_0 rfl (lv_at hl 0 rfl) ?_
  refine va_get (D := (dC, dI)) (ci := 11) (v := .ref (qV 0)) (C := RX11) (T := TX11) (N := 15) hx hb hts (fun w h => List.mem_cons_of_mem _ (List.mem_append_right _ (List.mem_append_left _ h))) hown hK hP 0 rfl rfl 1 (by decide) (hts (.fieldLink RX11 19 "SagMemory" "told" "LSagMemory$Valley;") (wl_mem 0 rfl)) (fun _ h9 => h9) rfl dX11_all_1 ?_
  refine lv_iload_n hx hb dX11_all_4 rfl (lv_at hl 1 rfl) ?_
  have hPc := hP.sub (ws' := (List.flatten [(wValley qV k vV bV cV wV aV eV)])) [5, 6, 7, 8, 9, 10, 11, 12] rfl
  refine vp_callSi (va_Run.run (va_runV (As := [.int p1]) (rest := []) ⟨hx, hb, hml, hown, hts⟩ (c_X10_hasCart l dC dI k qV vV bV cV wV aV eV p1 hbV hcV hwV heV) (cwV 1 hts (gk_V (wl_mem 1 rfl) (wl_mem 2 rfl) (wl_mem 3 rfl) (wl_mem 4 rfl) (fun w h => List.mem_cons_of_mem _ (List.mem_append_right _ (List.mem_append_right _ (List.mem_append_left _ h)))) wkg_c_X10_hasCart) rfl rfl rfl (by decide +kernel) ⟨Nat.le_of_ble_eq_true rfl, Nat.le_of_ble_eq_true rfl⟩) ⟨fun a U g mk q => by obtain ⟨q0, qP, qK⟩ := q; exact ⟨q0, qP, va_K.moved (u := U) (U := U.calling g mk a) (Vm.Alike.refl U.vm) qK⟩, va_recv hK hPc (ci := 10) (q0 := 0) rfl rfl, fun U hU hW => ⟨rfl, by rw [hU]; exact hPc, va_K.moved hW.alike hK⟩⟩ rfl rfl hl.1 rfl (lv_room (Nat.le_of_ble_eq_true rfl)) dX11_all_5 ⟨Nat.le_of_ble_eq_true rfl, Nat.le_of_ble_eq_true rfl⟩)) (fun rz2 gz1 => ?_)
  clear hPc
  rcases gz1 with ⟨er, cz3⟩ | ⟨er, cz4, cz5⟩ | ⟨er, cz6, cz7⟩
  · obtain rfl := er.symm
    have bz8 := fb_rng p1
    have zz9 : p1.toInt < (0 : Int) := zi_lt.mp cz3
    refine lv_if_eq (tgt := 25) hx hb dX11_all_8 (by decide) (fun cz10 => ?_) (fun cz10 => ?_)
    · skip
      refine lv_bipush (v := (-2)) hx hb dX11_all_25 (by decide) ?_
      rw [hQ]
      exact W.iret (v := (-2 : Int32)) hx hb hr (fun t ht hW => ⟨(-2 : Int32), rfl, trivial, ht⟩) (fun _ h => absurd h List.not_mem_nil) dX11_all_27
    · skip
      exact absurd cz10 (by decide)
  · obtain rfl := er.symm
    have bz11 := fb_rng p1
    have zz12 : ¬ p1.toInt < (0 : Int) := fun h9 => cz4 (zi_lt.mpr h9)
    have bz13 := hcV 0
    have zz14 : (cV 0).toInt ≤ p1.toInt := zi_le.mp cz5
    refine lv_if_eq (tgt := 25) hx hb dX11_all_8 (by decide) (fun cz15 => ?_) (fun cz15 => ?_)
    · skip
      refine lv_bipush (v := (-2)) hx hb dX11_all_25 (by decide) ?_
      rw [hQ]
      exact W.iret (v := (-2 : Int32)) hx hb hr (fun t ht hW => ⟨(-2 : Int32), rfl, trivial, ht⟩) (fun _ h => absurd h List.not_mem_nil) dX11_all_27
    · skip
      exact absurd cz15 (by decide)
  · obtain rfl := er.symm
    have bz16 := fb_rng p1
    have zz17 : ¬ p1.toInt < (0 : Int) := fun h9 => cz6 (zi_lt.mpr h9)
    have bz18 := hcV 0
    have zz19 : ¬ (cV 0).toInt ≤ p1.toInt := fun h9 => cz7 (zi_le.mpr h9)
    refine lv_if_eq (tgt := 25) hx hb dX11_all_8 (by decide) (fun cz20 => ?_) (fun cz20 => ?_)
    · skip
      exact absurd cz20 (by decide)
    · skip
      refine lv_aload_n hx hb dX11_all_11 rfl (lv_at hl 0 rfl) ?_
      refine va_get (D := (dC, dI)) (ci := 11) (v := .ref (qY 0)) (C := RX11) (T := TX11) (N := 15) hx hb hts (fun w h => List.mem_cons_of_mem _ (List.mem_append_right _ (List.mem_append_left _ h))) hown hK hP 0 rfl rfl 5 (by decide) (hts (.fieldLink RX11 45 "SagMemory" "story" "LSagMemory$Story;") (wl_mem 5 rfl)) (fun _ h9 => h9) rfl dX11_all_12 ?_
      refine lv_iload_n hx hb dX11_all_15 rfl (lv_at hl 1 rfl) ?_
      have hPc : va_P (dC, dI) vwCl (List.flatten [(wStoO qY k (qV 0) planY (sY 0 0) (sY 1 0) (sY 2 0) (sY 3 0) (sY 4 0) (sY 5 0) (sY 6 0) (sY 7 0)), (wState (sY 0) k (vY 0) (nY 0) (aY 0)), (wState (sY 1) k (vY 1) (nY 1) (aY 1)), (wState (sY 2) k (vY 2) (nY 2) (aY 2)), (wState (sY 3) k (vY 3) (nY 3) (aY 3)), (wState (sY 4) k (vY 4) (nY 4) (aY 4)), (wState (sY 5) k (vY 5) (nY 5) (aY 5)), (wState (sY 6) k (vY 6) (nY 6) (aY 6)), (wState (sY 7) k (vY 7) (nY 7) (aY 7))]) s.heap := wc_subP0 hP [2, 3, 4, 5, 6, 7, 8, 9, 10] rfl
      refine va_csr (va_Run.run (va_runV (As := [.int p1]) (rest := []) ⟨hx, hb, hml, hown, hts⟩ (c_X8_behind l dC dI k qY sY (qV 0) planY vY nY aY p1 hnY) (cwV 1 hts (gk_V (wl_mem 6 rfl) (wl_mem 7 rfl) (wl_mem 8 rfl) (wl_mem 9 rfl) (fun w h => List.mem_cons_of_mem _ (List.mem_append_right _ (List.mem_append_right _ (List.mem_append_right _ (List.mem_append_left _ h))))) wkg_c_X8_behind) rfl rfl rfl (by decide +kernel) ⟨Nat.le_of_ble_eq_true rfl, Nat.le_of_ble_eq_true rfl⟩) ⟨fun a U g mk q => by obtain ⟨q0, qP, qK⟩ := q; exact ⟨q0, qP, va_K.moved (u := U) (U := U.calling g mk a) (Vm.Alike.refl U.vm) qK⟩, va_recv hK hPc (ci := 8) (q0 := 0) rfl rfl, fun U hU hW => ⟨rfl, by rw [hU]; exact hPc, va_K.moved hW.alike hK⟩⟩ rfl rfl hl.1 rfl (lv_room (Nat.le_of_ble_eq_true rfl)) dX11_all_16 ⟨Nat.le_of_ble_eq_true rfl, Nat.le_of_ble_eq_true rfl⟩)) (fun rz22 gz21 => ?_)
      clear hPc
      rcases gz21 with ⟨rfl, cz23⟩ | ⟨rfl, cz24, cz25⟩ | ⟨rfl, cz26, cz27, cz28⟩ | ⟨rfl, cz29, cz30, cz31⟩ | ⟨rfl, cz32, cz33, cz34⟩ | ⟨rfl, cz35, cz36, cz37⟩ | ⟨rfl, cz38, cz39, cz40⟩ | ⟨rfl, cz41, cz42, cz43⟩ | ⟨rfl, cz44, cz45, cz46⟩
      · skip
        have zz47 : p1.toInt < (0 : Int) := zi_lt.mp cz23
        omega
      · skip
        have zz48 : ¬ p1.toInt < (0 : Int) := fun h9 => cz24 (zi_lt.mpr h9)
        have zz49 : (7 : Int) ≤ p1.toInt := zi_le.mp cz25
        omega
      · skip
        have zz50 : ¬ p1.toInt < (0 : Int) := fun h9 => cz26 (zi_lt.mpr h9)
        have zz51 : ¬ (7 : Int) ≤ p1.toInt := fun h9 => cz27 (zi_le.mpr h9)
        have zz52 : p1.toInt = (0 : Int) := zi_eq.mp cz28
        refine W.eq (g2 := F0 m 19 ls [.ref (sY 1 0)]) rfl ?_
        have hPc := hP.sub (ws' := (List.flatten [(wState (sY 1) k (vY 1) (nY 1) (aY 1))])) [26, 27, 28, 29, 30, 31, 32, 33, 34, 35, 36] rfl
        refine vp_callSi (va_Run.run (va_runV (As := []) (rest := []) ⟨hx, hb, hml, hown, hts⟩ (c_X7_together l dC dI k (sY 1) (vY 1) (nY 1) (aY 1) (hnY 1)) (cwV 0 hts (gk_V (wl_mem 10 rfl) (wl_mem 11 rfl) (wl_mem 12 rfl) (wl_mem 13 rfl) (fun w h => List.mem_cons_of_mem _ (List.mem_append_right _ (List.mem_append_right _ (List.mem_append_right _ (List.mem_append_right _ (List.mem_append_left _ h)))))) wkg_c_X7_together) rfl rfl rfl (by decide +kernel) ⟨Nat.le_of_ble_eq_true rfl, Nat.le_of_ble_eq_true rfl⟩) ⟨fun a U g mk q => by obtain ⟨q0, qP, qK⟩ := q; exact ⟨q0, qP, va_K.moved (u := U) (U := U.calling g mk a) (Vm.Alike.refl U.vm) qK⟩, va_recv hK hPc (ci := 7) (q0 := 0) rfl rfl, fun U hU hW => ⟨rfl, by rw [hU]; exact hPc, va_K.moved hW.alike hK⟩⟩ rfl rfl hl.1 rfl (lv_room (Nat.le_of_ble_eq_true rfl)) dX11_all_19 ⟨Nat.le_of_ble_eq_true rfl, Nat.le_of_ble_eq_true rfl⟩)) (fun rz54 gz53 => ?_)
        clear hPc
        refine lv_goto (tgt := 27) hx hb dX11_all_22 (by decide) ?_
        rw [hQ]
        exact W.iret (v := rz54) hx hb hr (fun t ht hW => ⟨rz54, rfl, trivial, ht⟩) (fun _ h => absurd h List.not_mem_nil) dX11_all_27
      · skip
        have zz55 : ¬ p1.toInt < (0 : Int) := fun h9 => cz29 (zi_lt.mpr h9)
        have zz56 : ¬ (7 : Int) ≤ p1.toInt := fun h9 => cz30 (zi_le.mpr h9)
        have zz57 : p1.toInt = (1 : Int) := zi_eq.mp cz31
        refine W.eq (g2 := F0 m 19 ls [.ref (sY 2 0)]) rfl ?_
        have hPc := hP.sub (ws' := (List.flatten [(wState (sY 2) k (vY 2) (nY 2) (aY 2))])) [37, 38, 39, 40, 41, 42, 43, 44, 45, 46, 47] rfl
        refine vp_callSi (va_Run.run (va_runV (As := []) (rest := []) ⟨hx, hb, hml, hown, hts⟩ (c_X7_together l dC dI k (sY 2) (vY 2) (nY 2) (aY 2) (hnY 2)) (cwV 0 hts (gk_V (wl_mem 10 rfl) (wl_mem 11 rfl) (wl_mem 12 rfl) (wl_mem 13 rfl) (fun w h => List.mem_cons_of_mem _ (List.mem_append_right _ (List.mem_append_right _ (List.mem_append_right _ (List.mem_append_right _ (List.mem_append_left _ h)))))) wkg_c_X7_together) rfl rfl rfl (by decide +kernel) ⟨Nat.le_of_ble_eq_true rfl, Nat.le_of_ble_eq_true rfl⟩) ⟨fun a U g mk q => by obtain ⟨q0, qP, qK⟩ := q; exact ⟨q0, qP, va_K.moved (u := U) (U := U.calling g mk a) (Vm.Alike.refl U.vm) qK⟩, va_recv hK hPc (ci := 7) (q0 := 0) rfl rfl, fun U hU hW => ⟨rfl, by rw [hU]; exact hPc, va_K.moved hW.alike hK⟩⟩ rfl rfl hl.1 rfl (lv_room (Nat.le_of_ble_eq_true rfl)) dX11_all_19 ⟨Nat.le_of_ble_eq_true rfl, Nat.le_of_ble_eq_true rfl⟩)) (fun rz59 gz58 => ?_)
        clear hPc
        refine lv_goto (tgt := 27) hx hb dX11_all_22 (by decide) ?_
        rw [hQ]
        exact W.iret (v := rz59) hx hb hr (fun t ht hW => ⟨rz59, rfl, trivial, ht⟩) (fun _ h => absurd h List.not_mem_nil) dX11_all_27
      · skip
        have zz60 : ¬ p1.toInt < (0 : Int) := fun h9 => cz32 (zi_lt.mpr h9)
        have zz61 : ¬ (7 : Int) ≤ p1.toInt := fun h9 => cz33 (zi_le.mpr h9)
        have zz62 : p1.toInt = (2 : Int) := zi_eq.mp cz34
        refine W.eq (g2 := F0 m 19 ls [.ref (sY 3 0)]) rfl ?_
        have hPc := hP.sub (ws' := (List.flatten [(wState (sY 3) k (vY 3) (nY 3) (aY 3))])) [48, 49, 50, 51, 52, 53, 54, 55, 56, 57, 58] rfl
        refine vp_callSi (va_Run.run (va_runV (As := []) (rest := []) ⟨hx, hb, hml, hown, hts⟩ (c_X7_together l dC dI k (sY 3) (vY 3) (nY 3) (aY 3) (hnY 3)) (cwV 0 hts (gk_V (wl_mem 10 rfl) (wl_mem 11 rfl) (wl_mem 12 rfl) (wl_mem 13 rfl) (fun w h => List.mem_cons_of_mem _ (List.mem_append_right _ (List.mem_append_right _ (List.mem_append_right _ (List.mem_append_right _ (List.mem_append_left _ h)))))) wkg_c_X7_together) rfl rfl rfl (by decide +kernel) ⟨Nat.le_of_ble_eq_true rfl, Nat.le_of_ble_eq_true rfl⟩) ⟨fun a U g mk q => by obtain ⟨q0, qP, qK⟩ := q; exact ⟨q0, qP, va_K.moved (u := U) (U := U.calling g mk a) (Vm.Alike.refl U.vm) qK⟩, va_recv hK hPc (ci := 7) (q0 := 0) rfl rfl, fun U hU hW => ⟨rfl, by rw [hU]; exact hPc, va_K.moved hW.alike hK⟩⟩ rfl rfl hl.1 rfl (lv_room (Nat.le_of_ble_eq_true rfl)) dX11_all_19 ⟨Nat.le_of_ble_eq_true rfl, Nat.le_of_ble_eq_true rfl⟩)) (fun rz64 gz63 => ?_)
        clear hPc
        refine lv_goto (tgt := 27) hx hb dX11_all_22 (by decide) ?_
        rw [hQ]
        exact W.iret (v := rz64) hx hb hr (fun t ht hW => ⟨rz64, rfl, trivial, ht⟩) (fun _ h => absurd h List.not_mem_nil) dX11_all_27
      · skip
        have zz65 : ¬ p1.toInt < (0 : Int) := fun h9 => cz35 (zi_lt.mpr h9)
        have zz66 : ¬ (7 : Int) ≤ p1.toInt := fun h9 => cz36 (zi_le.mpr h9)
        have zz67 : p1.toInt = (3 : Int) := zi_eq.mp cz37
        refine W.eq (g2 := F0 m 19 ls [.ref (sY 4 0)]) rfl ?_
        have hPc := hP.sub (ws' := (List.flatten [(wState (sY 4) k (vY 4) (nY 4) (aY 4))])) [59, 60, 61, 62, 63, 64, 65, 66, 67, 68, 69] rfl
        refine vp_callSi (va_Run.run (va_runV (As := []) (rest := []) ⟨hx, hb, hml, hown, hts⟩ (c_X7_together l dC dI k (sY 4) (vY 4) (nY 4) (aY 4) (hnY 4)) (cwV 0 hts (gk_V (wl_mem 10 rfl) (wl_mem 11 rfl) (wl_mem 12 rfl) (wl_mem 13 rfl) (fun w h => List.mem_cons_of_mem _ (List.mem_append_right _ (List.mem_append_right _ (List.mem_append_right _ (List.mem_append_right _ (List.mem_append_left _ h)))))) wkg_c_X7_together) rfl rfl rfl (by decide +kernel) ⟨Nat.le_of_ble_eq_true rfl, Nat.le_of_ble_eq_true rfl⟩) ⟨fun a U g mk q => by obtain ⟨q0, qP, qK⟩ := q; exact ⟨q0, qP, va_K.moved (u := U) (U := U.calling g mk a) (Vm.Alike.refl U.vm) qK⟩, va_recv hK hPc (ci := 7) (q0 := 0) rfl rfl, fun U hU hW => ⟨rfl, by rw [hU]; exact hPc, va_K.moved hW.alike hK⟩⟩ rfl rfl hl.1 rfl (lv_room (Nat.le_of_ble_eq_true rfl)) dX11_all_19 ⟨Nat.le_of_ble_eq_true rfl, Nat.le_of_ble_eq_true rfl⟩)) (fun rz69 gz68 => ?_)
        clear hPc
        refine lv_goto (tgt := 27) hx hb dX11_all_22 (by decide) ?_
        rw [hQ]
        exact W.iret (v := rz69) hx hb hr (fun t ht hW => ⟨rz69, rfl, trivial, ht⟩) (fun _ h => absurd h List.not_mem_nil) dX11_all_27
      · skip
        have zz70 : ¬ p1.toInt < (0 : Int) := fun h9 => cz38 (zi_lt.mpr h9)
        have zz71 : ¬ (7 : Int) ≤ p1.toInt := fun h9 => cz39 (zi_le.mpr h9)
        have zz72 : p1.toInt = (4 : Int) := zi_eq.mp cz40
        refine W.eq (g2 := F0 m 19 ls [.ref (sY 5 0)]) rfl ?_
        have hPc := hP.sub (ws' := (List.flatten [(wState (sY 5) k (vY 5) (nY 5) (aY 5))])) [70, 71, 72, 73, 74, 75, 76, 77, 78, 79, 80] rfl
        refine vp_callSi (va_Run.run (va_runV (As := []) (rest := []) ⟨hx, hb, hml, hown, hts⟩ (c_X7_together l dC dI k (sY 5) (vY 5) (nY 5) (aY 5) (hnY 5)) (cwV 0 hts (gk_V (wl_mem 10 rfl) (wl_mem 11 rfl) (wl_mem 12 rfl) (wl_mem 13 rfl) (fun w h => List.mem_cons_of_mem _ (List.mem_append_right _ (List.mem_append_right _ (List.mem_append_right _ (List.mem_append_right _ (List.mem_append_left _ h)))))) wkg_c_X7_together) rfl rfl rfl (by decide +kernel) ⟨Nat.le_of_ble_eq_true rfl, Nat.le_of_ble_eq_true rfl⟩) ⟨fun a U g mk q => by obtain ⟨q0, qP, qK⟩ := q; exact ⟨q0, qP, va_K.moved (u := U) (U := U.calling g mk a) (Vm.Alike.refl U.vm) qK⟩, va_recv hK hPc (ci := 7) (q0 := 0) rfl rfl, fun U hU hW => ⟨rfl, by rw [hU]; exact hPc, va_K.moved hW.alike hK⟩⟩ rfl rfl hl.1 rfl (lv_room (Nat.le_of_ble_eq_true rfl)) dX11_all_19 ⟨Nat.le_of_ble_eq_true rfl, Nat.le_of_ble_eq_true rfl⟩)) (fun rz74 gz73 => ?_)
        clear hPc
        refine lv_goto (tgt := 27) hx hb dX11_all_22 (by decide) ?_
        rw [hQ]
        exact W.iret (v := rz74) hx hb hr (fun t ht hW => ⟨rz74, rfl, trivial, ht⟩) (fun _ h => absurd h List.not_mem_nil) dX11_all_27
      · skip
        have zz75 : ¬ p1.toInt < (0 : Int) := fun h9 => cz41 (zi_lt.mpr h9)
        have zz76 : ¬ (7 : Int) ≤ p1.toInt := fun h9 => cz42 (zi_le.mpr h9)
        have zz77 : p1.toInt = (5 : Int) := zi_eq.mp cz43
        refine W.eq (g2 := F0 m 19 ls [.ref (sY 6 0)]) rfl ?_
        have hPc := hP.sub (ws' := (List.flatten [(wState (sY 6) k (vY 6) (nY 6) (aY 6))])) [81, 82, 83, 84, 85, 86, 87, 88, 89, 90, 91] rfl
        refine vp_callSi (va_Run.run (va_runV (As := []) (rest := []) ⟨hx, hb, hml, hown, hts⟩ (c_X7_together l dC dI k (sY 6) (vY 6) (nY 6) (aY 6) (hnY 6)) (cwV 0 hts (gk_V (wl_mem 10 rfl) (wl_mem 11 rfl) (wl_mem 12 rfl) (wl_mem 13 rfl) (fun w h => List.mem_cons_of_mem _ (List.mem_append_right _ (List.mem_append_right _ (List.mem_append_right _ (List.mem_append_right _ (List.mem_append_left _ h)))))) wkg_c_X7_together) rfl rfl rfl (by decide +kernel) ⟨Nat.le_of_ble_eq_true rfl, Nat.le_of_ble_eq_true rfl⟩) ⟨fun a U g mk q => by obtain ⟨q0, qP, qK⟩ := q; exact ⟨q0, qP, va_K.moved (u := U) (U := U.calling g mk a) (Vm.Alike.refl U.vm) qK⟩, va_recv hK hPc (ci := 7) (q0 := 0) rfl rfl, fun U hU hW => ⟨rfl, by rw [hU]; exact hPc, va_K.moved hW.alike hK⟩⟩ rfl rfl hl.1 rfl (lv_room (Nat.le_of_ble_eq_true rfl)) dX11_all_19 ⟨Nat.le_of_ble_eq_true rfl, Nat.le_of_ble_eq_true rfl⟩)) (fun rz79 gz78 => ?_)
        clear hPc
        refine lv_goto (tgt := 27) hx hb dX11_all_22 (by decide) ?_
        rw [hQ]
        exact W.iret (v := rz79) hx hb hr (fun t ht hW => ⟨rz79, rfl, trivial, ht⟩) (fun _ h => absurd h List.not_mem_nil) dX11_all_27
      · skip
        have zz80 : ¬ p1.toInt < (0 : Int) := fun h9 => cz44 (zi_lt.mpr h9)
        have zz81 : ¬ (7 : Int) ≤ p1.toInt := fun h9 => cz45 (zi_le.mpr h9)
        have zz82 : p1.toInt = (6 : Int) := zi_eq.mp cz46
        refine W.eq (g2 := F0 m 19 ls [.ref (sY 7 0)]) rfl ?_
        have hPc := hP.sub (ws' := (List.flatten [(wState (sY 7) k (vY 7) (nY 7) (aY 7))])) [92, 93, 94, 95, 96, 97, 98, 99, 100, 101, 102] rfl
        refine vp_callSi (va_Run.run (va_runV (As := []) (rest := []) ⟨hx, hb, hml, hown, hts⟩ (c_X7_together l dC dI k (sY 7) (vY 7) (nY 7) (aY 7) (hnY 7)) (cwV 0 hts (gk_V (wl_mem 10 rfl) (wl_mem 11 rfl) (wl_mem 12 rfl) (wl_mem 13 rfl) (fun w h => List.mem_cons_of_mem _ (List.mem_append_right _ (List.mem_append_right _ (List.mem_append_right _ (List.mem_append_right _ (List.mem_append_left _ h)))))) wkg_c_X7_together) rfl rfl rfl (by decide +kernel) ⟨Nat.le_of_ble_eq_true rfl, Nat.le_of_ble_eq_true rfl⟩) ⟨fun a U g mk q => by obtain ⟨q0, qP, qK⟩ := q; exact ⟨q0, qP, va_K.moved (u := U) (U := U.calling g mk a) (Vm.Alike.refl U.vm) qK⟩, va_recv hK hPc (ci := 7) (q0 := 0) rfl rfl, fun U hU hW => ⟨rfl, by rw [hU]; exact hPc, va_K.moved hW.alike hK⟩⟩ rfl rfl hl.1 rfl (lv_room (Nat.le_of_ble_eq_true rfl)) dX11_all_19 ⟨Nat.le_of_ble_eq_true rfl, Nat.le_of_ble_eq_true rfl⟩)) (fun rz84 gz83 => ?_)
        clear hPc
        refine lv_goto (tgt := 27) hx hb dX11_all_22 (by decide) ?_
        rw [hQ]
        exact W.iret (v := rz84) hx hb hr (fun t ht hW => ⟨rz84, rfl, trivial, ht⟩) (fun _ h => absurd h List.not_mem_nil) dX11_all_27
def wk_c_X11_deepest : List Cond := .code yX11_deepest cX11_deepest 7 (some .int) :: ([.fieldLink RX11 19 "SagMemory" "told" "LSagMemory$Valley;", .methodLink RX11 141 yX10_hasCart, .instanceMethod yX10_hasCart, .selects RX10 yX10_hasCart yX10_hasCart, .initialized RX10, .fieldLink RX11 45 "SagMemory" "story" "LSagMemory$Story;", .methodLink RX11 165 yX8_behind, .instanceMethod yX8_behind, .selects RX8 yX8_behind yX8_behind, .initialized RX8, .fieldLink RX11 212 "SagMemory$Valley" "bridges" "I", .fieldLink RX11 194 "SagMemory$State" "memories" "[LSagMemory$Memory;", .methodLink RX11 205 yX2_depth, .instanceMethod yX2_depth, .selects RX2 yX2_depth yX2_depth, .initialized RX2] ++ (wsX110 ++ (wk_c_X10_hasCart ++ (wk_c_X8_behind ++ (wsX100 ++ (wsX70 ++ (wk_c_X2_depth ++ [])))))))
theorem wkg_c_X11_deepest : wk_c_X11_deepest.all goodWord = true := by decide +kernel
set_option maxHeartbeats 4000000 in
set_option maxRecDepth 100000 in
theorem c_X11_deepest (l : Launch) (dC : Nat → ClassId) (dI : Nat → Nat → Nat) (k : Nat → ClassId) (qX : Nat → Nat) (tapeX : Nat) (actsX : Nat) (nowX : Nat) (trialX : Nat) (attemptX : Nat) (orderSearchX : Nat) (routeSearchX : Nat) (setSearchX : Nat) (probeX : Nat) (slot0X : Nat) (slot1X : Nat) (slot2X : Nat) (slot3X : Nat) (image0X : Nat) (image1X : Nat) (image2X : Nat) (aX : Nat → Nat → Int32) (qV : Nat → Nat) (vV : Nat → Int32) (bV : Nat → Int32) (cV : Nat → Int32) (wV : Nat → Int32) (aV : Nat → Nat → Int32) (eV : Nat → Nat → Int32) (qY : Nat → Nat) (sY : Nat → Nat → Nat) (planY : Nat) (vY : Nat → Nat → Int32) (nY : Nat → Nat → Int32) (aY : Nat → Nat → Nat → Int32) (p1 : Int32) (hbV : Rg 0 3 bV) (hcV : Rg 0 7 cV) (hwV : Rg 0 5 wV) (heV : RgA 0 99 eV) (hnY : ∀ t9, Rg 0 8 (nY t9)) : Met l yX11_deepest wk_c_X11_deepest ({ frames := 1, cells := 0, slots := 0, locals := 22 }) (va_Pc [.ref (qX 0), .int p1] (fun U => va_P (dC, dI) vwCl (List.flatten [(wSag qX k tapeX (qV 0) actsX nowX trialX (qY 0) attemptX orderSearchX routeSearchX setSearchX probeX slot0X slot1X slot2X slot3X image0X image1X image2X aX), (wValley qV k vV bV cV wV aV eV), (wStoO qY k (qV 0) planY (sY 0 0) (sY 1 0) (sY 2 0) (sY 3 0) (sY 4 0) (sY 5 0) (sY 6 0) (sY 7 0)), (wState (sY 0) k (vY 0) (nY 0) (aY 0)), (wState (sY 1) k (vY 1) (nY 1) (aY 1)), (wState (sY 2) k (vY 2) (nY 2) (aY 2)), (wState (sY 3) k (vY 3) (nY 3) (aY 3)), (wState (sY 4) k (vY 4) (nY 4) (aY 4)), (wState (sY 5) k (vY 5) (nY 5) (aY 5)), (wState (sY 6) k (vY 6) (nY 6) (aY 6)), (wState (sY 7) k (vY 7) (nY 7) (aY 7))]) U.heap ∧ va_K (dC, dI) vwCl (tK k) U)) (vp_Si (fun r : Int32 => True)) 0 0 (fun _ => False) := by
  refine Met.ofW (cc := cX11_deepest) (maxL := 7) (ret := (some .int)) (by decide) rfl ?_
  intro p e s m args below meth c s₁ B hml hv
  obtain ⟨rfl, hP, hK⟩ := hv
  have hx := B.exec
  have hb := B.bytes
  have hr := B.returns
  have hts := atoms_spec (ws := wk_c_X11_deepest) B.pre
  have hown : s.vm.findClass RX11 = some m.cls := findClass_of_methodNamed B.named
  have hlocks := B.notSynchronized
  have hP : va_P (dC, dI) vwCl (List.flatten [(wSag qX k tapeX (qV 0) actsX nowX trialX (qY 0) attemptX orderSearchX routeSearchX setSearchX probeX slot0X slot1X slot2X slot3X image0X image1X image2X aX), (wValley qV k vV bV cV wV aV eV), (wStoO qY k (qV 0) planY (sY 0 0) (sY 1 0) (sY 2 0) (sY 3 0) (sY 4 0) (sY 5 0) (sY 6 0) (sY 7 0)), (wState (sY 0) k (vY 0) (nY 0) (aY 0)), (wState (sY 1) k (vY 1) (nY 1) (aY 1)), (wState (sY 2) k (vY 2) (nY 2) (aY 2)), (wState (sY 3) k (vY 3) (nY 3) (aY 3)), (wState (sY 4) k (vY 4) (nY 4) (aY 4)), (wState (sY 5) k (vY 5) (nY 5) (aY 5)), (wState (sY 6) k (vY 6) (nY 6) (aY 6)), (wState (sY 7) k (vY 7) (nY 7) (aY 7))]) s.heap := hP
  have hl := lv_entry ([.ref (qX 0), .int p1]) (n := 7) (Nat.le_of_ble_eq_true rfl)
  rw [lg_entry_eq]
  generalize (lg_sl ([.ref (qX 0), .int p1]) ++ List.replicate (7 - (lg_sl ([.ref (qX 0), .int p1])).length) Slot.unset).toArray = ls at hl ⊢
  have hl : lv_has ls 7 [(0, .ref (qX 0)), (1, .int p1)] := hl
  refine w_gen (fun Q hQ => ?_)
  refine lv_aload_n hx hb dX11_deepest_0 rfl (lv_at hl 0 rfl) ?_
  refine va_get (D := (dC, dI)) (ci := 11) (v := .ref (qV 0)) (C := RX11) (T := TX11) (N := 15) hx hb hts (fun w h => List.mem_cons_of_mem _ (List.mem_append_right _ (List.mem_append_left _ h))) hown hK hP 0 rfl rfl 1 (by decide) (hts (.fieldLink RX11 19 "SagMemory" "told" "LSagMemory$Valley;") (wl_mem 0 rfl)) (fun _ h9 => h9) rfl dX11_deepest_1 ?_
  refine lv_iload_n hx hb dX11_deepest_4 rfl (lv_at hl 1 rfl) ?_
  have hPc := hP.sub (ws' := (List.flatten [(wValley qV k vV bV cV wV aV eV)])) [5, 6, 7, 8, 9, 10, 11, 12] rfl
  refine vp_callSi (va_Run.run (va_runV (As := [.int p1]) (rest := []) ⟨hx, hb, hml, hown, hts⟩ (c_X10_hasCart l dC dI k qV vV bV cV wV aV eV p1 hbV hcV hwV heV) (cwV 1 hts (gk_V (wl_mem 1 rfl) (wl_mem 2 rfl) (wl_mem 3 rfl) (wl_mem 4 rfl) (fun w h => List.mem_cons_of_mem _ (List.mem_append_right _ (List.mem_append_right _ (List.mem_append_left _ h)))) wkg_c_X10_hasCart) rfl rfl rfl (by decide +kernel) ⟨Nat.le_of_ble_eq_true rfl, Nat.le_of_ble_eq_true rfl⟩) ⟨fun a U g mk q => by obtain ⟨q0, qP, qK⟩ := q; exact ⟨q0, qP, va_K.moved (u := U) (U := U.calling g mk a) (Vm.Alike.refl U.vm) qK⟩, va_recv hK hPc (ci := 10) (q0 := 0) rfl rfl, fun U hU hW => ⟨rfl, by rw [hU]; exact hPc, va_K.moved hW.alike hK⟩⟩ rfl rfl hl.1 rfl (lv_room (Nat.le_of_ble_eq_true rfl)) dX11_deepest_5 ⟨Nat.le_of_ble_eq_true rfl, Nat.le_of_ble_eq_true rfl⟩)) (fun rz2 gz1 => ?_)
  clear hPc
  rcases gz1 with ⟨er, cz3⟩ | ⟨er, cz4, cz5⟩ | ⟨er, cz6, cz7⟩
  · obtain rfl := er.symm
    have bz8 := fb_rng p1
    have zz9 : p1.toInt < (0 : Int) := zi_lt.mp cz3
    refine lv_if_ne (tgt := 14) hx hb dX11_deepest_8 (by decide) (fun cz10 => ?_) (fun cz10 => ?_)
    · skip
      exact absurd cz10 (by decide)
    · skip
      refine lv_bipush (v := (-2)) hx hb dX11_deepest_11 (by decide) ?_
      rw [hQ]
      exact W.iret (v := (-2 : Int32)) hx hb hr (fun t ht hW => ⟨(-2 : Int32), rfl, trivial, ht⟩) (fun _ h => absurd h List.not_mem_nil) dX11_deepest_13
  · obtain rfl := er.symm
    have bz11 := fb_rng p1
    have zz12 : ¬ p1.toInt < (0 : Int) := fun h9 => cz4 (zi_lt.mpr h9)
    have bz13 := hcV 0
    have zz14 : (cV 0).toInt ≤ p1.toInt := zi_le.mp cz5
    refine lv_if_ne (tgt := 14) hx hb dX11_deepest_8 (by decide) (fun cz15 => ?_) (fun cz15 => ?_)
    · skip
      exact absurd cz15 (by decide)
    · skip
      refine lv_bipush (v := (-2)) hx hb dX11_deepest_11 (by decide) ?_
      rw [hQ]
      exact W.iret (v := (-2 : Int32)) hx hb hr (fun t ht hW => ⟨(-2 : Int32), rfl, trivial, ht⟩) (fun _ h => absurd h List.not_mem_nil) dX11_deepest_13
  · obtain rfl := er.symm
    have bz16 := fb_rng p1
    have zz17 : ¬ p1.toInt < (0 : Int) := fun h9 => cz6 (zi_lt.mpr h9)
    have bz18 := hcV 0
    have zz19 : ¬ (cV 0).toInt ≤ p1.toInt := fun h9 => cz7 (zi_le.mpr h9)
    refine lv_if_ne (tgt := 14) hx hb dX11_deepest_8 (by decide) (fun cz20 => ?_) (fun cz20 => ?_)
    · skip
      refine lv_aload_n hx hb dX11_deepest_14 rfl (lv_at hl 0 rfl) ?_
      refine va_get (D := (dC, dI)) (ci := 11) (v := .ref (qY 0)) (C := RX11) (T := TX11) (N := 15) hx hb hts (fun w h => List.mem_cons_of_mem _ (List.mem_append_right _ (List.mem_append_left _ h))) hown hK hP 0 rfl rfl 5 (by decide) (hts (.fieldLink RX11 45 "SagMemory" "story" "LSagMemory$Story;") (wl_mem 5 rfl)) (fun _ h9 => h9) rfl dX11_deepest_15 ?_
      refine lv_iload_n hx hb dX11_deepest_18 rfl (lv_at hl 1 rfl) ?_
      have hPc : va_P (dC, dI) vwCl (List.flatten [(wStoO qY k (qV 0) planY (sY 0 0) (sY 1 0) (sY 2 0) (sY 3 0) (sY 4 0) (sY 5 0) (sY 6 0) (sY 7 0)), (wState (sY 0) k (vY 0) (nY 0) (aY 0)), (wState (sY 1) k (vY 1) (nY 1) (aY 1)), (wState (sY 2) k (vY 2) (nY 2) (aY 2)), (wState (sY 3) k (vY 3) (nY 3) (aY 3)), (wState (sY 4) k (vY 4) (nY 4) (aY 4)), (wState (sY 5) k (vY 5) (nY 5) (aY 5)), (wState (sY 6) k (vY 6) (nY 6) (aY 6)), (wState (sY 7) k (vY 7) (nY 7) (aY 7))]) s.heap := wc_subP0 hP [2, 3, 4, 5, 6, 7, 8, 9, 10] rfl
      refine va_csr (va_Run.run (va_runV (As := [.int p1]) (rest := []) ⟨hx, hb, hml, hown, hts⟩ (c_X8_behind l dC dI k qY sY (qV 0) planY vY nY aY p1 hnY) (cwV 1 hts (gk_V (wl_mem 6 rfl) (wl_mem 7 rfl) (wl_mem 8 rfl) (wl_mem 9 rfl) (fun w h => List.mem_cons_of_mem _ (List.mem_append_right _ (List.mem_append_right _ (List.mem_append_right _ (List.mem_append_left _ h))))) wkg_c_X8_behind) rfl rfl rfl (by decide +kernel) ⟨Nat.le_of_ble_eq_true rfl, Nat.le_of_ble_eq_true rfl⟩) ⟨fun a U g mk q => by obtain ⟨q0, qP, qK⟩ := q; exact ⟨q0, qP, va_K.moved (u := U) (U := U.calling g mk a) (Vm.Alike.refl U.vm) qK⟩, va_recv hK hPc (ci := 8) (q0 := 0) rfl rfl, fun U hU hW => ⟨rfl, by rw [hU]; exact hPc, va_K.moved hW.alike hK⟩⟩ rfl rfl hl.1 rfl (lv_room (Nat.le_of_ble_eq_true rfl)) dX11_deepest_19 ⟨Nat.le_of_ble_eq_true rfl, Nat.le_of_ble_eq_true rfl⟩)) (fun rz22 gz21 => ?_)
      clear hPc
      rcases gz21 with ⟨rfl, cz23⟩ | ⟨rfl, cz24, cz25⟩ | ⟨rfl, cz26, cz27, cz28⟩ | ⟨rfl, cz29, cz30, cz31⟩ | ⟨rfl, cz32, cz33, cz34⟩ | ⟨rfl, cz35, cz36, cz37⟩ | ⟨rfl, cz38, cz39, cz40⟩ | ⟨rfl, cz41, cz42, cz43⟩ | ⟨rfl, cz44, cz45, cz46⟩
      · skip
        have zz47 : p1.toInt < (0 : Int) := zi_lt.mp cz23
        omega
      · skip
        have zz48 : ¬ p1.toInt < (0 : Int) := fun h9 => cz24 (zi_lt.mpr h9)
        have zz49 : (7 : Int) ≤ p1.toInt := zi_le.mp cz25
        omega
      · skip
        have zz50 : ¬ p1.toInt < (0 : Int) := fun h9 => cz26 (zi_lt.mpr h9)
        have zz51 : ¬ (7 : Int) ≤ p1.toInt := fun h9 => cz27 (zi_le.mpr h9)
        have zz52 : p1.toInt = (0 : Int) := zi_eq.mp cz28
        refine W.eq (g2 := F0 m 22 ls [.ref (sY 1 0)]) rfl ?_
        refine lv_astore_n (lv' := [(2, .ref (sY 1 0)), (0, .ref (qX 0)), (1, .int p1)]) hx hb dX11_deepest_22 rfl hl (by decide) rfl (fun ls hl => ?_)
        refine lv_iconst (v := (-1)) hx hb dX11_deepest_23 (by decide) ?_
        refine lv_istore_n (lv' := [(3, .int (-1)), (2, .ref (sY 1 0)), (0, .ref (qX 0)), (1, .int p1)]) hx hb dX11_deepest_24 rfl hl (by decide) rfl (fun ls hl => ?_)
        refine lv_iconst (v := (-1)) hx hb dX11_deepest_25 (by decide) ?_
        refine lv_istore (lv' := [(4, .int (-1)), (3, .int (-1)), (2, .ref (sY 1 0)), (0, .ref (qX 0)), (1, .int p1)]) hx hb dX11_deepest_26 hl (by decide) rfl (fun ls hl => ?_)
        refine lv_iconst (v := 0) hx hb dX11_deepest_28 (by decide) ?_
        refine lv_istore (lv' := [(5, .int 0), (4, .int (-1)), (3, .int (-1)), (2, .ref (sY 1 0)), (0, .ref (qX 0)), (1, .int p1)]) hx hb dX11_deepest_29 hl (by decide) rfl (fun ls hl => ?_)
        have lp31_kz129 : ∀ (n9_31 : Nat) (ls : Array Slot) (xz126 : Int32) (xz127 : Int32) (xz128 : Int32), (2147483647 - xz128.toInt).toNat < n9_31 → 0 ≤ xz128.toInt → lv_has ls 7 [(0, .ref (qX 0)), (2, .ref (sY 1 0)), (3, .int xz126), (4, .int xz127), (5, .int xz128)] → W p l e (headSpec wk_c_X11_deepest ({ frames := 1, cells := 0, slots := 0, locals := 22 })).room s m ([.ref (qX 0), .int p1] : List Value).toArray below meth c s.heap [] 0 0 Q (F0 m 31 ls []) := by
          intro n9_31
          induction n9_31 with
          | zero => intro ls xz126 xz127 xz128 hm; exact absurd hm (Nat.not_lt_zero _)
          | succ n9_31 ih31 =>
            intro ls xz126 xz127 xz128 hm31 jz130 hl
            refine lv_iload hx hb dX11_deepest_31 (lv_at hl 4 rfl) ?_
            refine lv_aload_n hx hb dX11_deepest_33 rfl (lv_at hl 0 rfl) ?_
            refine va_get (D := (dC, dI)) (ci := 11) (v := .ref (qV 0)) (C := RX11) (T := TX11) (N := 15) hx hb hts (fun w h => List.mem_cons_of_mem _ (List.mem_append_right _ (List.mem_append_left _ h))) hown hK hP 0 rfl rfl 1 (by decide) (hts (.fieldLink RX11 19 "SagMemory" "told" "LSagMemory$Valley;") (wl_mem 0 rfl)) (fun _ h9 => h9) rfl dX11_deepest_34 ?_
            refine va_get (D := (dC, dI)) (ci := 10) (v := .int (bV 0)) (C := RX10) (T := TX10) (N := 16) hx hb hts (fun w h => List.mem_cons_of_mem _ (List.mem_append_right _ (List.mem_append_right _ (List.mem_append_right _ (List.mem_append_right _ (List.mem_append_left _ h)))))) hown hK hP 5 rfl rfl 11 (by decide) (hts (.fieldLink RX11 212 "SagMemory$Valley" "bridges" "I") (wl_mem 10 rfl)) (fun _ h9 => h9) rfl dX11_deepest_37 ?_
            have bz131 := hbV 0
            refine lv_icmp_ge (tgt := 75) hx hb dX11_deepest_40 (by decide) (fun cz132 => ?_) (fun cz132 => ?_)
            · skip
              have bz133 := fb_rng xz128
              have zz134 : (bV 0).toInt ≤ xz128.toInt := zi_le.mp cz132
              refine lv_iload_n hx hb dX11_deepest_75 rfl (lv_at hl 2 rfl) ?_
              rw [hQ]
              exact W.iret (v := xz126) hx hb hr (fun t ht hW => ⟨xz126, rfl, trivial, ht⟩) (fun _ h => absurd h List.not_mem_nil) dX11_deepest_76
            · skip
              have bz135 := fb_rng xz128
              have zz136 : ¬ (bV 0).toInt ≤ xz128.toInt := fun h9 => cz132 (zi_le.mpr h9)
              refine lv_aload_n hx hb dX11_deepest_43 rfl (lv_at hl 1 rfl) ?_
              refine va_get (D := (dC, dI)) (ci := 7) (v := .ref (sY 1 1)) (C := RX7) (T := TX7) (N := 9) hx hb hts (fun w h => List.mem_cons_of_mem _ (List.mem_append_right _ (List.mem_append_right _ (List.mem_append_right _ (List.mem_append_right _ (List.mem_append_right _ (List.mem_append_left _ h))))))) hown hK hP 26 rfl rfl 0 (by decide) (hts (.fieldLink RX11 194 "SagMemory$State" "memories" "[LSagMemory$Memory;") (wl_mem 11 rfl)) (fun _ h9 => h9) rfl dX11_deepest_44 ?_
              refine lv_iload hx hb dX11_deepest_47 (lv_at hl 4 rfl) ?_
              rcases (show xz128 = 0 ∨ xz128 = 1 ∨ xz128 = 2 by simp only [zi_eq]; show xz128.toInt = 0 ∨ xz128.toInt = 1 ∨ xz128.toInt = 2; omega) with cz137 | cz137 | cz137
              · skip
                have zz138 : xz128.toInt = (0 : Int) := zi_eq.mp cz137
                refine W.eq (g2 := F0 m 49 ls [.int 0, .ref (sY 1 1)]) (by rw [cz137]) ?_
                refine va_aldq hx hb hK hP 27 4 rfl rfl (by unfold vp_in; decide) dX11_deepest_49 ?_
                refine W.eq (g2 := F0 m 50 ls [.ref (sY 1 2)]) rfl ?_
                have hPc := hP.sub (ws' := (List.flatten [(wMem (fun i => sY 1 (i + 2)) k (nY 1) (aY 1))])) [28, 29, 30] rfl
                refine vp_callSi (va_Run.run (va_runV (As := []) (rest := []) ⟨hx, hb, hml, hown, hts⟩ (c_X2_depth l dC dI k (fun i => sY 1 (i + 2)) (nY 1) (aY 1) (hnY 1)) (cwV 0 hts (gk_V (wl_mem 12 rfl) (wl_mem 13 rfl) (wl_mem 14 rfl) (wl_mem 15 rfl) (fun w h => List.mem_cons_of_mem _ (List.mem_append_right _ (List.mem_append_right _ (List.mem_append_right _ (List.mem_append_right _ (List.mem_append_right _ (List.mem_append_right _ (List.mem_append_left _ h)))))))) wkg_c_X2_depth) rfl rfl rfl (by decide +kernel) ⟨Nat.le_of_ble_eq_true rfl, Nat.le_of_ble_eq_true rfl⟩) ⟨fun a U g mk q => by obtain ⟨q0, qP, qK⟩ := q; exact ⟨q0, qP, va_K.moved (u := U) (U := U.calling g mk a) (Vm.Alike.refl U.vm) qK⟩, va_recv hK hPc (ci := 2) (q0 := 0) rfl rfl, fun U hU hW => ⟨rfl, by rw [hU]; exact hPc, va_K.moved hW.alike hK⟩⟩ rfl rfl hl.1 rfl (lv_room (Nat.le_of_ble_eq_true rfl)) dX11_deepest_50 ⟨Nat.le_of_ble_eq_true rfl, Nat.le_of_ble_eq_true rfl⟩)) (fun rz140 gz139 => ?_)
                clear hPc
                refine lv_istore (lv' := [(6, .int rz140), (0, .ref (qX 0)), (2, .ref (sY 1 0)), (3, .int xz126), (4, .int xz127), (5, .int xz128)]) hx hb dX11_deepest_53 hl (by decide) rfl (fun ls hl => ?_)
                refine lv_iload hx hb dX11_deepest_55 (lv_at hl 0 rfl) ?_
                refine lv_iload hx hb dX11_deepest_57 (lv_at hl 4 rfl) ?_
                have ct69_kz150 : ∀ (ls : Array Slot) (xz148 : Int32) (xz149 : Int32), lv_has ls 7 [(0, .ref (qX 0)), (2, .ref (sY 1 0)), (3, .int xz148), (4, .int xz149), (5, .int xz128)] → W p l e (headSpec wk_c_X11_deepest ({ frames := 1, cells := 0, slots := 0, locals := 22 })).room s m ([.ref (qX 0), .int p1] : List Value).toArray below meth c s.heap [] 0 0 Q (F0 m 69 ls []) := by
                  intro ls xz148 xz149  hl
                  obtain ⟨xz151, exz151⟩ : ∃ y : Int32, y = xz128 + Int32.ofInt (1) := ⟨_, rfl⟩
                  have fxz151 : xz151.toInt = xz128.toInt + (1) := by rw [exz151]; exact fb_addI (y := Int32.ofInt (1)) (by show -2147483648 ≤ xz128.toInt + (1); omega) (by show xz128.toInt + (1) < 2147483648; omega)
                  refine lv_iinc (v := xz151) (lv' := [(5, .int xz151), (0, .ref (qX 0)), (2, .ref (sY 1 0)), (3, .int xz148), (4, .int xz149)]) hx hb dX11_deepest_69 hl (k := 4) rfl exz151.symm (by decide) rfl (fun ls hl => ?_)
                  refine lv_goto (tgt := 31) hx hb dX11_deepest_72 (by decide) ?_
                  exact ih31 ls xz148 xz149 xz151 (by show (2147483647 - xz151.toInt).toNat < n9_31; omega) (by show 0 ≤ xz151.toInt; omega) (lv_sub hl [1, 2, 3, 4, 0] rfl)
                refine lv_icmp_le (tgt := 69) hx hb dX11_deepest_59 (by decide) (fun cz152 => ?_) (fun cz152 => ?_)
                · skip
                  have bz153 := fb_rng rz140
                  have bz154 := fb_rng xz127
                  have zz155 : rz140.toInt ≤ xz127.toInt := zi_le.mp cz152
                  exact ct69_kz150 ls xz126 xz127   (lv_sub hl [1, 2, 3, 4, 5] rfl)
                · skip
                  have bz156 := fb_rng rz140
                  have bz157 := fb_rng xz127
                  have zz158 : ¬ rz140.toInt ≤ xz127.toInt := fun h9 => cz152 (zi_le.mpr h9)
                  refine lv_iload hx hb dX11_deepest_62 (lv_at hl 0 rfl) ?_
                  refine lv_istore (lv' := [(4, .int rz140), (6, .int rz140), (0, .ref (qX 0)), (2, .ref (sY 1 0)), (3, .int xz126), (5, .int xz128)]) hx hb dX11_deepest_64 hl (by decide) rfl (fun ls hl => ?_)
                  refine lv_iload hx hb dX11_deepest_66 (lv_at hl 5 rfl) ?_
                  refine lv_istore_n (lv' := [(3, .int xz128), (4, .int rz140), (6, .int rz140), (0, .ref (qX 0)), (2, .ref (sY 1 0)), (5, .int xz128)]) hx hb dX11_deepest_68 rfl hl (by decide) rfl (fun ls hl => ?_)
                  exact ct69_kz150 ls xz128 rz140   (lv_sub hl [3, 4, 0, 1, 5] rfl)
              · skip
                have zz159 : xz128.toInt = (1 : Int) := zi_eq.mp cz137
                refine W.eq (g2 := F0 m 49 ls [.int 1, .ref (sY 1 1)]) (by rw [cz137]) ?_
                refine va_aldq hx hb hK hP 27 4 rfl rfl (by unfold vp_in; decide) dX11_deepest_49 ?_
                refine W.eq (g2 := F0 m 50 ls [.ref (sY 1 5)]) rfl ?_
                have hPc := hP.sub (ws' := (List.flatten [(wMem (fun i => sY 1 (i + 5)) k (fun i => (nY 1) (i + 1)) (fun i => (aY 1) (i + 2)))])) [31, 32, 33] rfl
                refine vp_callSi (va_Run.run (va_runV (As := []) (rest := []) ⟨hx, hb, hml, hown, hts⟩ (c_X2_depth l dC dI k (fun i => sY 1 (i + 5)) (fun i => (nY 1) (i + 1)) (fun i => (aY 1) (i + 2)) (fun i => (hnY 1) (i + 1))) (cwV 0 hts (gk_V (wl_mem 12 rfl) (wl_mem 13 rfl) (wl_mem 14 rfl) (wl_mem 15 rfl) (fun w h => List.mem_cons_of_mem _ (List.mem_append_right _ (List.mem_append_right _ (List.mem_append_right _ (List.mem_append_right _ (List.mem_append_right _ (List.mem_append_right _ (List.mem_append_left _ h)))))))) wkg_c_X2_depth) rfl rfl rfl (by decide +kernel) ⟨Nat.le_of_ble_eq_true rfl, Nat.le_of_ble_eq_true rfl⟩) ⟨fun a U g mk q => by obtain ⟨q0, qP, qK⟩ := q; exact ⟨q0, qP, va_K.moved (u := U) (U := U.calling g mk a) (Vm.Alike.refl U.vm) qK⟩, va_recv hK hPc (ci := 2) (q0 := 0) rfl rfl, fun U hU hW => ⟨rfl, by rw [hU]; exact hPc, va_K.moved hW.alike hK⟩⟩ rfl rfl hl.1 rfl (lv_room (Nat.le_of_ble_eq_true rfl)) dX11_deepest_50 ⟨Nat.le_of_ble_eq_true rfl, Nat.le_of_ble_eq_true rfl⟩)) (fun rz161 gz160 => ?_)
                clear hPc
                refine lv_istore (lv' := [(6, .int rz161), (0, .ref (qX 0)), (2, .ref (sY 1 0)), (3, .int xz126), (4, .int xz127), (5, .int xz128)]) hx hb dX11_deepest_53 hl (by decide) rfl (fun ls hl => ?_)
                refine lv_iload hx hb dX11_deepest_55 (lv_at hl 0 rfl) ?_
                refine lv_iload hx hb dX11_deepest_57 (lv_at hl 4 rfl) ?_
                have ct69_kz171 : ∀ (ls : Array Slot) (xz169 : Int32) (xz170 : Int32), lv_has ls 7 [(0, .ref (qX 0)), (2, .ref (sY 1 0)), (3, .int xz169), (4, .int xz170), (5, .int xz128)] → W p l e (headSpec wk_c_X11_deepest ({ frames := 1, cells := 0, slots := 0, locals := 22 })).room s m ([.ref (qX 0), .int p1] : List Value).toArray below meth c s.heap [] 0 0 Q (F0 m 69 ls []) := by
                  intro ls xz169 xz170  hl
                  obtain ⟨xz172, exz172⟩ : ∃ y : Int32, y = xz128 + Int32.ofInt (1) := ⟨_, rfl⟩
                  have fxz172 : xz172.toInt = xz128.toInt + (1) := by rw [exz172]; exact fb_addI (y := Int32.ofInt (1)) (by show -2147483648 ≤ xz128.toInt + (1); omega) (by show xz128.toInt + (1) < 2147483648; omega)
                  refine lv_iinc (v := xz172) (lv' := [(5, .int xz172), (0, .ref (qX 0)), (2, .ref (sY 1 0)), (3, .int xz169), (4, .int xz170)]) hx hb dX11_deepest_69 hl (k := 4) rfl exz172.symm (by decide) rfl (fun ls hl => ?_)
                  refine lv_goto (tgt := 31) hx hb dX11_deepest_72 (by decide) ?_
                  exact ih31 ls xz169 xz170 xz172 (by show (2147483647 - xz172.toInt).toNat < n9_31; omega) (by show 0 ≤ xz172.toInt; omega) (lv_sub hl [1, 2, 3, 4, 0] rfl)
                refine lv_icmp_le (tgt := 69) hx hb dX11_deepest_59 (by decide) (fun cz173 => ?_) (fun cz173 => ?_)
                · skip
                  have bz174 := fb_rng rz161
                  have bz175 := fb_rng xz127
                  have zz176 : rz161.toInt ≤ xz127.toInt := zi_le.mp cz173
                  exact ct69_kz171 ls xz126 xz127   (lv_sub hl [1, 2, 3, 4, 5] rfl)
                · skip
                  have bz177 := fb_rng rz161
                  have bz178 := fb_rng xz127
                  have zz179 : ¬ rz161.toInt ≤ xz127.toInt := fun h9 => cz173 (zi_le.mpr h9)
                  refine lv_iload hx hb dX11_deepest_62 (lv_at hl 0 rfl) ?_
                  refine lv_istore (lv' := [(4, .int rz161), (6, .int rz161), (0, .ref (qX 0)), (2, .ref (sY 1 0)), (3, .int xz126), (5, .int xz128)]) hx hb dX11_deepest_64 hl (by decide) rfl (fun ls hl => ?_)
                  refine lv_iload hx hb dX11_deepest_66 (lv_at hl 5 rfl) ?_
                  refine lv_istore_n (lv' := [(3, .int xz128), (4, .int rz161), (6, .int rz161), (0, .ref (qX 0)), (2, .ref (sY 1 0)), (5, .int xz128)]) hx hb dX11_deepest_68 rfl hl (by decide) rfl (fun ls hl => ?_)
                  exact ct69_kz171 ls xz128 rz161   (lv_sub hl [3, 4, 0, 1, 5] rfl)
              · skip
                have zz180 : xz128.toInt = (2 : Int) := zi_eq.mp cz137
                refine W.eq (g2 := F0 m 49 ls [.int 2, .ref (sY 1 1)]) (by rw [cz137]) ?_
                refine va_aldq hx hb hK hP 27 4 rfl rfl (by unfold vp_in; decide) dX11_deepest_49 ?_
                refine W.eq (g2 := F0 m 50 ls [.ref (sY 1 8)]) rfl ?_
                have hPc := hP.sub (ws' := (List.flatten [(wMem (fun i => sY 1 (i + 8)) k (fun i => (nY 1) (i + 2)) (fun i => (aY 1) (i + 4)))])) [34, 35, 36] rfl
                refine vp_callSi (va_Run.run (va_runV (As := []) (rest := []) ⟨hx, hb, hml, hown, hts⟩ (c_X2_depth l dC dI k (fun i => sY 1 (i + 8)) (fun i => (nY 1) (i + 2)) (fun i => (aY 1) (i + 4)) (fun i => (hnY 1) (i + 2))) (cwV 0 hts (gk_V (wl_mem 12 rfl) (wl_mem 13 rfl) (wl_mem 14 rfl) (wl_mem 15 rfl) (fun w h => List.mem_cons_of_mem _ (List.mem_append_right _ (List.mem_append_right _ (List.mem_append_right _ (List.mem_append_right _ (List.mem_append_right _ (List.mem_append_right _ (List.mem_append_left _ h)))))))) wkg_c_X2_depth) rfl rfl rfl (by decide +kernel) ⟨Nat.le_of_ble_eq_true rfl, Nat.le_of_ble_eq_true rfl⟩) ⟨fun a U g mk q => by obtain ⟨q0, qP, qK⟩ := q; exact ⟨q0, qP, va_K.moved (u := U) (U := U.calling g mk a) (Vm.Alike.refl U.vm) qK⟩, va_recv hK hPc (ci := 2) (q0 := 0) rfl rfl, fun U hU hW => ⟨rfl, by rw [hU]; exact hPc, va_K.moved hW.alike hK⟩⟩ rfl rfl hl.1 rfl (lv_room (Nat.le_of_ble_eq_true rfl)) dX11_deepest_50 ⟨Nat.le_of_ble_eq_true rfl, Nat.le_of_ble_eq_true rfl⟩)) (fun rz182 gz181 => ?_)
                clear hPc
                refine lv_istore (lv' := [(6, .int rz182), (0, .ref (qX 0)), (2, .ref (sY 1 0)), (3, .int xz126), (4, .int xz127), (5, .int xz128)]) hx hb dX11_deepest_53 hl (by decide) rfl (fun ls hl => ?_)
                refine lv_iload hx hb dX11_deepest_55 (lv_at hl 0 rfl) ?_
                refine lv_iload hx hb dX11_deepest_57 (lv_at hl 4 rfl) ?_
                have ct69_kz192 : ∀ (ls : Array Slot) (xz190 : Int32) (xz191 : Int32), lv_has ls 7 [(0, .ref (qX 0)), (2, .ref (sY 1 0)), (3, .int xz190), (4, .int xz191), (5, .int xz128)] → W p l e (headSpec wk_c_X11_deepest ({ frames := 1, cells := 0, slots := 0, locals := 22 })).room s m ([.ref (qX 0), .int p1] : List Value).toArray below meth c s.heap [] 0 0 Q (F0 m 69 ls []) := by
                  intro ls xz190 xz191  hl
                  obtain ⟨xz193, exz193⟩ : ∃ y : Int32, y = xz128 + Int32.ofInt (1) := ⟨_, rfl⟩
                  have fxz193 : xz193.toInt = xz128.toInt + (1) := by rw [exz193]; exact fb_addI (y := Int32.ofInt (1)) (by show -2147483648 ≤ xz128.toInt + (1); omega) (by show xz128.toInt + (1) < 2147483648; omega)
                  refine lv_iinc (v := xz193) (lv' := [(5, .int xz193), (0, .ref (qX 0)), (2, .ref (sY 1 0)), (3, .int xz190), (4, .int xz191)]) hx hb dX11_deepest_69 hl (k := 4) rfl exz193.symm (by decide) rfl (fun ls hl => ?_)
                  refine lv_goto (tgt := 31) hx hb dX11_deepest_72 (by decide) ?_
                  exact ih31 ls xz190 xz191 xz193 (by show (2147483647 - xz193.toInt).toNat < n9_31; omega) (by show 0 ≤ xz193.toInt; omega) (lv_sub hl [1, 2, 3, 4, 0] rfl)
                refine lv_icmp_le (tgt := 69) hx hb dX11_deepest_59 (by decide) (fun cz194 => ?_) (fun cz194 => ?_)
                · skip
                  have bz195 := fb_rng rz182
                  have bz196 := fb_rng xz127
                  have zz197 : rz182.toInt ≤ xz127.toInt := zi_le.mp cz194
                  exact ct69_kz192 ls xz126 xz127   (lv_sub hl [1, 2, 3, 4, 5] rfl)
                · skip
                  have bz198 := fb_rng rz182
                  have bz199 := fb_rng xz127
                  have zz200 : ¬ rz182.toInt ≤ xz127.toInt := fun h9 => cz194 (zi_le.mpr h9)
                  refine lv_iload hx hb dX11_deepest_62 (lv_at hl 0 rfl) ?_
                  refine lv_istore (lv' := [(4, .int rz182), (6, .int rz182), (0, .ref (qX 0)), (2, .ref (sY 1 0)), (3, .int xz126), (5, .int xz128)]) hx hb dX11_deepest_64 hl (by decide) rfl (fun ls hl => ?_)
                  refine lv_iload hx hb dX11_deepest_66 (lv_at hl 5 rfl) ?_
                  refine lv_istore_n (lv' := [(3, .int xz128), (4, .int rz182), (6, .int rz182), (0, .ref (qX 0)), (2, .ref (sY 1 0)), (5, .int xz128)]) hx hb dX11_deepest_68 rfl hl (by decide) rfl (fun ls hl => ?_)
                  exact ct69_kz192 ls xz128 rz182   (lv_sub hl [3, 4, 0, 1, 5] rfl)
        exact lp31_kz129 _ ls (-1 : Int32) (-1 : Int32) (0 : Int32) (Nat.lt_succ_self _) (by show 0 ≤ (0 : Int); omega) (lv_sub hl [4, 3, 2, 1, 0] rfl)
      · skip
        have zz201 : ¬ p1.toInt < (0 : Int) := fun h9 => cz29 (zi_lt.mpr h9)
        have zz202 : ¬ (7 : Int) ≤ p1.toInt := fun h9 => cz30 (zi_le.mpr h9)
        have zz203 : p1.toInt = (1 : Int) := zi_eq.mp cz31
        refine W.eq (g2 := F0 m 22 ls [.ref (sY 2 0)]) rfl ?_
        refine lv_astore_n (lv' := [(2, .ref (sY 2 0)), (0, .ref (qX 0)), (1, .int p1)]) hx hb dX11_deepest_22 rfl hl (by decide) rfl (fun ls hl => ?_)
        refine lv_iconst (v := (-1)) hx hb dX11_deepest_23 (by decide) ?_
        refine lv_istore_n (lv' := [(3, .int (-1)), (2, .ref (sY 2 0)), (0, .ref (qX 0)), (1, .int p1)]) hx hb dX11_deepest_24 rfl hl (by decide) rfl (fun ls hl => ?_)
        refine lv_iconst (v := (-1)) hx hb dX11_deepest_25 (by decide) ?_
        refine lv_istore (lv' := [(4, .int (-1)), (3, .int (-1)), (2, .ref (sY 2 0)), (0, .ref (qX 0)), (1, .int p1)]) hx hb dX11_deepest_26 hl (by decide) rfl (fun ls hl => ?_)
        refine lv_iconst (v := 0) hx hb dX11_deepest_28 (by decide) ?_
        refine lv_istore (lv' := [(5, .int 0), (4, .int (-1)), (3, .int (-1)), (2, .ref (sY 2 0)), (0, .ref (qX 0)), (1, .int p1)]) hx hb dX11_deepest_29 hl (by decide) rfl (fun ls hl => ?_)
        have lp31_kz280 : ∀ (n9_31 : Nat) (ls : Array Slot) (xz277 : Int32) (xz278 : Int32) (xz279 : Int32), (2147483647 - xz279.toInt).toNat < n9_31 → 0 ≤ xz279.toInt → lv_has ls 7 [(0, .ref (qX 0)), (2, .ref (sY 2 0)), (3, .int xz277), (4, .int xz278), (5, .int xz279)] → W p l e (headSpec wk_c_X11_deepest ({ frames := 1, cells := 0, slots := 0, locals := 22 })).room s m ([.ref (qX 0), .int p1] : List Value).toArray below meth c s.heap [] 0 0 Q (F0 m 31 ls []) := by
          intro n9_31
          induction n9_31 with
          | zero => intro ls xz277 xz278 xz279 hm; exact absurd hm (Nat.not_lt_zero _)
          | succ n9_31 ih31 =>
            intro ls xz277 xz278 xz279 hm31 jz281 hl
            refine lv_iload hx hb dX11_deepest_31 (lv_at hl 4 rfl) ?_
            refine lv_aload_n hx hb dX11_deepest_33 rfl (lv_at hl 0 rfl) ?_
            refine va_get (D := (dC, dI)) (ci := 11) (v := .ref (qV 0)) (C := RX11) (T := TX11) (N := 15) hx hb hts (fun w h => List.mem_cons_of_mem _ (List.mem_append_right _ (List.mem_append_left _ h))) hown hK hP 0 rfl rfl 1 (by decide) (hts (.fieldLink RX11 19 "SagMemory" "told" "LSagMemory$Valley;") (wl_mem 0 rfl)) (fun _ h9 => h9) rfl dX11_deepest_34 ?_
            refine va_get (D := (dC, dI)) (ci := 10) (v := .int (bV 0)) (C := RX10) (T := TX10) (N := 16) hx hb hts (fun w h => List.mem_cons_of_mem _ (List.mem_append_right _ (List.mem_append_right _ (List.mem_append_right _ (List.mem_append_right _ (List.mem_append_left _ h)))))) hown hK hP 5 rfl rfl 11 (by decide) (hts (.fieldLink RX11 212 "SagMemory$Valley" "bridges" "I") (wl_mem 10 rfl)) (fun _ h9 => h9) rfl dX11_deepest_37 ?_
            have bz282 := hbV 0
            refine lv_icmp_ge (tgt := 75) hx hb dX11_deepest_40 (by decide) (fun cz283 => ?_) (fun cz283 => ?_)
            · skip
              have bz284 := fb_rng xz279
              have zz285 : (bV 0).toInt ≤ xz279.toInt := zi_le.mp cz283
              refine lv_iload_n hx hb dX11_deepest_75 rfl (lv_at hl 2 rfl) ?_
              rw [hQ]
              exact W.iret (v := xz277) hx hb hr (fun t ht hW => ⟨xz277, rfl, trivial, ht⟩) (fun _ h => absurd h List.not_mem_nil) dX11_deepest_76
            · skip
              have bz286 := fb_rng xz279
              have zz287 : ¬ (bV 0).toInt ≤ xz279.toInt := fun h9 => cz283 (zi_le.mpr h9)
              refine lv_aload_n hx hb dX11_deepest_43 rfl (lv_at hl 1 rfl) ?_
              refine va_get (D := (dC, dI)) (ci := 7) (v := .ref (sY 2 1)) (C := RX7) (T := TX7) (N := 9) hx hb hts (fun w h => List.mem_cons_of_mem _ (List.mem_append_right _ (List.mem_append_right _ (List.mem_append_right _ (List.mem_append_right _ (List.mem_append_right _ (List.mem_append_left _ h))))))) hown hK hP 37 rfl rfl 0 (by decide) (hts (.fieldLink RX11 194 "SagMemory$State" "memories" "[LSagMemory$Memory;") (wl_mem 11 rfl)) (fun _ h9 => h9) rfl dX11_deepest_44 ?_
              refine lv_iload hx hb dX11_deepest_47 (lv_at hl 4 rfl) ?_
              rcases (show xz279 = 0 ∨ xz279 = 1 ∨ xz279 = 2 by simp only [zi_eq]; show xz279.toInt = 0 ∨ xz279.toInt = 1 ∨ xz279.toInt = 2; omega) with cz288 | cz288 | cz288
              · skip
                have zz289 : xz279.toInt = (0 : Int) := zi_eq.mp cz288
                refine W.eq (g2 := F0 m 49 ls [.int 0, .ref (sY 2 1)]) (by rw [cz288]) ?_
                refine va_aldq hx hb hK hP 38 4 rfl rfl (by unfold vp_in; decide) dX11_deepest_49 ?_
                refine W.eq (g2 := F0 m 50 ls [.ref (sY 2 2)]) rfl ?_
                have hPc := hP.sub (ws' := (List.flatten [(wMem (fun i => sY 2 (i + 2)) k (nY 2) (aY 2))])) [39, 40, 41] rfl
                refine vp_callSi (va_Run.run (va_runV (As := []) (rest := []) ⟨hx, hb, hml, hown, hts⟩ (c_X2_depth l dC dI k (fun i => sY 2 (i + 2)) (nY 2) (aY 2) (hnY 2)) (cwV 0 hts (gk_V (wl_mem 12 rfl) (wl_mem 13 rfl) (wl_mem 14 rfl) (wl_mem 15 rfl) (fun w h => List.mem_cons_of_mem _ (List.mem_append_right _ (List.mem_append_right _ (List.mem_append_right _ (List.mem_append_right _ (List.mem_append_right _ (List.mem_append_right _ (List.mem_append_left _ h)))))))) wkg_c_X2_depth) rfl rfl rfl (by decide +kernel) ⟨Nat.le_of_ble_eq_true rfl, Nat.le_of_ble_eq_true rfl⟩) ⟨fun a U g mk q => by obtain ⟨q0, qP, qK⟩ := q; exact ⟨q0, qP, va_K.moved (u := U) (U := U.calling g mk a) (Vm.Alike.refl U.vm) qK⟩, va_recv hK hPc (ci := 2) (q0 := 0) rfl rfl, fun U hU hW => ⟨rfl, by rw [hU]; exact hPc, va_K.moved hW.alike hK⟩⟩ rfl rfl hl.1 rfl (lv_room (Nat.le_of_ble_eq_true rfl)) dX11_deepest_50 ⟨Nat.le_of_ble_eq_true rfl, Nat.le_of_ble_eq_true rfl⟩)) (fun rz291 gz290 => ?_)
                clear hPc
                refine lv_istore (lv' := [(6, .int rz291), (0, .ref (qX 0)), (2, .ref (sY 2 0)), (3, .int xz277), (4, .int xz278), (5, .int xz279)]) hx hb dX11_deepest_53 hl (by decide) rfl (fun ls hl => ?_)
                refine lv_iload hx hb dX11_deepest_55 (lv_at hl 0 rfl) ?_
                refine lv_iload hx hb dX11_deepest_57 (lv_at hl 4 rfl) ?_
                have ct69_kz301 : ∀ (ls : Array Slot) (xz299 : Int32) (xz300 : Int32), lv_has ls 7 [(0, .ref (qX 0)), (2, .ref (sY 2 0)), (3, .int xz299), (4, .int xz300), (5, .int xz279)] → W p l e (headSpec wk_c_X11_deepest ({ frames := 1, cells := 0, slots := 0, locals := 22 })).room s m ([.ref (qX 0), .int p1] : List Value).toArray below meth c s.heap [] 0 0 Q (F0 m 69 ls []) := by
                  intro ls xz299 xz300  hl
                  obtain ⟨xz302, exz302⟩ : ∃ y : Int32, y = xz279 + Int32.ofInt (1) := ⟨_, rfl⟩
                  have fxz302 : xz302.toInt = xz279.toInt + (1) := by rw [exz302]; exact fb_addI (y := Int32.ofInt (1)) (by show -2147483648 ≤ xz279.toInt + (1); omega) (by show xz279.toInt + (1) < 2147483648; omega)
                  refine lv_iinc (v := xz302) (lv' := [(5, .int xz302), (0, .ref (qX 0)), (2, .ref (sY 2 0)), (3, .int xz299), (4, .int xz300)]) hx hb dX11_deepest_69 hl (k := 4) rfl exz302.symm (by decide) rfl (fun ls hl => ?_)
                  refine lv_goto (tgt := 31) hx hb dX11_deepest_72 (by decide) ?_
                  exact ih31 ls xz299 xz300 xz302 (by show (2147483647 - xz302.toInt).toNat < n9_31; omega) (by show 0 ≤ xz302.toInt; omega) (lv_sub hl [1, 2, 3, 4, 0] rfl)
                refine lv_icmp_le (tgt := 69) hx hb dX11_deepest_59 (by decide) (fun cz303 => ?_) (fun cz303 => ?_)
                · skip
                  have bz304 := fb_rng rz291
                  have bz305 := fb_rng xz278
                  have zz306 : rz291.toInt ≤ xz278.toInt := zi_le.mp cz303
                  exact ct69_kz301 ls xz277 xz278   (lv_sub hl [1, 2, 3, 4, 5] rfl)
                · skip
                  have bz307 := fb_rng rz291
                  have bz308 := fb_rng xz278
                  have zz309 : ¬ rz291.toInt ≤ xz278.toInt := fun h9 => cz303 (zi_le.mpr h9)
                  refine lv_iload hx hb dX11_deepest_62 (lv_at hl 0 rfl) ?_
                  refine lv_istore (lv' := [(4, .int rz291), (6, .int rz291), (0, .ref (qX 0)), (2, .ref (sY 2 0)), (3, .int xz277), (5, .int xz279)]) hx hb dX11_deepest_64 hl (by decide) rfl (fun ls hl => ?_)
                  refine lv_iload hx hb dX11_deepest_66 (lv_at hl 5 rfl) ?_
                  refine lv_istore_n (lv' := [(3, .int xz279), (4, .int rz291), (6, .int rz291), (0, .ref (qX 0)), (2, .ref (sY 2 0)), (5, .int xz279)]) hx hb dX11_deepest_68 rfl hl (by decide) rfl (fun ls hl => ?_)
                  exact ct69_kz301 ls xz279 rz291   (lv_sub hl [3, 4, 0, 1, 5] rfl)
              · skip
                have zz310 : xz279.toInt = (1 : Int) := zi_eq.mp cz288
                refine W.eq (g2 := F0 m 49 ls [.int 1, .ref (sY 2 1)]) (by rw [cz288]) ?_
                refine va_aldq hx hb hK hP 38 4 rfl rfl (by unfold vp_in; decide) dX11_deepest_49 ?_
                refine W.eq (g2 := F0 m 50 ls [.ref (sY 2 5)]) rfl ?_
                have hPc := hP.sub (ws' := (List.flatten [(wMem (fun i => sY 2 (i + 5)) k (fun i => (nY 2) (i + 1)) (fun i => (aY 2) (i + 2)))])) [42, 43, 44] rfl
                refine vp_callSi (va_Run.run (va_runV (As := []) (rest := []) ⟨hx, hb, hml, hown, hts⟩ (c_X2_depth l dC dI k (fun i => sY 2 (i + 5)) (fun i => (nY 2) (i + 1)) (fun i => (aY 2) (i + 2)) (fun i => (hnY 2) (i + 1))) (cwV 0 hts (gk_V (wl_mem 12 rfl) (wl_mem 13 rfl) (wl_mem 14 rfl) (wl_mem 15 rfl) (fun w h => List.mem_cons_of_mem _ (List.mem_append_right _ (List.mem_append_right _ (List.mem_append_right _ (List.mem_append_right _ (List.mem_append_right _ (List.mem_append_right _ (List.mem_append_left _ h)))))))) wkg_c_X2_depth) rfl rfl rfl (by decide +kernel) ⟨Nat.le_of_ble_eq_true rfl, Nat.le_of_ble_eq_true rfl⟩) ⟨fun a U g mk q => by obtain ⟨q0, qP, qK⟩ := q; exact ⟨q0, qP, va_K.moved (u := U) (U := U.calling g mk a) (Vm.Alike.refl U.vm) qK⟩, va_recv hK hPc (ci := 2) (q0 := 0) rfl rfl, fun U hU hW => ⟨rfl, by rw [hU]; exact hPc, va_K.moved hW.alike hK⟩⟩ rfl rfl hl.1 rfl (lv_room (Nat.le_of_ble_eq_true rfl)) dX11_deepest_50 ⟨Nat.le_of_ble_eq_true rfl, Nat.le_of_ble_eq_true rfl⟩)) (fun rz312 gz311 => ?_)
                clear hPc
                refine lv_istore (lv' := [(6, .int rz312), (0, .ref (qX 0)), (2, .ref (sY 2 0)), (3, .int xz277), (4, .int xz278), (5, .int xz279)]) hx hb dX11_deepest_53 hl (by decide) rfl (fun ls hl => ?_)
                refine lv_iload hx hb dX11_deepest_55 (lv_at hl 0 rfl) ?_
                refine lv_iload hx hb dX11_deepest_57 (lv_at hl 4 rfl) ?_
                have ct69_kz322 : ∀ (ls : Array Slot) (xz320 : Int32) (xz321 : Int32), lv_has ls 7 [(0, .ref (qX 0)), (2, .ref (sY 2 0)), (3, .int xz320), (4, .int xz321), (5, .int xz279)] → W p l e (headSpec wk_c_X11_deepest ({ frames := 1, cells := 0, slots := 0, locals := 22 })).room s m ([.ref (qX 0), .int p1] : List Value).toArray below meth c s.heap [] 0 0 Q (F0 m 69 ls []) := by
                  intro ls xz320 xz321  hl
                  obtain ⟨xz323, exz323⟩ : ∃ y : Int32, y = xz279 + Int32.ofInt (1) := ⟨_, rfl⟩
                  have fxz323 : xz323.toInt = xz279.toInt + (1) := by rw [exz323]; exact fb_addI (y := Int32.ofInt (1)) (by show -2147483648 ≤ xz279.toInt + (1); omega) (by show xz279.toInt + (1) < 2147483648; omega)
                  refine lv_iinc (v := xz323) (lv' := [(5, .int xz323), (0, .ref (qX 0)), (2, .ref (sY 2 0)), (3, .int xz320), (4, .int xz321)]) hx hb dX11_deepest_69 hl (k := 4) rfl exz323.symm (by decide) rfl (fun ls hl => ?_)
                  refine lv_goto (tgt := 31) hx hb dX11_deepest_72 (by decide) ?_
                  exact ih31 ls xz320 xz321 xz323 (by show (2147483647 - xz323.toInt).toNat < n9_31; omega) (by show 0 ≤ xz323.toInt; omega) (lv_sub hl [1, 2, 3, 4, 0] rfl)
                refine lv_icmp_le (tgt := 69) hx hb dX11_deepest_59 (by decide) (fun cz324 => ?_) (fun cz324 => ?_)
                · skip
                  have bz325 := fb_rng rz312
                  have bz326 := fb_rng xz278
                  have zz327 : rz312.toInt ≤ xz278.toInt := zi_le.mp cz324
                  exact ct69_kz322 ls xz277 xz278   (lv_sub hl [1, 2, 3, 4, 5] rfl)
                · skip
                  have bz328 := fb_rng rz312
                  have bz329 := fb_rng xz278
                  have zz330 : ¬ rz312.toInt ≤ xz278.toInt := fun h9 => cz324 (zi_le.mpr h9)
                  refine lv_iload hx hb dX11_deepest_62 (lv_at hl 0 rfl) ?_
                  refine lv_istore (lv' := [(4, .int rz312), (6, .int rz312), (0, .ref (qX 0)), (2, .ref (sY 2 0)), (3, .int xz277), (5, .int xz279)]) hx hb dX11_deepest_64 hl (by decide) rfl (fun ls hl => ?_)
                  refine lv_iload hx hb dX11_deepest_66 (lv_at hl 5 rfl) ?_
                  refine lv_istore_n (lv' := [(3, .int xz279), (4, .int rz312), (6, .int rz312), (0, .ref (qX 0)), (2, .ref (sY 2 0)), (5, .int xz279)]) hx hb dX11_deepest_68 rfl hl (by decide) rfl (fun ls hl => ?_)
                  exact ct69_kz322 ls xz279 rz312   (lv_sub hl [3, 4, 0, 1, 5] rfl)
              · skip
                have zz331 : xz279.toInt = (2 : Int) := zi_eq.mp cz288
                refine W.eq (g2 := F0 m 49 ls [.int 2, .ref (sY 2 1)]) (by rw [cz288]) ?_
                refine va_aldq hx hb hK hP 38 4 rfl rfl (by unfold vp_in; decide) dX11_deepest_49 ?_
                refine W.eq (g2 := F0 m 50 ls [.ref (sY 2 8)]) rfl ?_
                have hPc := hP.sub (ws' := (List.flatten [(wMem (fun i => sY 2 (i + 8)) k (fun i => (nY 2) (i + 2)) (fun i => (aY 2) (i + 4)))])) [45, 46, 47] rfl
                refine vp_callSi (va_Run.run (va_runV (As := []) (rest := []) ⟨hx, hb, hml, hown, hts⟩ (c_X2_depth l dC dI k (fun i => sY 2 (i + 8)) (fun i => (nY 2) (i + 2)) (fun i => (aY 2) (i + 4)) (fun i => (hnY 2) (i + 2))) (cwV 0 hts (gk_V (wl_mem 12 rfl) (wl_mem 13 rfl) (wl_mem 14 rfl) (wl_mem 15 rfl) (fun w h => List.mem_cons_of_mem _ (List.mem_append_right _ (List.mem_append_right _ (List.mem_append_right _ (List.mem_append_right _ (List.mem_append_right _ (List.mem_append_right _ (List.mem_append_left _ h)))))))) wkg_c_X2_depth) rfl rfl rfl (by decide +kernel) ⟨Nat.le_of_ble_eq_true rfl, Nat.le_of_ble_eq_true rfl⟩) ⟨fun a U g mk q => by obtain ⟨q0, qP, qK⟩ := q; exact ⟨q0, qP, va_K.moved (u := U) (U := U.calling g mk a) (Vm.Alike.refl U.vm) qK⟩, va_recv hK hPc (ci := 2) (q0 := 0) rfl rfl, fun U hU hW => ⟨rfl, by rw [hU]; exact hPc, va_K.moved hW.alike hK⟩⟩ rfl rfl hl.1 rfl (lv_room (Nat.le_of_ble_eq_true rfl)) dX11_deepest_50 ⟨Nat.le_of_ble_eq_true rfl, Nat.le_of_ble_eq_true rfl⟩)) (fun rz333 gz332 => ?_)
                clear hPc
                refine lv_istore (lv' := [(6, .int rz333), (0, .ref (qX 0)), (2, .ref (sY 2 0)), (3, .int xz277), (4, .int xz278), (5, .int xz279)]) hx hb dX11_deepest_53 hl (by decide) rfl (fun ls hl => ?_)
                refine lv_iload hx hb dX11_deepest_55 (lv_at hl 0 rfl) ?_
                refine lv_iload hx hb dX11_deepest_57 (lv_at hl 4 rfl) ?_
                have ct69_kz343 : ∀ (ls : Array Slot) (xz341 : Int32) (xz342 : Int32), lv_has ls 7 [(0, .ref (qX 0)), (2, .ref (sY 2 0)), (3, .int xz341), (4, .int xz342), (5, .int xz279)] → W p l e (headSpec wk_c_X11_deepest ({ frames := 1, cells := 0, slots := 0, locals := 22 })).room s m ([.ref (qX 0), .int p1] : List Value).toArray below meth c s.heap [] 0 0 Q (F0 m 69 ls []) := by
                  intro ls xz341 xz342  hl
                  obtain ⟨xz344, exz344⟩ : ∃ y : Int32, y = xz279 + Int32.ofInt (1) := ⟨_, rfl⟩
                  have fxz344 : xz344.toInt = xz279.toInt + (1) := by rw [exz344]; exact fb_addI (y := Int32.ofInt (1)) (by show -2147483648 ≤ xz279.toInt + (1); omega) (by show xz279.toInt + (1) < 2147483648; omega)
                  refine lv_iinc (v := xz344) (lv' := [(5, .int xz344), (0, .ref (qX 0)), (2, .ref (sY 2 0)), (3, .int xz341), (4, .int xz342)]) hx hb dX11_deepest_69 hl (k := 4) rfl exz344.symm (by decide) rfl (fun ls hl => ?_)
                  refine lv_goto (tgt := 31) hx hb dX11_deepest_72 (by decide) ?_
                  exact ih31 ls xz341 xz342 xz344 (by show (2147483647 - xz344.toInt).toNat < n9_31; omega) (by show 0 ≤ xz344.toInt; omega) (lv_sub hl [1, 2, 3, 4, 0] rfl)
                refine lv_icmp_le (tgt := 69) hx hb dX11_deepest_59 (by decide) (fun cz345 => ?_) (fun cz345 => ?_)
                · skip
                  have bz346 := fb_rng rz333
                  have bz347 := fb_rng xz278
                  have zz348 : rz333.toInt ≤ xz278.toInt := zi_le.mp cz345
                  exact ct69_kz343 ls xz277 xz278   (lv_sub hl [1, 2, 3, 4, 5] rfl)
                · skip
                  have bz349 := fb_rng rz333
                  have bz350 := fb_rng xz278
                  have zz351 : ¬ rz333.toInt ≤ xz278.toInt := fun h9 => cz345 (zi_le.mpr h9)
                  refine lv_iload hx hb dX11_deepest_62 (lv_at hl 0 rfl) ?_
                  refine lv_istore (lv' := [(4, .int rz333), (6, .int rz333), (0, .ref (qX 0)), (2, .ref (sY 2 0)), (3, .int xz277), (5, .int xz279)]) hx hb dX11_deepest_64 hl (by decide) rfl (fun ls hl => ?_)
                  refine lv_iload hx hb dX11_deepest_66 (lv_at hl 5 rfl) ?_
                  refine lv_istore_n (lv' := [(3, .int xz279), (4, .int rz333), (6, .int rz333), (0, .ref (qX 0)), (2, .ref (sY 2 0)), (5, .int xz279)]) hx hb dX11_deepest_68 rfl hl (by decide) rfl (fun ls hl => ?_)
                  exact ct69_kz343 ls xz279 rz333   (lv_sub hl [3, 4, 0, 1, 5] rfl)
        exact lp31_kz280 _ ls (-1 : Int32) (-1 : Int32) (0 : Int32) (Nat.lt_succ_self _) (by show 0 ≤ (0 : Int); omega) (lv_sub hl [4, 3, 2, 1, 0] rfl)
      · skip
        have zz352 : ¬ p1.toInt < (0 : Int) := fun h9 => cz32 (zi_lt.mpr h9)
        have zz353 : ¬ (7 : Int) ≤ p1.toInt := fun h9 => cz33 (zi_le.mpr h9)
        have zz354 : p1.toInt = (2 : Int) := zi_eq.mp cz34
        refine W.eq (g2 := F0 m 22 ls [.ref (sY 3 0)]) rfl ?_
        refine lv_astore_n (lv' := [(2, .ref (sY 3 0)), (0, .ref (qX 0)), (1, .int p1)]) hx hb dX11_deepest_22 rfl hl (by decide) rfl (fun ls hl => ?_)
        refine lv_iconst (v := (-1)) hx hb dX11_deepest_23 (by decide) ?_
        refine lv_istore_n (lv' := [(3, .int (-1)), (2, .ref (sY 3 0)), (0, .ref (qX 0)), (1, .int p1)]) hx hb dX11_deepest_24 rfl hl (by decide) rfl (fun ls hl => ?_)
        refine lv_iconst (v := (-1)) hx hb dX11_deepest_25 (by decide) ?_
        refine lv_istore (lv' := [(4, .int (-1)), (3, .int (-1)), (2, .ref (sY 3 0)), (0, .ref (qX 0)), (1, .int p1)]) hx hb dX11_deepest_26 hl (by decide) rfl (fun ls hl => ?_)
        refine lv_iconst (v := 0) hx hb dX11_deepest_28 (by decide) ?_
        refine lv_istore (lv' := [(5, .int 0), (4, .int (-1)), (3, .int (-1)), (2, .ref (sY 3 0)), (0, .ref (qX 0)), (1, .int p1)]) hx hb dX11_deepest_29 hl (by decide) rfl (fun ls hl => ?_)
        have lp31_kz431 : ∀ (n9_31 : Nat) (ls : Array Slot) (xz428 : Int32) (xz429 : Int32) (xz430 : Int32), (2147483647 - xz430.toInt).toNat < n9_31 → 0 ≤ xz430.toInt → lv_has ls 7 [(0, .ref (qX 0)), (2, .ref (sY 3 0)), (3, .int xz428), (4, .int xz429), (5, .int xz430)] → W p l e (headSpec wk_c_X11_deepest ({ frames := 1, cells := 0, slots := 0, locals := 22 })).room s m ([.ref (qX 0), .int p1] : List Value).toArray below meth c s.heap [] 0 0 Q (F0 m 31 ls []) := by
          intro n9_31
          induction n9_31 with
          | zero => intro ls xz428 xz429 xz430 hm; exact absurd hm (Nat.not_lt_zero _)
          | succ n9_31 ih31 =>
            intro ls xz428 xz429 xz430 hm31 jz432 hl
            refine lv_iload hx hb dX11_deepest_31 (lv_at hl 4 rfl) ?_
            refine lv_aload_n hx hb dX11_deepest_33 rfl (lv_at hl 0 rfl) ?_
            refine va_get (D := (dC, dI)) (ci := 11) (v := .ref (qV 0)) (C := RX11) (T := TX11) (N := 15) hx hb hts (fun w h => List.mem_cons_of_mem _ (List.mem_append_right _ (List.mem_append_left _ h))) hown hK hP 0 rfl rfl 1 (by decide) (hts (.fieldLink RX11 19 "SagMemory" "told" "LSagMemory$Valley;") (wl_mem 0 rfl)) (fun _ h9 => h9) rfl dX11_deepest_34 ?_
            refine va_get (D := (dC, dI)) (ci := 10) (v := .int (bV 0)) (C := RX10) (T := TX10) (N := 16) hx hb hts (fun w h => List.mem_cons_of_mem _ (List.mem_append_right _ (List.mem_append_right _ (List.mem_append_right _ (List.mem_append_right _ (List.mem_append_left _ h)))))) hown hK hP 5 rfl rfl 11 (by decide) (hts (.fieldLink RX11 212 "SagMemory$Valley" "bridges" "I") (wl_mem 10 rfl)) (fun _ h9 => h9) rfl dX11_deepest_37 ?_
            have bz433 := hbV 0
            refine lv_icmp_ge (tgt := 75) hx hb dX11_deepest_40 (by decide) (fun cz434 => ?_) (fun cz434 => ?_)
            · skip
              have bz435 := fb_rng xz430
              have zz436 : (bV 0).toInt ≤ xz430.toInt := zi_le.mp cz434
              refine lv_iload_n hx hb dX11_deepest_75 rfl (lv_at hl 2 rfl) ?_
              rw [hQ]
              exact W.iret (v := xz428) hx hb hr (fun t ht hW => ⟨xz428, rfl, trivial, ht⟩) (fun _ h => absurd h List.not_mem_nil) dX11_deepest_76
            · skip
              have bz437 := fb_rng xz430
              have zz438 : ¬ (bV 0).toInt ≤ xz430.toInt := fun h9 => cz434 (zi_le.mpr h9)
              refine lv_aload_n hx hb dX11_deepest_43 rfl (lv_at hl 1 rfl) ?_
              refine va_get (D := (dC, dI)) (ci := 7) (v := .ref (sY 3 1)) (C := RX7) (T := TX7) (N := 9) hx hb hts (fun w h => List.mem_cons_of_mem _ (List.mem_append_right _ (List.mem_append_right _ (List.mem_append_right _ (List.mem_append_right _ (List.mem_append_right _ (List.mem_append_left _ h))))))) hown hK hP 48 rfl rfl 0 (by decide) (hts (.fieldLink RX11 194 "SagMemory$State" "memories" "[LSagMemory$Memory;") (wl_mem 11 rfl)) (fun _ h9 => h9) rfl dX11_deepest_44 ?_
              refine lv_iload hx hb dX11_deepest_47 (lv_at hl 4 rfl) ?_
              rcases (show xz430 = 0 ∨ xz430 = 1 ∨ xz430 = 2 by simp only [zi_eq]; show xz430.toInt = 0 ∨ xz430.toInt = 1 ∨ xz430.toInt = 2; omega) with cz439 | cz439 | cz439
              · skip
                have zz440 : xz430.toInt = (0 : Int) := zi_eq.mp cz439
                refine W.eq (g2 := F0 m 49 ls [.int 0, .ref (sY 3 1)]) (by rw [cz439]) ?_
                refine va_aldq hx hb hK hP 49 4 rfl rfl (by unfold vp_in; decide) dX11_deepest_49 ?_
                refine W.eq (g2 := F0 m 50 ls [.ref (sY 3 2)]) rfl ?_
                have hPc := hP.sub (ws' := (List.flatten [(wMem (fun i => sY 3 (i + 2)) k (nY 3) (aY 3))])) [50, 51, 52] rfl
                refine vp_callSi (va_Run.run (va_runV (As := []) (rest := []) ⟨hx, hb, hml, hown, hts⟩ (c_X2_depth l dC dI k (fun i => sY 3 (i + 2)) (nY 3) (aY 3) (hnY 3)) (cwV 0 hts (gk_V (wl_mem 12 rfl) (wl_mem 13 rfl) (wl_mem 14 rfl) (wl_mem 15 rfl) (fun w h => List.mem_cons_of_mem _ (List.mem_append_right _ (List.mem_append_right _ (List.mem_append_right _ (List.mem_append_right _ (List.mem_append_right _ (List.mem_append_right _ (List.mem_append_left _ h)))))))) wkg_c_X2_depth) rfl rfl rfl (by decide +kernel) ⟨Nat.le_of_ble_eq_true rfl, Nat.le_of_ble_eq_true rfl⟩) ⟨fun a U g mk q => by obtain ⟨q0, qP, qK⟩ := q; exact ⟨q0, qP, va_K.moved (u := U) (U := U.calling g mk a) (Vm.Alike.refl U.vm) qK⟩, va_recv hK hPc (ci := 2) (q0 := 0) rfl rfl, fun U hU hW => ⟨rfl, by rw [hU]; exact hPc, va_K.moved hW.alike hK⟩⟩ rfl rfl hl.1 rfl (lv_room (Nat.le_of_ble_eq_true rfl)) dX11_deepest_50 ⟨Nat.le_of_ble_eq_true rfl, Nat.le_of_ble_eq_true rfl⟩)) (fun rz442 gz441 => ?_)
                clear hPc
                refine lv_istore (lv' := [(6, .int rz442), (0, .ref (qX 0)), (2, .ref (sY 3 0)), (3, .int xz428), (4, .int xz429), (5, .int xz430)]) hx hb dX11_deepest_53 hl (by decide) rfl (fun ls hl => ?_)
                refine lv_iload hx hb dX11_deepest_55 (lv_at hl 0 rfl) ?_
                refine lv_iload hx hb dX11_deepest_57 (lv_at hl 4 rfl) ?_
                have ct69_kz452 : ∀ (ls : Array Slot) (xz450 : Int32) (xz451 : Int32), lv_has ls 7 [(0, .ref (qX 0)), (2, .ref (sY 3 0)), (3, .int xz450), (4, .int xz451), (5, .int xz430)] → W p l e (headSpec wk_c_X11_deepest ({ frames := 1, cells := 0, slots := 0, locals := 22 })).room s m ([.ref (qX 0), .int p1] : List Value).toArray below meth c s.heap [] 0 0 Q (F0 m 69 ls []) := by
                  intro ls xz450 xz451  hl
                  obtain ⟨xz453, exz453⟩ : ∃ y : Int32, y = xz430 + Int32.ofInt (1) := ⟨_, rfl⟩
                  have fxz453 : xz453.toInt = xz430.toInt + (1) := by rw [exz453]; exact fb_addI (y := Int32.ofInt (1)) (by show -2147483648 ≤ xz430.toInt + (1); omega) (by show xz430.toInt + (1) < 2147483648; omega)
                  refine lv_iinc (v := xz453) (lv' := [(5, .int xz453), (0, .ref (qX 0)), (2, .ref (sY 3 0)), (3, .int xz450), (4, .int xz451)]) hx hb dX11_deepest_69 hl (k := 4) rfl exz453.symm (by decide) rfl (fun ls hl => ?_)
                  refine lv_goto (tgt := 31) hx hb dX11_deepest_72 (by decide) ?_
                  exact ih31 ls xz450 xz451 xz453 (by show (2147483647 - xz453.toInt).toNat < n9_31; omega) (by show 0 ≤ xz453.toInt; omega) (lv_sub hl [1, 2, 3, 4, 0] rfl)
                refine lv_icmp_le (tgt := 69) hx hb dX11_deepest_59 (by decide) (fun cz454 => ?_) (fun cz454 => ?_)
                · skip
                  have bz455 := fb_rng rz442
                  have bz456 := fb_rng xz429
                  have zz457 : rz442.toInt ≤ xz429.toInt := zi_le.mp cz454
                  exact ct69_kz452 ls xz428 xz429   (lv_sub hl [1, 2, 3, 4, 5] rfl)
                · skip
                  have bz458 := fb_rng rz442
                  have bz459 := fb_rng xz429
                  have zz460 : ¬ rz442.toInt ≤ xz429.toInt := fun h9 => cz454 (zi_le.mpr h9)
                  refine lv_iload hx hb dX11_deepest_62 (lv_at hl 0 rfl) ?_
                  refine lv_istore (lv' := [(4, .int rz442), (6, .int rz442), (0, .ref (qX 0)), (2, .ref (sY 3 0)), (3, .int xz428), (5, .int xz430)]) hx hb dX11_deepest_64 hl (by decide) rfl (fun ls hl => ?_)
                  refine lv_iload hx hb dX11_deepest_66 (lv_at hl 5 rfl) ?_
                  refine lv_istore_n (lv' := [(3, .int xz430), (4, .int rz442), (6, .int rz442), (0, .ref (qX 0)), (2, .ref (sY 3 0)), (5, .int xz430)]) hx hb dX11_deepest_68 rfl hl (by decide) rfl (fun ls hl => ?_)
                  exact ct69_kz452 ls xz430 rz442   (lv_sub hl [3, 4, 0, 1, 5] rfl)
              · skip
                have zz461 : xz430.toInt = (1 : Int) := zi_eq.mp cz439
                refine W.eq (g2 := F0 m 49 ls [.int 1, .ref (sY 3 1)]) (by rw [cz439]) ?_
                refine va_aldq hx hb hK hP 49 4 rfl rfl (by unfold vp_in; decide) dX11_deepest_49 ?_
                refine W.eq (g2 := F0 m 50 ls [.ref (sY 3 5)]) rfl ?_
                have hPc := hP.sub (ws' := (List.flatten [(wMem (fun i => sY 3 (i + 5)) k (fun i => (nY 3) (i + 1)) (fun i => (aY 3) (i + 2)))])) [53, 54, 55] rfl
                refine vp_callSi (va_Run.run (va_runV (As := []) (rest := []) ⟨hx, hb, hml, hown, hts⟩ (c_X2_depth l dC dI k (fun i => sY 3 (i + 5)) (fun i => (nY 3) (i + 1)) (fun i => (aY 3) (i + 2)) (fun i => (hnY 3) (i + 1))) (cwV 0 hts (gk_V (wl_mem 12 rfl) (wl_mem 13 rfl) (wl_mem 14 rfl) (wl_mem 15 rfl) (fun w h => List.mem_cons_of_mem _ (List.mem_append_right _ (List.mem_append_right _ (List.mem_append_right _ (List.mem_append_right _ (List.mem_append_right _ (List.mem_append_right _ (List.mem_append_left _ h)))))))) wkg_c_X2_depth) rfl rfl rfl (by decide +kernel) ⟨Nat.le_of_ble_eq_true rfl, Nat.le_of_ble_eq_true rfl⟩) ⟨fun a U g mk q => by obtain ⟨q0, qP, qK⟩ := q; exact ⟨q0, qP, va_K.moved (u := U) (U := U.calling g mk a) (Vm.Alike.refl U.vm) qK⟩, va_recv hK hPc (ci := 2) (q0 := 0) rfl rfl, fun U hU hW => ⟨rfl, by rw [hU]; exact hPc, va_K.moved hW.alike hK⟩⟩ rfl rfl hl.1 rfl (lv_room (Nat.le_of_ble_eq_true rfl)) dX11_deepest_50 ⟨Nat.le_of_ble_eq_true rfl, Nat.le_of_ble_eq_true rfl⟩)) (fun rz463 gz462 => ?_)
                clear hPc
                refine lv_istore (lv' := [(6, .int rz463), (0, .ref (qX 0)), (2, .ref (sY 3 0)), (3, .int xz428), (4, .int xz429), (5, .int xz430)]) hx hb dX11_deepest_53 hl (by decide) rfl (fun ls hl => ?_)
                refine lv_iload hx hb dX11_deepest_55 (lv_at hl 0 rfl) ?_
                refine lv_iload hx hb dX11_deepest_57 (lv_at hl 4 rfl) ?_
                have ct69_kz473 : ∀ (ls : Array Slot) (xz471 : Int32) (xz472 : Int32), lv_has ls 7 [(0, .ref (qX 0)), (2, .ref (sY 3 0)), (3, .int xz471), (4, .int xz472), (5, .int xz430)] → W p l e (headSpec wk_c_X11_deepest ({ frames := 1, cells := 0, slots := 0, locals := 22 })).room s m ([.ref (qX 0), .int p1] : List Value).toArray below meth c s.heap [] 0 0 Q (F0 m 69 ls []) := by
                  intro ls xz471 xz472  hl
                  obtain ⟨xz474, exz474⟩ : ∃ y : Int32, y = xz430 + Int32.ofInt (1) := ⟨_, rfl⟩
                  have fxz474 : xz474.toInt = xz430.toInt + (1) := by rw [exz474]; exact fb_addI (y := Int32.ofInt (1)) (by show -2147483648 ≤ xz430.toInt + (1); omega) (by show xz430.toInt + (1) < 2147483648; omega)
                  refine lv_iinc (v := xz474) (lv' := [(5, .int xz474), (0, .ref (qX 0)), (2, .ref (sY 3 0)), (3, .int xz471), (4, .int xz472)]) hx hb dX11_deepest_69 hl (k := 4) rfl exz474.symm (by decide) rfl (fun ls hl => ?_)
                  refine lv_goto (tgt := 31) hx hb dX11_deepest_72 (by decide) ?_
                  exact ih31 ls xz471 xz472 xz474 (by show (2147483647 - xz474.toInt).toNat < n9_31; omega) (by show 0 ≤ xz474.toInt; omega) (lv_sub hl [1, 2, 3, 4, 0] rfl)
                refine lv_icmp_le (tgt := 69) hx hb dX11_deepest_59 (by decide) (fun cz475 => ?_) (fun cz475 => ?_)
                · skip
                  have bz476 := fb_rng rz463
                  have bz477 := fb_rng xz429
                  have zz478 : rz463.toInt ≤ xz429.toInt := zi_le.mp cz475
                  exact ct69_kz473 ls xz428 xz429   (lv_sub hl [1, 2, 3, 4, 5] rfl)
                · skip
                  have bz479 := fb_rng rz463
                  have bz480 := fb_rng xz429
                  have zz481 : ¬ rz463.toInt ≤ xz429.toInt := fun h9 => cz475 (zi_le.mpr h9)
                  refine lv_iload hx hb dX11_deepest_62 (lv_at hl 0 rfl) ?_
                  refine lv_istore (lv' := [(4, .int rz463), (6, .int rz463), (0, .ref (qX 0)), (2, .ref (sY 3 0)), (3, .int xz428), (5, .int xz430)]) hx hb dX11_deepest_64 hl (by decide) rfl (fun ls hl => ?_)
                  refine lv_iload hx hb dX11_deepest_66 (lv_at hl 5 rfl) ?_
                  refine lv_istore_n (lv' := [(3, .int xz430), (4, .int rz463), (6, .int rz463), (0, .ref (qX 0)), (2, .ref (sY 3 0)), (5, .int xz430)]) hx hb dX11_deepest_68 rfl hl (by decide) rfl (fun ls hl => ?_)
                  exact ct69_kz473 ls xz430 rz463   (lv_sub hl [3, 4, 0, 1, 5] rfl)
              · skip
                have zz482 : xz430.toInt = (2 : Int) := zi_eq.mp cz439
                refine W.eq (g2 := F0 m 49 ls [.int 2, .ref (sY 3 1)]) (by rw [cz439]) ?_
                refine va_aldq hx hb hK hP 49 4 rfl rfl (by unfold vp_in; decide) dX11_deepest_49 ?_
                refine W.eq (g2 := F0 m 50 ls [.ref (sY 3 8)]) rfl ?_
                have hPc := hP.sub (ws' := (List.flatten [(wMem (fun i => sY 3 (i + 8)) k (fun i => (nY 3) (i + 2)) (fun i => (aY 3) (i + 4)))])) [56, 57, 58] rfl
                refine vp_callSi (va_Run.run (va_runV (As := []) (rest := []) ⟨hx, hb, hml, hown, hts⟩ (c_X2_depth l dC dI k (fun i => sY 3 (i + 8)) (fun i => (nY 3) (i + 2)) (fun i => (aY 3) (i + 4)) (fun i => (hnY 3) (i + 2))) (cwV 0 hts (gk_V (wl_mem 12 rfl) (wl_mem 13 rfl) (wl_mem 14 rfl) (wl_mem 15 rfl) (fun w h => List.mem_cons_of_mem _ (List.mem_append_right _ (List.mem_append_right _ (List.mem_append_right _ (List.mem_append_right _ (List.mem_append_right _ (List.mem_append_right _ (List.mem_append_left _ h)))))))) wkg_c_X2_depth) rfl rfl rfl (by decide +kernel) ⟨Nat.le_of_ble_eq_true rfl, Nat.le_of_ble_eq_true rfl⟩) ⟨fun a U g mk q => by obtain ⟨q0, qP, qK⟩ := q; exact ⟨q0, qP, va_K.moved (u := U) (U := U.calling g mk a) (Vm.Alike.refl U.vm) qK⟩, va_recv hK hPc (ci := 2) (q0 := 0) rfl rfl, fun U hU hW => ⟨rfl, by rw [hU]; exact hPc, va_K.moved hW.alike hK⟩⟩ rfl rfl hl.1 rfl (lv_room (Nat.le_of_ble_eq_true rfl)) dX11_deepest_50 ⟨Nat.le_of_ble_eq_true rfl, Nat.le_of_ble_eq_true rfl⟩)) (fun rz484 gz483 => ?_)
                clear hPc
                refine lv_istore (lv' := [(6, .int rz484), (0, .ref (qX 0)), (2, .ref (sY 3 0)), (3, .int xz428), (4, .int xz429), (5, .int xz430)]) hx hb dX11_deepest_53 hl (by decide) rfl (fun ls hl => ?_)
                refine lv_iload hx hb dX11_deepest_55 (lv_at hl 0 rfl) ?_
                refine lv_iload hx hb dX11_deepest_57 (lv_at hl 4 rfl) ?_
                have ct69_kz494 : ∀ (ls : Array Slot) (xz492 : Int32) (xz493 : Int32), lv_has ls 7 [(0, .ref (qX 0)), (2, .ref (sY 3 0)), (3, .int xz492), (4, .int xz493), (5, .int xz430)] → W p l e (headSpec wk_c_X11_deepest ({ frames := 1, cells := 0, slots := 0, locals := 22 })).room s m ([.ref (qX 0), .int p1] : List Value).toArray below meth c s.heap [] 0 0 Q (F0 m 69 ls []) := by
                  intro ls xz492 xz493  hl
                  obtain ⟨xz495, exz495⟩ : ∃ y : Int32, y = xz430 + Int32.ofInt (1) := ⟨_, rfl⟩
                  have fxz495 : xz495.toInt = xz430.toInt + (1) := by rw [exz495]; exact fb_addI (y := Int32.ofInt (1)) (by show -2147483648 ≤ xz430.toInt + (1); omega) (by show xz430.toInt + (1) < 2147483648; omega)
                  refine lv_iinc (v := xz495) (lv' := [(5, .int xz495), (0, .ref (qX 0)), (2, .ref (sY 3 0)), (3, .int xz492), (4, .int xz493)]) hx hb dX11_deepest_69 hl (k := 4) rfl exz495.symm (by decide) rfl (fun ls hl => ?_)
                  refine lv_goto (tgt := 31) hx hb dX11_deepest_72 (by decide) ?_
                  exact ih31 ls xz492 xz493 xz495 (by show (2147483647 - xz495.toInt).toNat < n9_31; omega) (by show 0 ≤ xz495.toInt; omega) (lv_sub hl [1, 2, 3, 4, 0] rfl)
                refine lv_icmp_le (tgt := 69) hx hb dX11_deepest_59 (by decide) (fun cz496 => ?_) (fun cz496 => ?_)
                · skip
                  have bz497 := fb_rng rz484
                  have bz498 := fb_rng xz429
                  have zz499 : rz484.toInt ≤ xz429.toInt := zi_le.mp cz496
                  exact ct69_kz494 ls xz428 xz429   (lv_sub hl [1, 2, 3, 4, 5] rfl)
                · skip
                  have bz500 := fb_rng rz484
                  have bz501 := fb_rng xz429
                  have zz502 : ¬ rz484.toInt ≤ xz429.toInt := fun h9 => cz496 (zi_le.mpr h9)
                  refine lv_iload hx hb dX11_deepest_62 (lv_at hl 0 rfl) ?_
                  refine lv_istore (lv' := [(4, .int rz484), (6, .int rz484), (0, .ref (qX 0)), (2, .ref (sY 3 0)), (3, .int xz428), (5, .int xz430)]) hx hb dX11_deepest_64 hl (by decide) rfl (fun ls hl => ?_)
                  refine lv_iload hx hb dX11_deepest_66 (lv_at hl 5 rfl) ?_
                  refine lv_istore_n (lv' := [(3, .int xz430), (4, .int rz484), (6, .int rz484), (0, .ref (qX 0)), (2, .ref (sY 3 0)), (5, .int xz430)]) hx hb dX11_deepest_68 rfl hl (by decide) rfl (fun ls hl => ?_)
                  exact ct69_kz494 ls xz430 rz484   (lv_sub hl [3, 4, 0, 1, 5] rfl)
        exact lp31_kz431 _ ls (-1 : Int32) (-1 : Int32) (0 : Int32) (Nat.lt_succ_self _) (by show 0 ≤ (0 : Int); omega) (lv_sub hl [4, 3, 2, 1, 0] rfl)
      · skip
        have zz503 : ¬ p1.toInt < (0 : Int) := fun h9 => cz35 (zi_lt.mpr h9)
        have zz504 : ¬ (7 : Int) ≤ p1.toInt := fun h9 => cz36 (zi_le.mpr h9)
        have zz505 : p1.toInt = (3 : Int) := zi_eq.mp cz37
        refine W.eq (g2 := F0 m 22 ls [.ref (sY 4 0)]) rfl ?_
        refine lv_astore_n (lv' := [(2, .ref (sY 4 0)), (0, .ref (qX 0)), (1, .int p1)]) hx hb dX11_deepest_22 rfl hl (by decide) rfl (fun ls hl => ?_)
        refine lv_iconst (v := (-1)) hx hb dX11_deepest_23 (by decide) ?_
        refine lv_istore_n (lv' := [(3, .int (-1)), (2, .ref (sY 4 0)), (0, .ref (qX 0)), (1, .int p1)]) hx hb dX11_deepest_24 rfl hl (by decide) rfl (fun ls hl => ?_)
        refine lv_iconst (v := (-1)) hx hb dX11_deepest_25 (by decide) ?_
        refine lv_istore (lv' := [(4, .int (-1)), (3, .int (-1)), (2, .ref (sY 4 0)), (0, .ref (qX 0)), (1, .int p1)]) hx hb dX11_deepest_26 hl (by decide) rfl (fun ls hl => ?_)
        refine lv_iconst (v := 0) hx hb dX11_deepest_28 (by decide) ?_
        refine lv_istore (lv' := [(5, .int 0), (4, .int (-1)), (3, .int (-1)), (2, .ref (sY 4 0)), (0, .ref (qX 0)), (1, .int p1)]) hx hb dX11_deepest_29 hl (by decide) rfl (fun ls hl => ?_)
        have lp31_kz582 : ∀ (n9_31 : Nat) (ls : Array Slot) (xz579 : Int32) (xz580 : Int32) (xz581 : Int32), (2147483647 - xz581.toInt).toNat < n9_31 → 0 ≤ xz581.toInt → lv_has ls 7 [(0, .ref (qX 0)), (2, .ref (sY 4 0)), (3, .int xz579), (4, .int xz580), (5, .int xz581)] → W p l e (headSpec wk_c_X11_deepest ({ frames := 1, cells := 0, slots := 0, locals := 22 })).room s m ([.ref (qX 0), .int p1] : List Value).toArray below meth c s.heap [] 0 0 Q (F0 m 31 ls []) := by
          intro n9_31
          induction n9_31 with
          | zero => intro ls xz579 xz580 xz581 hm; exact absurd hm (Nat.not_lt_zero _)
          | succ n9_31 ih31 =>
            intro ls xz579 xz580 xz581 hm31 jz583 hl
            refine lv_iload hx hb dX11_deepest_31 (lv_at hl 4 rfl) ?_
            refine lv_aload_n hx hb dX11_deepest_33 rfl (lv_at hl 0 rfl) ?_
            refine va_get (D := (dC, dI)) (ci := 11) (v := .ref (qV 0)) (C := RX11) (T := TX11) (N := 15) hx hb hts (fun w h => List.mem_cons_of_mem _ (List.mem_append_right _ (List.mem_append_left _ h))) hown hK hP 0 rfl rfl 1 (by decide) (hts (.fieldLink RX11 19 "SagMemory" "told" "LSagMemory$Valley;") (wl_mem 0 rfl)) (fun _ h9 => h9) rfl dX11_deepest_34 ?_
            refine va_get (D := (dC, dI)) (ci := 10) (v := .int (bV 0)) (C := RX10) (T := TX10) (N := 16) hx hb hts (fun w h => List.mem_cons_of_mem _ (List.mem_append_right _ (List.mem_append_right _ (List.mem_append_right _ (List.mem_append_right _ (List.mem_append_left _ h)))))) hown hK hP 5 rfl rfl 11 (by decide) (hts (.fieldLink RX11 212 "SagMemory$Valley" "bridges" "I") (wl_mem 10 rfl)) (fun _ h9 => h9) rfl dX11_deepest_37 ?_
            have bz584 := hbV 0
            refine lv_icmp_ge (tgt := 75) hx hb dX11_deepest_40 (by decide) (fun cz585 => ?_) (fun cz585 => ?_)
            · skip
              have bz586 := fb_rng xz581
              have zz587 : (bV 0).toInt ≤ xz581.toInt := zi_le.mp cz585
              refine lv_iload_n hx hb dX11_deepest_75 rfl (lv_at hl 2 rfl) ?_
              rw [hQ]
              exact W.iret (v := xz579) hx hb hr (fun t ht hW => ⟨xz579, rfl, trivial, ht⟩) (fun _ h => absurd h List.not_mem_nil) dX11_deepest_76
            · skip
              have bz588 := fb_rng xz581
              have zz589 : ¬ (bV 0).toInt ≤ xz581.toInt := fun h9 => cz585 (zi_le.mpr h9)
              refine lv_aload_n hx hb dX11_deepest_43 rfl (lv_at hl 1 rfl) ?_
              refine va_get (D := (dC, dI)) (ci := 7) (v := .ref (sY 4 1)) (C := RX7) (T := TX7) (N := 9) hx hb hts (fun w h => List.mem_cons_of_mem _ (List.mem_append_right _ (List.mem_append_right _ (List.mem_append_right _ (List.mem_append_right _ (List.mem_append_right _ (List.mem_append_left _ h))))))) hown hK hP 59 rfl rfl 0 (by decide) (hts (.fieldLink RX11 194 "SagMemory$State" "memories" "[LSagMemory$Memory;") (wl_mem 11 rfl)) (fun _ h9 => h9) rfl dX11_deepest_44 ?_
              refine lv_iload hx hb dX11_deepest_47 (lv_at hl 4 rfl) ?_
              rcases (show xz581 = 0 ∨ xz581 = 1 ∨ xz581 = 2 by simp only [zi_eq]; show xz581.toInt = 0 ∨ xz581.toInt = 1 ∨ xz581.toInt = 2; omega) with cz590 | cz590 | cz590
              · skip
                have zz591 : xz581.toInt = (0 : Int) := zi_eq.mp cz590
                refine W.eq (g2 := F0 m 49 ls [.int 0, .ref (sY 4 1)]) (by rw [cz590]) ?_
                refine va_aldq hx hb hK hP 60 4 rfl rfl (by unfold vp_in; decide) dX11_deepest_49 ?_
                refine W.eq (g2 := F0 m 50 ls [.ref (sY 4 2)]) rfl ?_
                have hPc := hP.sub (ws' := (List.flatten [(wMem (fun i => sY 4 (i + 2)) k (nY 4) (aY 4))])) [61, 62, 63] rfl
                refine vp_callSi (va_Run.run (va_runV (As := []) (rest := []) ⟨hx, hb, hml, hown, hts⟩ (c_X2_depth l dC dI k (fun i => sY 4 (i + 2)) (nY 4) (aY 4) (hnY 4)) (cwV 0 hts (gk_V (wl_mem 12 rfl) (wl_mem 13 rfl) (wl_mem 14 rfl) (wl_mem 15 rfl) (fun w h => List.mem_cons_of_mem _ (List.mem_append_right _ (List.mem_append_right _ (List.mem_append_right _ (List.mem_append_right _ (List.mem_append_right _ (List.mem_append_right _ (List.mem_append_left _ h)))))))) wkg_c_X2_depth) rfl rfl rfl (by decide +kernel) ⟨Nat.le_of_ble_eq_true rfl, Nat.le_of_ble_eq_true rfl⟩) ⟨fun a U g mk q => by obtain ⟨q0, qP, qK⟩ := q; exact ⟨q0, qP, va_K.moved (u := U) (U := U.calling g mk a) (Vm.Alike.refl U.vm) qK⟩, va_recv hK hPc (ci := 2) (q0 := 0) rfl rfl, fun U hU hW => ⟨rfl, by rw [hU]; exact hPc, va_K.moved hW.alike hK⟩⟩ rfl rfl hl.1 rfl (lv_room (Nat.le_of_ble_eq_true rfl)) dX11_deepest_50 ⟨Nat.le_of_ble_eq_true rfl, Nat.le_of_ble_eq_true rfl⟩)) (fun rz593 gz592 => ?_)
                clear hPc
                refine lv_istore (lv' := [(6, .int rz593), (0, .ref (qX 0)), (2, .ref (sY 4 0)), (3, .int xz579), (4, .int xz580), (5, .int xz581)]) hx hb dX11_deepest_53 hl (by decide) rfl (fun ls hl => ?_)
                refine lv_iload hx hb dX11_deepest_55 (lv_at hl 0 rfl) ?_
                refine lv_iload hx hb dX11_deepest_57 (lv_at hl 4 rfl) ?_
                have ct69_kz603 : ∀ (ls : Array Slot) (xz601 : Int32) (xz602 : Int32), lv_has ls 7 [(0, .ref (qX 0)), (2, .ref (sY 4 0)), (3, .int xz601), (4, .int xz602), (5, .int xz581)] → W p l e (headSpec wk_c_X11_deepest ({ frames := 1, cells := 0, slots := 0, locals := 22 })).room s m ([.ref (qX 0), .int p1] : List Value).toArray below meth c s.heap [] 0 0 Q (F0 m 69 ls []) := by
                  intro ls xz601 xz602  hl
                  obtain ⟨xz604, exz604⟩ : ∃ y : Int32, y = xz581 + Int32.ofInt (1) := ⟨_, rfl⟩
                  have fxz604 : xz604.toInt = xz581.toInt + (1) := by rw [exz604]; exact fb_addI (y := Int32.ofInt (1)) (by show -2147483648 ≤ xz581.toInt + (1); omega) (by show xz581.toInt + (1) < 2147483648; omega)
                  refine lv_iinc (v := xz604) (lv' := [(5, .int xz604), (0, .ref (qX 0)), (2, .ref (sY 4 0)), (3, .int xz601), (4, .int xz602)]) hx hb dX11_deepest_69 hl (k := 4) rfl exz604.symm (by decide) rfl (fun ls hl => ?_)
                  refine lv_goto (tgt := 31) hx hb dX11_deepest_72 (by decide) ?_
                  exact ih31 ls xz601 xz602 xz604 (by show (2147483647 - xz604.toInt).toNat < n9_31; omega) (by show 0 ≤ xz604.toInt; omega) (lv_sub hl [1, 2, 3, 4, 0] rfl)
                refine lv_icmp_le (tgt := 69) hx hb dX11_deepest_59 (by decide) (fun cz605 => ?_) (fun cz605 => ?_)
                · skip
                  have bz606 := fb_rng rz593
                  have bz607 := fb_rng xz580
                  have zz608 : rz593.toInt ≤ xz580.toInt := zi_le.mp cz605
                  exact ct69_kz603 ls xz579 xz580   (lv_sub hl [1, 2, 3, 4, 5] rfl)
                · skip
                  have bz609 := fb_rng rz593
                  have bz610 := fb_rng xz580
                  have zz611 : ¬ rz593.toInt ≤ xz580.toInt := fun h9 => cz605 (zi_le.mpr h9)
                  refine lv_iload hx hb dX11_deepest_62 (lv_at hl 0 rfl) ?_
                  refine lv_istore (lv' := [(4, .int rz593), (6, .int rz593), (0, .ref (qX 0)), (2, .ref (sY 4 0)), (3, .int xz579), (5, .int xz581)]) hx hb dX11_deepest_64 hl (by decide) rfl (fun ls hl => ?_)
                  refine lv_iload hx hb dX11_deepest_66 (lv_at hl 5 rfl) ?_
                  refine lv_istore_n (lv' := [(3, .int xz581), (4, .int rz593), (6, .int rz593), (0, .ref (qX 0)), (2, .ref (sY 4 0)), (5, .int xz581)]) hx hb dX11_deepest_68 rfl hl (by decide) rfl (fun ls hl => ?_)
                  exact ct69_kz603 ls xz581 rz593   (lv_sub hl [3, 4, 0, 1, 5] rfl)
              · skip
                have zz612 : xz581.toInt = (1 : Int) := zi_eq.mp cz590
                refine W.eq (g2 := F0 m 49 ls [.int 1, .ref (sY 4 1)]) (by rw [cz590]) ?_
                refine va_aldq hx hb hK hP 60 4 rfl rfl (by unfold vp_in; decide) dX11_deepest_49 ?_
                refine W.eq (g2 := F0 m 50 ls [.ref (sY 4 5)]) rfl ?_
                have hPc := hP.sub (ws' := (List.flatten [(wMem (fun i => sY 4 (i + 5)) k (fun i => (nY 4) (i + 1)) (fun i => (aY 4) (i + 2)))])) [64, 65, 66] rfl
                refine vp_callSi (va_Run.run (va_runV (As := []) (rest := []) ⟨hx, hb, hml, hown, hts⟩ (c_X2_depth l dC dI k (fun i => sY 4 (i + 5)) (fun i => (nY 4) (i + 1)) (fun i => (aY 4) (i + 2)) (fun i => (hnY 4) (i + 1))) (cwV 0 hts (gk_V (wl_mem 12 rfl) (wl_mem 13 rfl) (wl_mem 14 rfl) (wl_mem 15 rfl) (fun w h => List.mem_cons_of_mem _ (List.mem_append_right _ (List.mem_append_right _ (List.mem_append_right _ (List.mem_append_right _ (List.mem_append_right _ (List.mem_append_right _ (List.mem_append_left _ h)))))))) wkg_c_X2_depth) rfl rfl rfl (by decide +kernel) ⟨Nat.le_of_ble_eq_true rfl, Nat.le_of_ble_eq_true rfl⟩) ⟨fun a U g mk q => by obtain ⟨q0, qP, qK⟩ := q; exact ⟨q0, qP, va_K.moved (u := U) (U := U.calling g mk a) (Vm.Alike.refl U.vm) qK⟩, va_recv hK hPc (ci := 2) (q0 := 0) rfl rfl, fun U hU hW => ⟨rfl, by rw [hU]; exact hPc, va_K.moved hW.alike hK⟩⟩ rfl rfl hl.1 rfl (lv_room (Nat.le_of_ble_eq_true rfl)) dX11_deepest_50 ⟨Nat.le_of_ble_eq_true rfl, Nat.le_of_ble_eq_true rfl⟩)) (fun rz614 gz613 => ?_)
                clear hPc
                refine lv_istore (lv' := [(6, .int rz614), (0, .ref (qX 0)), (2, .ref (sY 4 0)), (3, .int xz579), (4, .int xz580), (5, .int xz581)]) hx hb dX11_deepest_53 hl (by decide) rfl (fun ls hl => ?_)
                refine lv_iload hx hb dX11_deepest_55 (lv_at hl 0 rfl) ?_
                refine lv_iload hx hb dX11_deepest_57 (lv_at hl 4 rfl) ?_
                have ct69_kz624 : ∀ (ls : Array Slot) (xz622 : Int32) (xz623 : Int32), lv_has ls 7 [(0, .ref (qX 0)), (2, .ref (sY 4 0)), (3, .int xz622), (4, .int xz623), (5, .int xz581)] → W p l e (headSpec wk_c_X11_deepest ({ frames := 1, cells := 0, slots := 0, locals := 22 })).room s m ([.ref (qX 0), .int p1] : List Value).toArray below meth c s.heap [] 0 0 Q (F0 m 69 ls []) := by
                  intro ls xz622 xz623  hl
                  obtain ⟨xz625, exz625⟩ : ∃ y : Int32, y = xz581 + Int32.ofInt (1) := ⟨_, rfl⟩
                  have fxz625 : xz625.toInt = xz581.toInt + (1) := by rw [exz625]; exact fb_addI (y := Int32.ofInt (1)) (by show -2147483648 ≤ xz581.toInt + (1); omega) (by show xz581.toInt + (1) < 2147483648; omega)
                  refine lv_iinc (v := xz625) (lv' := [(5, .int xz625), (0, .ref (qX 0)), (2, .ref (sY 4 0)), (3, .int xz622), (4, .int xz623)]) hx hb dX11_deepest_69 hl (k := 4) rfl exz625.symm (by decide) rfl (fun ls hl => ?_)
                  refine lv_goto (tgt := 31) hx hb dX11_deepest_72 (by decide) ?_
                  exact ih31 ls xz622 xz623 xz625 (by show (2147483647 - xz625.toInt).toNat < n9_31; omega) (by show 0 ≤ xz625.toInt; omega) (lv_sub hl [1, 2, 3, 4, 0] rfl)
                refine lv_icmp_le (tgt := 69) hx hb dX11_deepest_59 (by decide) (fun cz626 => ?_) (fun cz626 => ?_)
                · skip
                  have bz627 := fb_rng rz614
                  have bz628 := fb_rng xz580
                  have zz629 : rz614.toInt ≤ xz580.toInt := zi_le.mp cz626
                  exact ct69_kz624 ls xz579 xz580   (lv_sub hl [1, 2, 3, 4, 5] rfl)
                · skip
                  have bz630 := fb_rng rz614
                  have bz631 := fb_rng xz580
                  have zz632 : ¬ rz614.toInt ≤ xz580.toInt := fun h9 => cz626 (zi_le.mpr h9)
                  refine lv_iload hx hb dX11_deepest_62 (lv_at hl 0 rfl) ?_
                  refine lv_istore (lv' := [(4, .int rz614), (6, .int rz614), (0, .ref (qX 0)), (2, .ref (sY 4 0)), (3, .int xz579), (5, .int xz581)]) hx hb dX11_deepest_64 hl (by decide) rfl (fun ls hl => ?_)
                  refine lv_iload hx hb dX11_deepest_66 (lv_at hl 5 rfl) ?_
                  refine lv_istore_n (lv' := [(3, .int xz581), (4, .int rz614), (6, .int rz614), (0, .ref (qX 0)), (2, .ref (sY 4 0)), (5, .int xz581)]) hx hb dX11_deepest_68 rfl hl (by decide) rfl (fun ls hl => ?_)
                  exact ct69_kz624 ls xz581 rz614   (lv_sub hl [3, 4, 0, 1, 5] rfl)
              · skip
                have zz633 : xz581.toInt = (2 : Int) := zi_eq.mp cz590
                refine W.eq (g2 := F0 m 49 ls [.int 2, .ref (sY 4 1)]) (by rw [cz590]) ?_
                refine va_aldq hx hb hK hP 60 4 rfl rfl (by unfold vp_in; decide) dX11_deepest_49 ?_
                refine W.eq (g2 := F0 m 50 ls [.ref (sY 4 8)]) rfl ?_
                have hPc := hP.sub (ws' := (List.flatten [(wMem (fun i => sY 4 (i + 8)) k (fun i => (nY 4) (i + 2)) (fun i => (aY 4) (i + 4)))])) [67, 68, 69] rfl
                refine vp_callSi (va_Run.run (va_runV (As := []) (rest := []) ⟨hx, hb, hml, hown, hts⟩ (c_X2_depth l dC dI k (fun i => sY 4 (i + 8)) (fun i => (nY 4) (i + 2)) (fun i => (aY 4) (i + 4)) (fun i => (hnY 4) (i + 2))) (cwV 0 hts (gk_V (wl_mem 12 rfl) (wl_mem 13 rfl) (wl_mem 14 rfl) (wl_mem 15 rfl) (fun w h => List.mem_cons_of_mem _ (List.mem_append_right _ (List.mem_append_right _ (List.mem_append_right _ (List.mem_append_right _ (List.mem_append_right _ (List.mem_append_right _ (List.mem_append_left _ h)))))))) wkg_c_X2_depth) rfl rfl rfl (by decide +kernel) ⟨Nat.le_of_ble_eq_true rfl, Nat.le_of_ble_eq_true rfl⟩) ⟨fun a U g mk q => by obtain ⟨q0, qP, qK⟩ := q; exact ⟨q0, qP, va_K.moved (u := U) (U := U.calling g mk a) (Vm.Alike.refl U.vm) qK⟩, va_recv hK hPc (ci := 2) (q0 := 0) rfl rfl, fun U hU hW => ⟨rfl, by rw [hU]; exact hPc, va_K.moved hW.alike hK⟩⟩ rfl rfl hl.1 rfl (lv_room (Nat.le_of_ble_eq_true rfl)) dX11_deepest_50 ⟨Nat.le_of_ble_eq_true rfl, Nat.le_of_ble_eq_true rfl⟩)) (fun rz635 gz634 => ?_)
                clear hPc
                refine lv_istore (lv' := [(6, .int rz635), (0, .ref (qX 0)), (2, .ref (sY 4 0)), (3, .int xz579), (4, .int xz580), (5, .int xz581)]) hx hb dX11_deepest_53 hl (by decide) rfl (fun ls hl => ?_)
                refine lv_iload hx hb dX11_deepest_55 (lv_at hl 0 rfl) ?_
                refine lv_iload hx hb dX11_deepest_57 (lv_at hl 4 rfl) ?_
                have ct69_kz645 : ∀ (ls : Array Slot) (xz643 : Int32) (xz644 : Int32), lv_has ls 7 [(0, .ref (qX 0)), (2, .ref (sY 4 0)), (3, .int xz643), (4, .int xz644), (5, .int xz581)] → W p l e (headSpec wk_c_X11_deepest ({ frames := 1, cells := 0, slots := 0, locals := 22 })).room s m ([.ref (qX 0), .int p1] : List Value).toArray below meth c s.heap [] 0 0 Q (F0 m 69 ls []) := by
                  intro ls xz643 xz644  hl
                  obtain ⟨xz646, exz646⟩ : ∃ y : Int32, y = xz581 + Int32.ofInt (1) := ⟨_, rfl⟩
                  have fxz646 : xz646.toInt = xz581.toInt + (1) := by rw [exz646]; exact fb_addI (y := Int32.ofInt (1)) (by show -2147483648 ≤ xz581.toInt + (1); omega) (by show xz581.toInt + (1) < 2147483648; omega)
                  refine lv_iinc (v := xz646) (lv' := [(5, .int xz646), (0, .ref (qX 0)), (2, .ref (sY 4 0)), (3, .int xz643), (4, .int xz644)]) hx hb dX11_deepest_69 hl (k := 4) rfl exz646.symm (by decide) rfl (fun ls hl => ?_)
                  refine lv_goto (tgt := 31) hx hb dX11_deepest_72 (by decide) ?_
                  exact ih31 ls xz643 xz644 xz646 (by show (2147483647 - xz646.toInt).toNat < n9_31; omega) (by show 0 ≤ xz646.toInt; omega) (lv_sub hl [1, 2, 3, 4, 0] rfl)
                refine lv_icmp_le (tgt := 69) hx hb dX11_deepest_59 (by decide) (fun cz647 => ?_) (fun cz647 => ?_)
                · skip
                  have bz648 := fb_rng rz635
                  have bz649 := fb_rng xz580
                  have zz650 : rz635.toInt ≤ xz580.toInt := zi_le.mp cz647
                  exact ct69_kz645 ls xz579 xz580   (lv_sub hl [1, 2, 3, 4, 5] rfl)
                · skip
                  have bz651 := fb_rng rz635
                  have bz652 := fb_rng xz580
                  have zz653 : ¬ rz635.toInt ≤ xz580.toInt := fun h9 => cz647 (zi_le.mpr h9)
                  refine lv_iload hx hb dX11_deepest_62 (lv_at hl 0 rfl) ?_
                  refine lv_istore (lv' := [(4, .int rz635), (6, .int rz635), (0, .ref (qX 0)), (2, .ref (sY 4 0)), (3, .int xz579), (5, .int xz581)]) hx hb dX11_deepest_64 hl (by decide) rfl (fun ls hl => ?_)
                  refine lv_iload hx hb dX11_deepest_66 (lv_at hl 5 rfl) ?_
                  refine lv_istore_n (lv' := [(3, .int xz581), (4, .int rz635), (6, .int rz635), (0, .ref (qX 0)), (2, .ref (sY 4 0)), (5, .int xz581)]) hx hb dX11_deepest_68 rfl hl (by decide) rfl (fun ls hl => ?_)
                  exact ct69_kz645 ls xz581 rz635   (lv_sub hl [3, 4, 0, 1, 5] rfl)
        exact lp31_kz582 _ ls (-1 : Int32) (-1 : Int32) (0 : Int32) (Nat.lt_succ_self _) (by show 0 ≤ (0 : Int); omega) (lv_sub hl [4, 3, 2, 1, 0] rfl)
      · skip
        have zz654 : ¬ p1.toInt < (0 : Int) := fun h9 => cz38 (zi_lt.mpr h9)
        have zz655 : ¬ (7 : Int) ≤ p1.toInt := fun h9 => cz39 (zi_le.mpr h9)
        have zz656 : p1.toInt = (4 : Int) := zi_eq.mp cz40
        refine W.eq (g2 := F0 m 22 ls [.ref (sY 5 0)]) rfl ?_
        refine lv_astore_n (lv' := [(2, .ref (sY 5 0)), (0, .ref (qX 0)), (1, .int p1)]) hx hb dX11_deepest_22 rfl hl (by decide) rfl (fun ls hl => ?_)
        refine lv_iconst (v := (-1)) hx hb dX11_deepest_23 (by decide) ?_
        refine lv_istore_n (lv' := [(3, .int (-1)), (2, .ref (sY 5 0)), (0, .ref (qX 0)), (1, .int p1)]) hx hb dX11_deepest_24 rfl hl (by decide) rfl (fun ls hl => ?_)
        refine lv_iconst (v := (-1)) hx hb dX11_deepest_25 (by decide) ?_
        refine lv_istore (lv' := [(4, .int (-1)), (3, .int (-1)), (2, .ref (sY 5 0)), (0, .ref (qX 0)), (1, .int p1)]) hx hb dX11_deepest_26 hl (by decide) rfl (fun ls hl => ?_)
        refine lv_iconst (v := 0) hx hb dX11_deepest_28 (by decide) ?_
        refine lv_istore (lv' := [(5, .int 0), (4, .int (-1)), (3, .int (-1)), (2, .ref (sY 5 0)), (0, .ref (qX 0)), (1, .int p1)]) hx hb dX11_deepest_29 hl (by decide) rfl (fun ls hl => ?_)
        have lp31_kz733 : ∀ (n9_31 : Nat) (ls : Array Slot) (xz730 : Int32) (xz731 : Int32) (xz732 : Int32), (2147483647 - xz732.toInt).toNat < n9_31 → 0 ≤ xz732.toInt → lv_has ls 7 [(0, .ref (qX 0)), (2, .ref (sY 5 0)), (3, .int xz730), (4, .int xz731), (5, .int xz732)] → W p l e (headSpec wk_c_X11_deepest ({ frames := 1, cells := 0, slots := 0, locals := 22 })).room s m ([.ref (qX 0), .int p1] : List Value).toArray below meth c s.heap [] 0 0 Q (F0 m 31 ls []) := by
          intro n9_31
          induction n9_31 with
          | zero => intro ls xz730 xz731 xz732 hm; exact absurd hm (Nat.not_lt_zero _)
          | succ n9_31 ih31 =>
            intro ls xz730 xz731 xz732 hm31 jz734 hl
            refine lv_iload hx hb dX11_deepest_31 (lv_at hl 4 rfl) ?_
            refine lv_aload_n hx hb dX11_deepest_33 rfl (lv_at hl 0 rfl) ?_
            refine va_get (D := (dC, dI)) (ci := 11) (v := .ref (qV 0)) (C := RX11) (T := TX11) (N := 15) hx hb hts (fun w h => List.mem_cons_of_mem _ (List.mem_append_right _ (List.mem_append_left _ h))) hown hK hP 0 rfl rfl 1 (by decide) (hts (.fieldLink RX11 19 "SagMemory" "told" "LSagMemory$Valley;") (wl_mem 0 rfl)) (fun _ h9 => h9) rfl dX11_deepest_34 ?_
            refine va_get (D := (dC, dI)) (ci := 10) (v := .int (bV 0)) (C := RX10) (T := TX10) (N := 16) hx hb hts (fun w h => List.mem_cons_of_mem _ (List.mem_append_right _ (List.mem_append_right _ (List.mem_append_right _ (List.mem_append_right _ (List.mem_append_left _ h)))))) hown hK hP 5 rfl rfl 11 (by decide) (hts (.fieldLink RX11 212 "SagMemory$Valley" "bridges" "I") (wl_mem 10 rfl)) (fun _ h9 => h9) rfl dX11_deepest_37 ?_
            have bz735 := hbV 0
            refine lv_icmp_ge (tgt := 75) hx hb dX11_deepest_40 (by decide) (fun cz736 => ?_) (fun cz736 => ?_)
            · skip
              have bz737 := fb_rng xz732
              have zz738 : (bV 0).toInt ≤ xz732.toInt := zi_le.mp cz736
              refine lv_iload_n hx hb dX11_deepest_75 rfl (lv_at hl 2 rfl) ?_
              rw [hQ]
              exact W.iret (v := xz730) hx hb hr (fun t ht hW => ⟨xz730, rfl, trivial, ht⟩) (fun _ h => absurd h List.not_mem_nil) dX11_deepest_76
            · skip
              have bz739 := fb_rng xz732
              have zz740 : ¬ (bV 0).toInt ≤ xz732.toInt := fun h9 => cz736 (zi_le.mpr h9)
              refine lv_aload_n hx hb dX11_deepest_43 rfl (lv_at hl 1 rfl) ?_
              refine va_get (D := (dC, dI)) (ci := 7) (v := .ref (sY 5 1)) (C := RX7) (T := TX7) (N := 9) hx hb hts (fun w h => List.mem_cons_of_mem _ (List.mem_append_right _ (List.mem_append_right _ (List.mem_append_right _ (List.mem_append_right _ (List.mem_append_right _ (List.mem_append_left _ h))))))) hown hK hP 70 rfl rfl 0 (by decide) (hts (.fieldLink RX11 194 "SagMemory$State" "memories" "[LSagMemory$Memory;") (wl_mem 11 rfl)) (fun _ h9 => h9) rfl dX11_deepest_44 ?_
              refine lv_iload hx hb dX11_deepest_47 (lv_at hl 4 rfl) ?_
              rcases (show xz732 = 0 ∨ xz732 = 1 ∨ xz732 = 2 by simp only [zi_eq]; show xz732.toInt = 0 ∨ xz732.toInt = 1 ∨ xz732.toInt = 2; omega) with cz741 | cz741 | cz741
              · skip
                have zz742 : xz732.toInt = (0 : Int) := zi_eq.mp cz741
                refine W.eq (g2 := F0 m 49 ls [.int 0, .ref (sY 5 1)]) (by rw [cz741]) ?_
                refine va_aldq hx hb hK hP 71 4 rfl rfl (by unfold vp_in; decide) dX11_deepest_49 ?_
                refine W.eq (g2 := F0 m 50 ls [.ref (sY 5 2)]) rfl ?_
                have hPc := hP.sub (ws' := (List.flatten [(wMem (fun i => sY 5 (i + 2)) k (nY 5) (aY 5))])) [72, 73, 74] rfl
                refine vp_callSi (va_Run.run (va_runV (As := []) (rest := []) ⟨hx, hb, hml, hown, hts⟩ (c_X2_depth l dC dI k (fun i => sY 5 (i + 2)) (nY 5) (aY 5) (hnY 5)) (cwV 0 hts (gk_V (wl_mem 12 rfl) (wl_mem 13 rfl) (wl_mem 14 rfl) (wl_mem 15 rfl) (fun w h => List.mem_cons_of_mem _ (List.mem_append_right _ (List.mem_append_right _ (List.mem_append_right _ (List.mem_append_right _ (List.mem_append_right _ (List.mem_append_right _ (List.mem_append_left _ h)))))))) wkg_c_X2_depth) rfl rfl rfl (by decide +kernel) ⟨Nat.le_of_ble_eq_true rfl, Nat.le_of_ble_eq_true rfl⟩) ⟨fun a U g mk q => by obtain ⟨q0, qP, qK⟩ := q; exact ⟨q0, qP, va_K.moved (u := U) (U := U.calling g mk a) (Vm.Alike.refl U.vm) qK⟩, va_recv hK hPc (ci := 2) (q0 := 0) rfl rfl, fun U hU hW => ⟨rfl, by rw [hU]; exact hPc, va_K.moved hW.alike hK⟩⟩ rfl rfl hl.1 rfl (lv_room (Nat.le_of_ble_eq_true rfl)) dX11_deepest_50 ⟨Nat.le_of_ble_eq_true rfl, Nat.le_of_ble_eq_true rfl⟩)) (fun rz744 gz743 => ?_)
                clear hPc
                refine lv_istore (lv' := [(6, .int rz744), (0, .ref (qX 0)), (2, .ref (sY 5 0)), (3, .int xz730), (4, .int xz731), (5, .int xz732)]) hx hb dX11_deepest_53 hl (by decide) rfl (fun ls hl => ?_)
                refine lv_iload hx hb dX11_deepest_55 (lv_at hl 0 rfl) ?_
                refine lv_iload hx hb dX11_deepest_57 (lv_at hl 4 rfl) ?_
                have ct69_kz754 : ∀ (ls : Array Slot) (xz752 : Int32) (xz753 : Int32), lv_has ls 7 [(0, .ref (qX 0)), (2, .ref (sY 5 0)), (3, .int xz752), (4, .int xz753), (5, .int xz732)] → W p l e (headSpec wk_c_X11_deepest ({ frames := 1, cells := 0, slots := 0, locals := 22 })).room s m ([.ref (qX 0), .int p1] : List Value).toArray below meth c s.heap [] 0 0 Q (F0 m 69 ls []) := by
                  intro ls xz752 xz753  hl
                  obtain ⟨xz755, exz755⟩ : ∃ y : Int32, y = xz732 + Int32.ofInt (1) := ⟨_, rfl⟩
                  have fxz755 : xz755.toInt = xz732.toInt + (1) := by rw [exz755]; exact fb_addI (y := Int32.ofInt (1)) (by show -2147483648 ≤ xz732.toInt + (1); omega) (by show xz732.toInt + (1) < 2147483648; omega)
                  refine lv_iinc (v := xz755) (lv' := [(5, .int xz755), (0, .ref (qX 0)), (2, .ref (sY 5 0)), (3, .int xz752), (4, .int xz753)]) hx hb dX11_deepest_69 hl (k := 4) rfl exz755.symm (by decide) rfl (fun ls hl => ?_)
                  refine lv_goto (tgt := 31) hx hb dX11_deepest_72 (by decide) ?_
                  exact ih31 ls xz752 xz753 xz755 (by show (2147483647 - xz755.toInt).toNat < n9_31; omega) (by show 0 ≤ xz755.toInt; omega) (lv_sub hl [1, 2, 3, 4, 0] rfl)
                refine lv_icmp_le (tgt := 69) hx hb dX11_deepest_59 (by decide) (fun cz756 => ?_) (fun cz756 => ?_)
                · skip
                  have bz757 := fb_rng rz744
                  have bz758 := fb_rng xz731
                  have zz759 : rz744.toInt ≤ xz731.toInt := zi_le.mp cz756
                  exact ct69_kz754 ls xz730 xz731   (lv_sub hl [1, 2, 3, 4, 5] rfl)
                · skip
                  have bz760 := fb_rng rz744
                  have bz761 := fb_rng xz731
                  have zz762 : ¬ rz744.toInt ≤ xz731.toInt := fun h9 => cz756 (zi_le.mpr h9)
                  refine lv_iload hx hb dX11_deepest_62 (lv_at hl 0 rfl) ?_
                  refine lv_istore (lv' := [(4, .int rz744), (6, .int rz744), (0, .ref (qX 0)), (2, .ref (sY 5 0)), (3, .int xz730), (5, .int xz732)]) hx hb dX11_deepest_64 hl (by decide) rfl (fun ls hl => ?_)
                  refine lv_iload hx hb dX11_deepest_66 (lv_at hl 5 rfl) ?_
                  refine lv_istore_n (lv' := [(3, .int xz732), (4, .int rz744), (6, .int rz744), (0, .ref (qX 0)), (2, .ref (sY 5 0)), (5, .int xz732)]) hx hb dX11_deepest_68 rfl hl (by decide) rfl (fun ls hl => ?_)
                  exact ct69_kz754 ls xz732 rz744   (lv_sub hl [3, 4, 0, 1, 5] rfl)
              · skip
                have zz763 : xz732.toInt = (1 : Int) := zi_eq.mp cz741
                refine W.eq (g2 := F0 m 49 ls [.int 1, .ref (sY 5 1)]) (by rw [cz741]) ?_
                refine va_aldq hx hb hK hP 71 4 rfl rfl (by unfold vp_in; decide) dX11_deepest_49 ?_
                refine W.eq (g2 := F0 m 50 ls [.ref (sY 5 5)]) rfl ?_
                have hPc := hP.sub (ws' := (List.flatten [(wMem (fun i => sY 5 (i + 5)) k (fun i => (nY 5) (i + 1)) (fun i => (aY 5) (i + 2)))])) [75, 76, 77] rfl
                refine vp_callSi (va_Run.run (va_runV (As := []) (rest := []) ⟨hx, hb, hml, hown, hts⟩ (c_X2_depth l dC dI k (fun i => sY 5 (i + 5)) (fun i => (nY 5) (i + 1)) (fun i => (aY 5) (i + 2)) (fun i => (hnY 5) (i + 1))) (cwV 0 hts (gk_V (wl_mem 12 rfl) (wl_mem 13 rfl) (wl_mem 14 rfl) (wl_mem 15 rfl) (fun w h => List.mem_cons_of_mem _ (List.mem_append_right _ (List.mem_append_right _ (List.mem_append_right _ (List.mem_append_right _ (List.mem_append_right _ (List.mem_append_right _ (List.mem_append_left _ h)))))))) wkg_c_X2_depth) rfl rfl rfl (by decide +kernel) ⟨Nat.le_of_ble_eq_true rfl, Nat.le_of_ble_eq_true rfl⟩) ⟨fun a U g mk q => by obtain ⟨q0, qP, qK⟩ := q; exact ⟨q0, qP, va_K.moved (u := U) (U := U.calling g mk a) (Vm.Alike.refl U.vm) qK⟩, va_recv hK hPc (ci := 2) (q0 := 0) rfl rfl, fun U hU hW => ⟨rfl, by rw [hU]; exact hPc, va_K.moved hW.alike hK⟩⟩ rfl rfl hl.1 rfl (lv_room (Nat.le_of_ble_eq_true rfl)) dX11_deepest_50 ⟨Nat.le_of_ble_eq_true rfl, Nat.le_of_ble_eq_true rfl⟩)) (fun rz765 gz764 => ?_)
                clear hPc
                refine lv_istore (lv' := [(6, .int rz765), (0, .ref (qX 0)), (2, .ref (sY 5 0)), (3, .int xz730), (4, .int xz731), (5, .int xz732)]) hx hb dX11_deepest_53 hl (by decide) rfl (fun ls hl => ?_)
                refine lv_iload hx hb dX11_deepest_55 (lv_at hl 0 rfl) ?_
                refine lv_iload hx hb dX11_deepest_57 (lv_at hl 4 rfl) ?_
                have ct69_kz775 : ∀ (ls : Array Slot) (xz773 : Int32) (xz774 : Int32), lv_has ls 7 [(0, .ref (qX 0)), (2, .ref (sY 5 0)), (3, .int xz773), (4, .int xz774), (5, .int xz732)] → W p l e (headSpec wk_c_X11_deepest ({ frames := 1, cells := 0, slots := 0, locals := 22 })).room s m ([.ref (qX 0), .int p1] : List Value).toArray below meth c s.heap [] 0 0 Q (F0 m 69 ls []) := by
                  intro ls xz773 xz774  hl
                  obtain ⟨xz776, exz776⟩ : ∃ y : Int32, y = xz732 + Int32.ofInt (1) := ⟨_, rfl⟩
                  have fxz776 : xz776.toInt = xz732.toInt + (1) := by rw [exz776]; exact fb_addI (y := Int32.ofInt (1)) (by show -2147483648 ≤ xz732.toInt + (1); omega) (by show xz732.toInt + (1) < 2147483648; omega)
                  refine lv_iinc (v := xz776) (lv' := [(5, .int xz776), (0, .ref (qX 0)), (2, .ref (sY 5 0)), (3, .int xz773), (4, .int xz774)]) hx hb dX11_deepest_69 hl (k := 4) rfl exz776.symm (by decide) rfl (fun ls hl => ?_)
                  refine lv_goto (tgt := 31) hx hb dX11_deepest_72 (by decide) ?_
                  exact ih31 ls xz773 xz774 xz776 (by show (2147483647 - xz776.toInt).toNat < n9_31; omega) (by show 0 ≤ xz776.toInt; omega) (lv_sub hl [1, 2, 3, 4, 0] rfl)
                refine lv_icmp_le (tgt := 69) hx hb dX11_deepest_59 (by decide) (fun cz777 => ?_) (fun cz777 => ?_)
                · skip
                  have bz778 := fb_rng rz765
                  have bz779 := fb_rng xz731
                  have zz780 : rz765.toInt ≤ xz731.toInt := zi_le.mp cz777
                  exact ct69_kz775 ls xz730 xz731   (lv_sub hl [1, 2, 3, 4, 5] rfl)
                · skip
                  have bz781 := fb_rng rz765
                  have bz782 := fb_rng xz731
                  have zz783 : ¬ rz765.toInt ≤ xz731.toInt := fun h9 => cz777 (zi_le.mpr h9)
                  refine lv_iload hx hb dX11_deepest_62 (lv_at hl 0 rfl) ?_
                  refine lv_istore (lv' := [(4, .int rz765), (6, .int rz765), (0, .ref (qX 0)), (2, .ref (sY 5 0)), (3, .int xz730), (5, .int xz732)]) hx hb dX11_deepest_64 hl (by decide) rfl (fun ls hl => ?_)
                  refine lv_iload hx hb dX11_deepest_66 (lv_at hl 5 rfl) ?_
                  refine lv_istore_n (lv' := [(3, .int xz732), (4, .int rz765), (6, .int rz765), (0, .ref (qX 0)), (2, .ref (sY 5 0)), (5, .int xz732)]) hx hb dX11_deepest_68 rfl hl (by decide) rfl (fun ls hl => ?_)
                  exact ct69_kz775 ls xz732 rz765   (lv_sub hl [3, 4, 0, 1, 5] rfl)
              · skip
                have zz784 : xz732.toInt = (2 : Int) := zi_eq.mp cz741
                refine W.eq (g2 := F0 m 49 ls [.int 2, .ref (sY 5 1)]) (by rw [cz741]) ?_
                refine va_aldq hx hb hK hP 71 4 rfl rfl (by unfold vp_in; decide) dX11_deepest_49 ?_
                refine W.eq (g2 := F0 m 50 ls [.ref (sY 5 8)]) rfl ?_
                have hPc := hP.sub (ws' := (List.flatten [(wMem (fun i => sY 5 (i + 8)) k (fun i => (nY 5) (i + 2)) (fun i => (aY 5) (i + 4)))])) [78, 79, 80] rfl
                refine vp_callSi (va_Run.run (va_runV (As := []) (rest := []) ⟨hx, hb, hml, hown, hts⟩ (c_X2_depth l dC dI k (fun i => sY 5 (i + 8)) (fun i => (nY 5) (i + 2)) (fun i => (aY 5) (i + 4)) (fun i => (hnY 5) (i + 2))) (cwV 0 hts (gk_V (wl_mem 12 rfl) (wl_mem 13 rfl) (wl_mem 14 rfl) (wl_mem 15 rfl) (fun w h => List.mem_cons_of_mem _ (List.mem_append_right _ (List.mem_append_right _ (List.mem_append_right _ (List.mem_append_right _ (List.mem_append_right _ (List.mem_append_right _ (List.mem_append_left _ h)))))))) wkg_c_X2_depth) rfl rfl rfl (by decide +kernel) ⟨Nat.le_of_ble_eq_true rfl, Nat.le_of_ble_eq_true rfl⟩) ⟨fun a U g mk q => by obtain ⟨q0, qP, qK⟩ := q; exact ⟨q0, qP, va_K.moved (u := U) (U := U.calling g mk a) (Vm.Alike.refl U.vm) qK⟩, va_recv hK hPc (ci := 2) (q0 := 0) rfl rfl, fun U hU hW => ⟨rfl, by rw [hU]; exact hPc, va_K.moved hW.alike hK⟩⟩ rfl rfl hl.1 rfl (lv_room (Nat.le_of_ble_eq_true rfl)) dX11_deepest_50 ⟨Nat.le_of_ble_eq_true rfl, Nat.le_of_ble_eq_true rfl⟩)) (fun rz786 gz785 => ?_)
                clear hPc
                refine lv_istore (lv' := [(6, .int rz786), (0, .ref (qX 0)), (2, .ref (sY 5 0)), (3, .int xz730), (4, .int xz731), (5, .int xz732)]) hx hb dX11_deepest_53 hl (by decide) rfl (fun ls hl => ?_)
                refine lv_iload hx hb dX11_deepest_55 (lv_at hl 0 rfl) ?_
                refine lv_iload hx hb dX11_deepest_57 (lv_at hl 4 rfl) ?_
                have ct69_kz796 : ∀ (ls : Array Slot) (xz794 : Int32) (xz795 : Int32), lv_has ls 7 [(0, .ref (qX 0)), (2, .ref (sY 5 0)), (3, .int xz794), (4, .int xz795), (5, .int xz732)] → W p l e (headSpec wk_c_X11_deepest ({ frames := 1, cells := 0, slots := 0, locals := 22 })).room s m ([.ref (qX 0), .int p1] : List Value).toArray below meth c s.heap [] 0 0 Q (F0 m 69 ls []) := by
                  intro ls xz794 xz795  hl
                  obtain ⟨xz797, exz797⟩ : ∃ y : Int32, y = xz732 + Int32.ofInt (1) := ⟨_, rfl⟩
                  have fxz797 : xz797.toInt = xz732.toInt + (1) := by rw [exz797]; exact fb_addI (y := Int32.ofInt (1)) (by show -2147483648 ≤ xz732.toInt + (1); omega) (by show xz732.toInt + (1) < 2147483648; omega)
                  refine lv_iinc (v := xz797) (lv' := [(5, .int xz797), (0, .ref (qX 0)), (2, .ref (sY 5 0)), (3, .int xz794), (4, .int xz795)]) hx hb dX11_deepest_69 hl (k := 4) rfl exz797.symm (by decide) rfl (fun ls hl => ?_)
                  refine lv_goto (tgt := 31) hx hb dX11_deepest_72 (by decide) ?_
                  exact ih31 ls xz794 xz795 xz797 (by show (2147483647 - xz797.toInt).toNat < n9_31; omega) (by show 0 ≤ xz797.toInt; omega) (lv_sub hl [1, 2, 3, 4, 0] rfl)
                refine lv_icmp_le (tgt := 69) hx hb dX11_deepest_59 (by decide) (fun cz798 => ?_) (fun cz798 => ?_)
                · skip
                  have bz799 := fb_rng rz786
                  have bz800 := fb_rng xz731
                  have zz801 : rz786.toInt ≤ xz731.toInt := zi_le.mp cz798
                  exact ct69_kz796 ls xz730 xz731   (lv_sub hl [1, 2, 3, 4, 5] rfl)
                · skip
                  have bz802 := fb_rng rz786
                  have bz803 := fb_rng xz731
                  have zz804 : ¬ rz786.toInt ≤ xz731.toInt := fun h9 => cz798 (zi_le.mpr h9)
                  refine lv_iload hx hb dX11_deepest_62 (lv_at hl 0 rfl) ?_
                  refine lv_istore (lv' := [(4, .int rz786), (6, .int rz786), (0, .ref (qX 0)), (2, .ref (sY 5 0)), (3, .int xz730), (5, .int xz732)]) hx hb dX11_deepest_64 hl (by decide) rfl (fun ls hl => ?_)
                  refine lv_iload hx hb dX11_deepest_66 (lv_at hl 5 rfl) ?_
                  refine lv_istore_n (lv' := [(3, .int xz732), (4, .int rz786), (6, .int rz786), (0, .ref (qX 0)), (2, .ref (sY 5 0)), (5, .int xz732)]) hx hb dX11_deepest_68 rfl hl (by decide) rfl (fun ls hl => ?_)
                  exact ct69_kz796 ls xz732 rz786   (lv_sub hl [3, 4, 0, 1, 5] rfl)
        exact lp31_kz733 _ ls (-1 : Int32) (-1 : Int32) (0 : Int32) (Nat.lt_succ_self _) (by show 0 ≤ (0 : Int); omega) (lv_sub hl [4, 3, 2, 1, 0] rfl)
      · skip
        have zz805 : ¬ p1.toInt < (0 : Int) := fun h9 => cz41 (zi_lt.mpr h9)
        have zz806 : ¬ (7 : Int) ≤ p1.toInt := fun h9 => cz42 (zi_le.mpr h9)
        have zz807 : p1.toInt = (5 : Int) := zi_eq.mp cz43
        refine W.eq (g2 := F0 m 22 ls [.ref (sY 6 0)]) rfl ?_
        refine lv_astore_n (lv' := [(2, .ref (sY 6 0)), (0, .ref (qX 0)), (1, .int p1)]) hx hb dX11_deepest_22 rfl hl (by decide) rfl (fun ls hl => ?_)
        refine lv_iconst (v := (-1)) hx hb dX11_deepest_23 (by decide) ?_
        refine lv_istore_n (lv' := [(3, .int (-1)), (2, .ref (sY 6 0)), (0, .ref (qX 0)), (1, .int p1)]) hx hb dX11_deepest_24 rfl hl (by decide) rfl (fun ls hl => ?_)
        refine lv_iconst (v := (-1)) hx hb dX11_deepest_25 (by decide) ?_
        refine lv_istore (lv' := [(4, .int (-1)), (3, .int (-1)), (2, .ref (sY 6 0)), (0, .ref (qX 0)), (1, .int p1)]) hx hb dX11_deepest_26 hl (by decide) rfl (fun ls hl => ?_)
        refine lv_iconst (v := 0) hx hb dX11_deepest_28 (by decide) ?_
        refine lv_istore (lv' := [(5, .int 0), (4, .int (-1)), (3, .int (-1)), (2, .ref (sY 6 0)), (0, .ref (qX 0)), (1, .int p1)]) hx hb dX11_deepest_29 hl (by decide) rfl (fun ls hl => ?_)
        have lp31_kz884 : ∀ (n9_31 : Nat) (ls : Array Slot) (xz881 : Int32) (xz882 : Int32) (xz883 : Int32), (2147483647 - xz883.toInt).toNat < n9_31 → 0 ≤ xz883.toInt → lv_has ls 7 [(0, .ref (qX 0)), (2, .ref (sY 6 0)), (3, .int xz881), (4, .int xz882), (5, .int xz883)] → W p l e (headSpec wk_c_X11_deepest ({ frames := 1, cells := 0, slots := 0, locals := 22 })).room s m ([.ref (qX 0), .int p1] : List Value).toArray below meth c s.heap [] 0 0 Q (F0 m 31 ls []) := by
          intro n9_31
          induction n9_31 with
          | zero => intro ls xz881 xz882 xz883 hm; exact absurd hm (Nat.not_lt_zero _)
          | succ n9_31 ih31 =>
            intro ls xz881 xz882 xz883 hm31 jz885 hl
            refine lv_iload hx hb dX11_deepest_31 (lv_at hl 4 rfl) ?_
            refine lv_aload_n hx hb dX11_deepest_33 rfl (lv_at hl 0 rfl) ?_
            refine va_get (D := (dC, dI)) (ci := 11) (v := .ref (qV 0)) (C := RX11) (T := TX11) (N := 15) hx hb hts (fun w h => List.mem_cons_of_mem _ (List.mem_append_right _ (List.mem_append_left _ h))) hown hK hP 0 rfl rfl 1 (by decide) (hts (.fieldLink RX11 19 "SagMemory" "told" "LSagMemory$Valley;") (wl_mem 0 rfl)) (fun _ h9 => h9) rfl dX11_deepest_34 ?_
            refine va_get (D := (dC, dI)) (ci := 10) (v := .int (bV 0)) (C := RX10) (T := TX10) (N := 16) hx hb hts (fun w h => List.mem_cons_of_mem _ (List.mem_append_right _ (List.mem_append_right _ (List.mem_append_right _ (List.mem_append_right _ (List.mem_append_left _ h)))))) hown hK hP 5 rfl rfl 11 (by decide) (hts (.fieldLink RX11 212 "SagMemory$Valley" "bridges" "I") (wl_mem 10 rfl)) (fun _ h9 => h9) rfl dX11_deepest_37 ?_
            have bz886 := hbV 0
            refine lv_icmp_ge (tgt := 75) hx hb dX11_deepest_40 (by decide) (fun cz887 => ?_) (fun cz887 => ?_)
            · skip
              have bz888 := fb_rng xz883
              have zz889 : (bV 0).toInt ≤ xz883.toInt := zi_le.mp cz887
              refine lv_iload_n hx hb dX11_deepest_75 rfl (lv_at hl 2 rfl) ?_
              rw [hQ]
              exact W.iret (v := xz881) hx hb hr (fun t ht hW => ⟨xz881, rfl, trivial, ht⟩) (fun _ h => absurd h List.not_mem_nil) dX11_deepest_76
            · skip
              have bz890 := fb_rng xz883
              have zz891 : ¬ (bV 0).toInt ≤ xz883.toInt := fun h9 => cz887 (zi_le.mpr h9)
              refine lv_aload_n hx hb dX11_deepest_43 rfl (lv_at hl 1 rfl) ?_
              refine va_get (D := (dC, dI)) (ci := 7) (v := .ref (sY 6 1)) (C := RX7) (T := TX7) (N := 9) hx hb hts (fun w h => List.mem_cons_of_mem _ (List.mem_append_right _ (List.mem_append_right _ (List.mem_append_right _ (List.mem_append_right _ (List.mem_append_right _ (List.mem_append_left _ h))))))) hown hK hP 81 rfl rfl 0 (by decide) (hts (.fieldLink RX11 194 "SagMemory$State" "memories" "[LSagMemory$Memory;") (wl_mem 11 rfl)) (fun _ h9 => h9) rfl dX11_deepest_44 ?_
              refine lv_iload hx hb dX11_deepest_47 (lv_at hl 4 rfl) ?_
              rcases (show xz883 = 0 ∨ xz883 = 1 ∨ xz883 = 2 by simp only [zi_eq]; show xz883.toInt = 0 ∨ xz883.toInt = 1 ∨ xz883.toInt = 2; omega) with cz892 | cz892 | cz892
              · skip
                have zz893 : xz883.toInt = (0 : Int) := zi_eq.mp cz892
                refine W.eq (g2 := F0 m 49 ls [.int 0, .ref (sY 6 1)]) (by rw [cz892]) ?_
                refine va_aldq hx hb hK hP 82 4 rfl rfl (by unfold vp_in; decide) dX11_deepest_49 ?_
                refine W.eq (g2 := F0 m 50 ls [.ref (sY 6 2)]) rfl ?_
                have hPc := hP.sub (ws' := (List.flatten [(wMem (fun i => sY 6 (i + 2)) k (nY 6) (aY 6))])) [83, 84, 85] rfl
                refine vp_callSi (va_Run.run (va_runV (As := []) (rest := []) ⟨hx, hb, hml, hown, hts⟩ (c_X2_depth l dC dI k (fun i => sY 6 (i + 2)) (nY 6) (aY 6) (hnY 6)) (cwV 0 hts (gk_V (wl_mem 12 rfl) (wl_mem 13 rfl) (wl_mem 14 rfl) (wl_mem 15 rfl) (fun w h => List.mem_cons_of_mem _ (List.mem_append_right _ (List.mem_append_right _ (List.mem_append_right _ (List.mem_append_right _ (List.mem_append_right _ (List.mem_append_right _ (List.mem_append_left _ h)))))))) wkg_c_X2_depth) rfl rfl rfl (by decide +kernel) ⟨Nat.le_of_ble_eq_true rfl, Nat.le_of_ble_eq_true rfl⟩) ⟨fun a U g mk q => by obtain ⟨q0, qP, qK⟩ := q; exact ⟨q0, qP, va_K.moved (u := U) (U := U.calling g mk a) (Vm.Alike.refl U.vm) qK⟩, va_recv hK hPc (ci := 2) (q0 := 0) rfl rfl, fun U hU hW => ⟨rfl, by rw [hU]; exact hPc, va_K.moved hW.alike hK⟩⟩ rfl rfl hl.1 rfl (lv_room (Nat.le_of_ble_eq_true rfl)) dX11_deepest_50 ⟨Nat.le_of_ble_eq_true rfl, Nat.le_of_ble_eq_true rfl⟩)) (fun rz895 gz894 => ?_)
                clear hPc
                refine lv_istore (lv' := [(6, .int rz895), (0, .ref (qX 0)), (2, .ref (sY 6 0)), (3, .int xz881), (4, .int xz882), (5, .int xz883)]) hx hb dX11_deepest_53 hl (by decide) rfl (fun ls hl => ?_)
                refine lv_iload hx hb dX11_deepest_55 (lv_at hl 0 rfl) ?_
                refine lv_iload hx hb dX11_deepest_57 (lv_at hl 4 rfl) ?_
                have ct69_kz905 : ∀ (ls : Array Slot) (xz903 : Int32) (xz904 : Int32), lv_has ls 7 [(0, .ref (qX 0)), (2, .ref (sY 6 0)), (3, .int xz903), (4, .int xz904), (5, .int xz883)] → W p l e (headSpec wk_c_X11_deepest ({ frames := 1, cells := 0, slots := 0, locals := 22 })).room s m ([.ref (qX 0), .int p1] : List Value).toArray below meth c s.heap [] 0 0 Q (F0 m 69 ls []) := by
                  intro ls xz903 xz904  hl
                  obtain ⟨xz906, exz906⟩ : ∃ y : Int32, y = xz883 + Int32.ofInt (1) := ⟨_, rfl⟩
                  have fxz906 : xz906.toInt = xz883.toInt + (1) := by rw [exz906]; exact fb_addI (y := Int32.ofInt (1)) (by show -2147483648 ≤ xz883.toInt + (1); omega) (by show xz883.toInt + (1) < 2147483648; omega)
                  refine lv_iinc (v := xz906) (lv' := [(5, .int xz906), (0, .ref (qX 0)), (2, .ref (sY 6 0)), (3, .int xz903), (4, .int xz904)]) hx hb dX11_deepest_69 hl (k := 4) rfl exz906.symm (by decide) rfl (fun ls hl => ?_)
                  refine lv_goto (tgt := 31) hx hb dX11_deepest_72 (by decide) ?_
                  exact ih31 ls xz903 xz904 xz906 (by show (2147483647 - xz906.toInt).toNat < n9_31; omega) (by show 0 ≤ xz906.toInt; omega) (lv_sub hl [1, 2, 3, 4, 0] rfl)
                refine lv_icmp_le (tgt := 69) hx hb dX11_deepest_59 (by decide) (fun cz907 => ?_) (fun cz907 => ?_)
                · skip
                  have bz908 := fb_rng rz895
                  have bz909 := fb_rng xz882
                  have zz910 : rz895.toInt ≤ xz882.toInt := zi_le.mp cz907
                  exact ct69_kz905 ls xz881 xz882   (lv_sub hl [1, 2, 3, 4, 5] rfl)
                · skip
                  have bz911 := fb_rng rz895
                  have bz912 := fb_rng xz882
                  have zz913 : ¬ rz895.toInt ≤ xz882.toInt := fun h9 => cz907 (zi_le.mpr h9)
                  refine lv_iload hx hb dX11_deepest_62 (lv_at hl 0 rfl) ?_
                  refine lv_istore (lv' := [(4, .int rz895), (6, .int rz895), (0, .ref (qX 0)), (2, .ref (sY 6 0)), (3, .int xz881), (5, .int xz883)]) hx hb dX11_deepest_64 hl (by decide) rfl (fun ls hl => ?_)
                  refine lv_iload hx hb dX11_deepest_66 (lv_at hl 5 rfl) ?_
                  refine lv_istore_n (lv' := [(3, .int xz883), (4, .int rz895), (6, .int rz895), (0, .ref (qX 0)), (2, .ref (sY 6 0)), (5, .int xz883)]) hx hb dX11_deepest_68 rfl hl (by decide) rfl (fun ls hl => ?_)
                  exact ct69_kz905 ls xz883 rz895   (lv_sub hl [3, 4, 0, 1, 5] rfl)
              · skip
                have zz914 : xz883.toInt = (1 : Int) := zi_eq.mp cz892
                refine W.eq (g2 := F0 m 49 ls [.int 1, .ref (sY 6 1)]) (by rw [cz892]) ?_
                refine va_aldq hx hb hK hP 82 4 rfl rfl (by unfold vp_in; decide) dX11_deepest_49 ?_
                refine W.eq (g2 := F0 m 50 ls [.ref (sY 6 5)]) rfl ?_
                have hPc := hP.sub (ws' := (List.flatten [(wMem (fun i => sY 6 (i + 5)) k (fun i => (nY 6) (i + 1)) (fun i => (aY 6) (i + 2)))])) [86, 87, 88] rfl
                refine vp_callSi (va_Run.run (va_runV (As := []) (rest := []) ⟨hx, hb, hml, hown, hts⟩ (c_X2_depth l dC dI k (fun i => sY 6 (i + 5)) (fun i => (nY 6) (i + 1)) (fun i => (aY 6) (i + 2)) (fun i => (hnY 6) (i + 1))) (cwV 0 hts (gk_V (wl_mem 12 rfl) (wl_mem 13 rfl) (wl_mem 14 rfl) (wl_mem 15 rfl) (fun w h => List.mem_cons_of_mem _ (List.mem_append_right _ (List.mem_append_right _ (List.mem_append_right _ (List.mem_append_right _ (List.mem_append_right _ (List.mem_append_right _ (List.mem_append_left _ h)))))))) wkg_c_X2_depth) rfl rfl rfl (by decide +kernel) ⟨Nat.le_of_ble_eq_true rfl, Nat.le_of_ble_eq_true rfl⟩) ⟨fun a U g mk q => by obtain ⟨q0, qP, qK⟩ := q; exact ⟨q0, qP, va_K.moved (u := U) (U := U.calling g mk a) (Vm.Alike.refl U.vm) qK⟩, va_recv hK hPc (ci := 2) (q0 := 0) rfl rfl, fun U hU hW => ⟨rfl, by rw [hU]; exact hPc, va_K.moved hW.alike hK⟩⟩ rfl rfl hl.1 rfl (lv_room (Nat.le_of_ble_eq_true rfl)) dX11_deepest_50 ⟨Nat.le_of_ble_eq_true rfl, Nat.le_of_ble_eq_true rfl⟩)) (fun rz916 gz915 => ?_)
                clear hPc
                refine lv_istore (lv' := [(6, .int rz916), (0, .ref (qX 0)), (2, .ref (sY 6 0)), (3, .int xz881), (4, .int xz882), (5, .int xz883)]) hx hb dX11_deepest_53 hl (by decide) rfl (fun ls hl => ?_)
                refine lv_iload hx hb dX11_deepest_55 (lv_at hl 0 rfl) ?_
                refine lv_iload hx hb dX11_deepest_57 (lv_at hl 4 rfl) ?_
                have ct69_kz926 : ∀ (ls : Array Slot) (xz924 : Int32) (xz925 : Int32), lv_has ls 7 [(0, .ref (qX 0)), (2, .ref (sY 6 0)), (3, .int xz924), (4, .int xz925), (5, .int xz883)] → W p l e (headSpec wk_c_X11_deepest ({ frames := 1, cells := 0, slots := 0, locals := 22 })).room s m ([.ref (qX 0), .int p1] : List Value).toArray below meth c s.heap [] 0 0 Q (F0 m 69 ls []) := by
                  intro ls xz924 xz925  hl
                  obtain ⟨xz927, exz927⟩ : ∃ y : Int32, y = xz883 + Int32.ofInt (1) := ⟨_, rfl⟩
                  have fxz927 : xz927.toInt = xz883.toInt + (1) := by rw [exz927]; exact fb_addI (y := Int32.ofInt (1)) (by show -2147483648 ≤ xz883.toInt + (1); omega) (by show xz883.toInt + (1) < 2147483648; omega)
                  refine lv_iinc (v := xz927) (lv' := [(5, .int xz927), (0, .ref (qX 0)), (2, .ref (sY 6 0)), (3, .int xz924), (4, .int xz925)]) hx hb dX11_deepest_69 hl (k := 4) rfl exz927.symm (by decide) rfl (fun ls hl => ?_)
                  refine lv_goto (tgt := 31) hx hb dX11_deepest_72 (by decide) ?_
                  exact ih31 ls xz924 xz925 xz927 (by show (2147483647 - xz927.toInt).toNat < n9_31; omega) (by show 0 ≤ xz927.toInt; omega) (lv_sub hl [1, 2, 3, 4, 0] rfl)
                refine lv_icmp_le (tgt := 69) hx hb dX11_deepest_59 (by decide) (fun cz928 => ?_) (fun cz928 => ?_)
                · skip
                  have bz929 := fb_rng rz916
                  have bz930 := fb_rng xz882
                  have zz931 : rz916.toInt ≤ xz882.toInt := zi_le.mp cz928
                  exact ct69_kz926 ls xz881 xz882   (lv_sub hl [1, 2, 3, 4, 5] rfl)
                · skip
                  have bz932 := fb_rng rz916
                  have bz933 := fb_rng xz882
                  have zz934 : ¬ rz916.toInt ≤ xz882.toInt := fun h9 => cz928 (zi_le.mpr h9)
                  refine lv_iload hx hb dX11_deepest_62 (lv_at hl 0 rfl) ?_
                  refine lv_istore (lv' := [(4, .int rz916), (6, .int rz916), (0, .ref (qX 0)), (2, .ref (sY 6 0)), (3, .int xz881), (5, .int xz883)]) hx hb dX11_deepest_64 hl (by decide) rfl (fun ls hl => ?_)
                  refine lv_iload hx hb dX11_deepest_66 (lv_at hl 5 rfl) ?_
                  refine lv_istore_n (lv' := [(3, .int xz883), (4, .int rz916), (6, .int rz916), (0, .ref (qX 0)), (2, .ref (sY 6 0)), (5, .int xz883)]) hx hb dX11_deepest_68 rfl hl (by decide) rfl (fun ls hl => ?_)
                  exact ct69_kz926 ls xz883 rz916   (lv_sub hl [3, 4, 0, 1, 5] rfl)
              · skip
                have zz935 : xz883.toInt = (2 : Int) := zi_eq.mp cz892
                refine W.eq (g2 := F0 m 49 ls [.int 2, .ref (sY 6 1)]) (by rw [cz892]) ?_
                refine va_aldq hx hb hK hP 82 4 rfl rfl (by unfold vp_in; decide) dX11_deepest_49 ?_
                refine W.eq (g2 := F0 m 50 ls [.ref (sY 6 8)]) rfl ?_
                have hPc := hP.sub (ws' := (List.flatten [(wMem (fun i => sY 6 (i + 8)) k (fun i => (nY 6) (i + 2)) (fun i => (aY 6) (i + 4)))])) [89, 90, 91] rfl
                refine vp_callSi (va_Run.run (va_runV (As := []) (rest := []) ⟨hx, hb, hml, hown, hts⟩ (c_X2_depth l dC dI k (fun i => sY 6 (i + 8)) (fun i => (nY 6) (i + 2)) (fun i => (aY 6) (i + 4)) (fun i => (hnY 6) (i + 2))) (cwV 0 hts (gk_V (wl_mem 12 rfl) (wl_mem 13 rfl) (wl_mem 14 rfl) (wl_mem 15 rfl) (fun w h => List.mem_cons_of_mem _ (List.mem_append_right _ (List.mem_append_right _ (List.mem_append_right _ (List.mem_append_right _ (List.mem_append_right _ (List.mem_append_right _ (List.mem_append_left _ h)))))))) wkg_c_X2_depth) rfl rfl rfl (by decide +kernel) ⟨Nat.le_of_ble_eq_true rfl, Nat.le_of_ble_eq_true rfl⟩) ⟨fun a U g mk q => by obtain ⟨q0, qP, qK⟩ := q; exact ⟨q0, qP, va_K.moved (u := U) (U := U.calling g mk a) (Vm.Alike.refl U.vm) qK⟩, va_recv hK hPc (ci := 2) (q0 := 0) rfl rfl, fun U hU hW => ⟨rfl, by rw [hU]; exact hPc, va_K.moved hW.alike hK⟩⟩ rfl rfl hl.1 rfl (lv_room (Nat.le_of_ble_eq_true rfl)) dX11_deepest_50 ⟨Nat.le_of_ble_eq_true rfl, Nat.le_of_ble_eq_true rfl⟩)) (fun rz937 gz936 => ?_)
                clear hPc
                refine lv_istore (lv' := [(6, .int rz937), (0, .ref (qX 0)), (2, .ref (sY 6 0)), (3, .int xz881), (4, .int xz882), (5, .int xz883)]) hx hb dX11_deepest_53 hl (by decide) rfl (fun ls hl => ?_)
                refine lv_iload hx hb dX11_deepest_55 (lv_at hl 0 rfl) ?_
                refine lv_iload hx hb dX11_deepest_57 (lv_at hl 4 rfl) ?_
                have ct69_kz947 : ∀ (ls : Array Slot) (xz945 : Int32) (xz946 : Int32), lv_has ls 7 [(0, .ref (qX 0)), (2, .ref (sY 6 0)), (3, .int xz945), (4, .int xz946), (5, .int xz883)] → W p l e (headSpec wk_c_X11_deepest ({ frames := 1, cells := 0, slots := 0, locals := 22 })).room s m ([.ref (qX 0), .int p1] : List Value).toArray below meth c s.heap [] 0 0 Q (F0 m 69 ls []) := by
                  intro ls xz945 xz946  hl
                  obtain ⟨xz948, exz948⟩ : ∃ y : Int32, y = xz883 + Int32.ofInt (1) := ⟨_, rfl⟩
                  have fxz948 : xz948.toInt = xz883.toInt + (1) := by rw [exz948]; exact fb_addI (y := Int32.ofInt (1)) (by show -2147483648 ≤ xz883.toInt + (1); omega) (by show xz883.toInt + (1) < 2147483648; omega)
                  refine lv_iinc (v := xz948) (lv' := [(5, .int xz948), (0, .ref (qX 0)), (2, .ref (sY 6 0)), (3, .int xz945), (4, .int xz946)]) hx hb dX11_deepest_69 hl (k := 4) rfl exz948.symm (by decide) rfl (fun ls hl => ?_)
                  refine lv_goto (tgt := 31) hx hb dX11_deepest_72 (by decide) ?_
                  exact ih31 ls xz945 xz946 xz948 (by show (2147483647 - xz948.toInt).toNat < n9_31; omega) (by show 0 ≤ xz948.toInt; omega) (lv_sub hl [1, 2, 3, 4, 0] rfl)
                refine lv_icmp_le (tgt := 69) hx hb dX11_deepest_59 (by decide) (fun cz949 => ?_) (fun cz949 => ?_)
                · skip
                  have bz950 := fb_rng rz937
                  have bz951 := fb_rng xz882
                  have zz952 : rz937.toInt ≤ xz882.toInt := zi_le.mp cz949
                  exact ct69_kz947 ls xz881 xz882   (lv_sub hl [1, 2, 3, 4, 5] rfl)
                · skip
                  have bz953 := fb_rng rz937
                  have bz954 := fb_rng xz882
                  have zz955 : ¬ rz937.toInt ≤ xz882.toInt := fun h9 => cz949 (zi_le.mpr h9)
                  refine lv_iload hx hb dX11_deepest_62 (lv_at hl 0 rfl) ?_
                  refine lv_istore (lv' := [(4, .int rz937), (6, .int rz937), (0, .ref (qX 0)), (2, .ref (sY 6 0)), (3, .int xz881), (5, .int xz883)]) hx hb dX11_deepest_64 hl (by decide) rfl (fun ls hl => ?_)
                  refine lv_iload hx hb dX11_deepest_66 (lv_at hl 5 rfl) ?_
                  refine lv_istore_n (lv' := [(3, .int xz883), (4, .int rz937), (6, .int rz937), (0, .ref (qX 0)), (2, .ref (sY 6 0)), (5, .int xz883)]) hx hb dX11_deepest_68 rfl hl (by decide) rfl (fun ls hl => ?_)
                  exact ct69_kz947 ls xz883 rz937   (lv_sub hl [3, 4, 0, 1, 5] rfl)
        exact lp31_kz884 _ ls (-1 : Int32) (-1 : Int32) (0 : Int32) (Nat.lt_succ_self _) (by show 0 ≤ (0 : Int); omega) (lv_sub hl [4, 3, 2, 1, 0] rfl)
      · skip
        have zz956 : ¬ p1.toInt < (0 : Int) := fun h9 => cz44 (zi_lt.mpr h9)
        have zz957 : ¬ (7 : Int) ≤ p1.toInt := fun h9 => cz45 (zi_le.mpr h9)
        have zz958 : p1.toInt = (6 : Int) := zi_eq.mp cz46
        refine W.eq (g2 := F0 m 22 ls [.ref (sY 7 0)]) rfl ?_
        refine lv_astore_n (lv' := [(2, .ref (sY 7 0)), (0, .ref (qX 0)), (1, .int p1)]) hx hb dX11_deepest_22 rfl hl (by decide) rfl (fun ls hl => ?_)
        refine lv_iconst (v := (-1)) hx hb dX11_deepest_23 (by decide) ?_
        refine lv_istore_n (lv' := [(3, .int (-1)), (2, .ref (sY 7 0)), (0, .ref (qX 0)), (1, .int p1)]) hx hb dX11_deepest_24 rfl hl (by decide) rfl (fun ls hl => ?_)
        refine lv_iconst (v := (-1)) hx hb dX11_deepest_25 (by decide) ?_
        refine lv_istore (lv' := [(4, .int (-1)), (3, .int (-1)), (2, .ref (sY 7 0)), (0, .ref (qX 0)), (1, .int p1)]) hx hb dX11_deepest_26 hl (by decide) rfl (fun ls hl => ?_)
        refine lv_iconst (v := 0) hx hb dX11_deepest_28 (by decide) ?_
        refine lv_istore (lv' := [(5, .int 0), (4, .int (-1)), (3, .int (-1)), (2, .ref (sY 7 0)), (0, .ref (qX 0)), (1, .int p1)]) hx hb dX11_deepest_29 hl (by decide) rfl (fun ls hl => ?_)
        have lp31_kz1035 : ∀ (n9_31 : Nat) (ls : Array Slot) (xz1032 : Int32) (xz1033 : Int32) (xz1034 : Int32), (2147483647 - xz1034.toInt).toNat < n9_31 → 0 ≤ xz1034.toInt → lv_has ls 7 [(0, .ref (qX 0)), (2, .ref (sY 7 0)), (3, .int xz1032), (4, .int xz1033), (5, .int xz1034)] → W p l e (headSpec wk_c_X11_deepest ({ frames := 1, cells := 0, slots := 0, locals := 22 })).room s m ([.ref (qX 0), .int p1] : List Value).toArray below meth c s.heap [] 0 0 Q (F0 m 31 ls []) := by
          intro n9_31
          induction n9_31 with
          | zero => intro ls xz1032 xz1033 xz1034 hm; exact absurd hm (Nat.not_lt_zero _)
          | succ n9_31 ih31 =>
            intro ls xz1032 xz1033 xz1034 hm31 jz1036 hl
            refine lv_iload hx hb dX11_deepest_31 (lv_at hl 4 rfl) ?_
            refine lv_aload_n hx hb dX11_deepest_33 rfl (lv_at hl 0 rfl) ?_
            refine va_get (D := (dC, dI)) (ci := 11) (v := .ref (qV 0)) (C := RX11) (T := TX11) (N := 15) hx hb hts (fun w h => List.mem_cons_of_mem _ (List.mem_append_right _ (List.mem_append_left _ h))) hown hK hP 0 rfl rfl 1 (by decide) (hts (.fieldLink RX11 19 "SagMemory" "told" "LSagMemory$Valley;") (wl_mem 0 rfl)) (fun _ h9 => h9) rfl dX11_deepest_34 ?_
            refine va_get (D := (dC, dI)) (ci := 10) (v := .int (bV 0)) (C := RX10) (T := TX10) (N := 16) hx hb hts (fun w h => List.mem_cons_of_mem _ (List.mem_append_right _ (List.mem_append_right _ (List.mem_append_right _ (List.mem_append_right _ (List.mem_append_left _ h)))))) hown hK hP 5 rfl rfl 11 (by decide) (hts (.fieldLink RX11 212 "SagMemory$Valley" "bridges" "I") (wl_mem 10 rfl)) (fun _ h9 => h9) rfl dX11_deepest_37 ?_
            have bz1037 := hbV 0
            refine lv_icmp_ge (tgt := 75) hx hb dX11_deepest_40 (by decide) (fun cz1038 => ?_) (fun cz1038 => ?_)
            · skip
              have bz1039 := fb_rng xz1034
              have zz1040 : (bV 0).toInt ≤ xz1034.toInt := zi_le.mp cz1038
              refine lv_iload_n hx hb dX11_deepest_75 rfl (lv_at hl 2 rfl) ?_
              rw [hQ]
              exact W.iret (v := xz1032) hx hb hr (fun t ht hW => ⟨xz1032, rfl, trivial, ht⟩) (fun _ h => absurd h List.not_mem_nil) dX11_deepest_76
            · skip
              have bz1041 := fb_rng xz1034
              have zz1042 : ¬ (bV 0).toInt ≤ xz1034.toInt := fun h9 => cz1038 (zi_le.mpr h9)
              refine lv_aload_n hx hb dX11_deepest_43 rfl (lv_at hl 1 rfl) ?_
              refine va_get (D := (dC, dI)) (ci := 7) (v := .ref (sY 7 1)) (C := RX7) (T := TX7) (N := 9) hx hb hts (fun w h => List.mem_cons_of_mem _ (List.mem_append_right _ (List.mem_append_right _ (List.mem_append_right _ (List.mem_append_right _ (List.mem_append_right _ (List.mem_append_left _ h))))))) hown hK hP 92 rfl rfl 0 (by decide) (hts (.fieldLink RX11 194 "SagMemory$State" "memories" "[LSagMemory$Memory;") (wl_mem 11 rfl)) (fun _ h9 => h9) rfl dX11_deepest_44 ?_
              refine lv_iload hx hb dX11_deepest_47 (lv_at hl 4 rfl) ?_
              rcases (show xz1034 = 0 ∨ xz1034 = 1 ∨ xz1034 = 2 by simp only [zi_eq]; show xz1034.toInt = 0 ∨ xz1034.toInt = 1 ∨ xz1034.toInt = 2; omega) with cz1043 | cz1043 | cz1043
              · skip
                have zz1044 : xz1034.toInt = (0 : Int) := zi_eq.mp cz1043
                refine W.eq (g2 := F0 m 49 ls [.int 0, .ref (sY 7 1)]) (by rw [cz1043]) ?_
                refine va_aldq hx hb hK hP 93 4 rfl rfl (by unfold vp_in; decide) dX11_deepest_49 ?_
                refine W.eq (g2 := F0 m 50 ls [.ref (sY 7 2)]) rfl ?_
                have hPc := hP.sub (ws' := (List.flatten [(wMem (fun i => sY 7 (i + 2)) k (nY 7) (aY 7))])) [94, 95, 96] rfl
                refine vp_callSi (va_Run.run (va_runV (As := []) (rest := []) ⟨hx, hb, hml, hown, hts⟩ (c_X2_depth l dC dI k (fun i => sY 7 (i + 2)) (nY 7) (aY 7) (hnY 7)) (cwV 0 hts (gk_V (wl_mem 12 rfl) (wl_mem 13 rfl) (wl_mem 14 rfl) (wl_mem 15 rfl) (fun w h => List.mem_cons_of_mem _ (List.mem_append_right _ (List.mem_append_right _ (List.mem_append_right _ (List.mem_append_right _ (List.mem_append_right _ (List.mem_append_right _ (List.mem_append_left _ h)))))))) wkg_c_X2_depth) rfl rfl rfl (by decide +kernel) ⟨Nat.le_of_ble_eq_true rfl, Nat.le_of_ble_eq_true rfl⟩) ⟨fun a U g mk q => by obtain ⟨q0, qP, qK⟩ := q; exact ⟨q0, qP, va_K.moved (u := U) (U := U.calling g mk a) (Vm.Alike.refl U.vm) qK⟩, va_recv hK hPc (ci := 2) (q0 := 0) rfl rfl, fun U hU hW => ⟨rfl, by rw [hU]; exact hPc, va_K.moved hW.alike hK⟩⟩ rfl rfl hl.1 rfl (lv_room (Nat.le_of_ble_eq_true rfl)) dX11_deepest_50 ⟨Nat.le_of_ble_eq_true rfl, Nat.le_of_ble_eq_true rfl⟩)) (fun rz1046 gz1045 => ?_)
                clear hPc
                refine lv_istore (lv' := [(6, .int rz1046), (0, .ref (qX 0)), (2, .ref (sY 7 0)), (3, .int xz1032), (4, .int xz1033), (5, .int xz1034)]) hx hb dX11_deepest_53 hl (by decide) rfl (fun ls hl => ?_)
                refine lv_iload hx hb dX11_deepest_55 (lv_at hl 0 rfl) ?_
                refine lv_iload hx hb dX11_deepest_57 (lv_at hl 4 rfl) ?_
                have ct69_kz1056 : ∀ (ls : Array Slot) (xz1054 : Int32) (xz1055 : Int32), lv_has ls 7 [(0, .ref (qX 0)), (2, .ref (sY 7 0)), (3, .int xz1054), (4, .int xz1055), (5, .int xz1034)] → W p l e (headSpec wk_c_X11_deepest ({ frames := 1, cells := 0, slots := 0, locals := 22 })).room s m ([.ref (qX 0), .int p1] : List Value).toArray below meth c s.heap [] 0 0 Q (F0 m 69 ls []) := by
                  intro ls xz1054 xz1055  hl
                  obtain ⟨xz1057, exz1057⟩ : ∃ y : Int32, y = xz1034 + Int32.ofInt (1) := ⟨_, rfl⟩
                  have fxz1057 : xz1057.toInt = xz1034.toInt + (1) := by rw [exz1057]; exact fb_addI (y := Int32.ofInt (1)) (by show -2147483648 ≤ xz1034.toInt + (1); omega) (by show xz1034.toInt + (1) < 2147483648; omega)
                  refine lv_iinc (v := xz1057) (lv' := [(5, .int xz1057), (0, .ref (qX 0)), (2, .ref (sY 7 0)), (3, .int xz1054), (4, .int xz1055)]) hx hb dX11_deepest_69 hl (k := 4) rfl exz1057.symm (by decide) rfl (fun ls hl => ?_)
                  refine lv_goto (tgt := 31) hx hb dX11_deepest_72 (by decide) ?_
                  exact ih31 ls xz1054 xz1055 xz1057 (by show (2147483647 - xz1057.toInt).toNat < n9_31; omega) (by show 0 ≤ xz1057.toInt; omega) (lv_sub hl [1, 2, 3, 4, 0] rfl)
                refine lv_icmp_le (tgt := 69) hx hb dX11_deepest_59 (by decide) (fun cz1058 => ?_) (fun cz1058 => ?_)
                · skip
                  have bz1059 := fb_rng rz1046
                  have bz1060 := fb_rng xz1033
                  have zz1061 : rz1046.toInt ≤ xz1033.toInt := zi_le.mp cz1058
                  exact ct69_kz1056 ls xz1032 xz1033   (lv_sub hl [1, 2, 3, 4, 5] rfl)
                · skip
                  have bz1062 := fb_rng rz1046
                  have bz1063 := fb_rng xz1033
                  have zz1064 : ¬ rz1046.toInt ≤ xz1033.toInt := fun h9 => cz1058 (zi_le.mpr h9)
                  refine lv_iload hx hb dX11_deepest_62 (lv_at hl 0 rfl) ?_
                  refine lv_istore (lv' := [(4, .int rz1046), (6, .int rz1046), (0, .ref (qX 0)), (2, .ref (sY 7 0)), (3, .int xz1032), (5, .int xz1034)]) hx hb dX11_deepest_64 hl (by decide) rfl (fun ls hl => ?_)
                  refine lv_iload hx hb dX11_deepest_66 (lv_at hl 5 rfl) ?_
                  refine lv_istore_n (lv' := [(3, .int xz1034), (4, .int rz1046), (6, .int rz1046), (0, .ref (qX 0)), (2, .ref (sY 7 0)), (5, .int xz1034)]) hx hb dX11_deepest_68 rfl hl (by decide) rfl (fun ls hl => ?_)
                  exact ct69_kz1056 ls xz1034 rz1046   (lv_sub hl [3, 4, 0, 1, 5] rfl)
              · skip
                have zz1065 : xz1034.toInt = (1 : Int) := zi_eq.mp cz1043
                refine W.eq (g2 := F0 m 49 ls [.int 1, .ref (sY 7 1)]) (by rw [cz1043]) ?_
                refine va_aldq hx hb hK hP 93 4 rfl rfl (by unfold vp_in; decide) dX11_deepest_49 ?_
                refine W.eq (g2 := F0 m 50 ls [.ref (sY 7 5)]) rfl ?_
                have hPc := hP.sub (ws' := (List.flatten [(wMem (fun i => sY 7 (i + 5)) k (fun i => (nY 7) (i + 1)) (fun i => (aY 7) (i + 2)))])) [97, 98, 99] rfl
                refine vp_callSi (va_Run.run (va_runV (As := []) (rest := []) ⟨hx, hb, hml, hown, hts⟩ (c_X2_depth l dC dI k (fun i => sY 7 (i + 5)) (fun i => (nY 7) (i + 1)) (fun i => (aY 7) (i + 2)) (fun i => (hnY 7) (i + 1))) (cwV 0 hts (gk_V (wl_mem 12 rfl) (wl_mem 13 rfl) (wl_mem 14 rfl) (wl_mem 15 rfl) (fun w h => List.mem_cons_of_mem _ (List.mem_append_right _ (List.mem_append_right _ (List.mem_append_right _ (List.mem_append_right _ (List.mem_append_right _ (List.mem_append_right _ (List.mem_append_left _ h)))))))) wkg_c_X2_depth) rfl rfl rfl (by decide +kernel) ⟨Nat.le_of_ble_eq_true rfl, Nat.le_of_ble_eq_true rfl⟩) ⟨fun a U g mk q => by obtain ⟨q0, qP, qK⟩ := q; exact ⟨q0, qP, va_K.moved (u := U) (U := U.calling g mk a) (Vm.Alike.refl U.vm) qK⟩, va_recv hK hPc (ci := 2) (q0 := 0) rfl rfl, fun U hU hW => ⟨rfl, by rw [hU]; exact hPc, va_K.moved hW.alike hK⟩⟩ rfl rfl hl.1 rfl (lv_room (Nat.le_of_ble_eq_true rfl)) dX11_deepest_50 ⟨Nat.le_of_ble_eq_true rfl, Nat.le_of_ble_eq_true rfl⟩)) (fun rz1067 gz1066 => ?_)
                clear hPc
                refine lv_istore (lv' := [(6, .int rz1067), (0, .ref (qX 0)), (2, .ref (sY 7 0)), (3, .int xz1032), (4, .int xz1033), (5, .int xz1034)]) hx hb dX11_deepest_53 hl (by decide) rfl (fun ls hl => ?_)
                refine lv_iload hx hb dX11_deepest_55 (lv_at hl 0 rfl) ?_
                refine lv_iload hx hb dX11_deepest_57 (lv_at hl 4 rfl) ?_
                have ct69_kz1077 : ∀ (ls : Array Slot) (xz1075 : Int32) (xz1076 : Int32), lv_has ls 7 [(0, .ref (qX 0)), (2, .ref (sY 7 0)), (3, .int xz1075), (4, .int xz1076), (5, .int xz1034)] → W p l e (headSpec wk_c_X11_deepest ({ frames := 1, cells := 0, slots := 0, locals := 22 })).room s m ([.ref (qX 0), .int p1] : List Value).toArray below meth c s.heap [] 0 0 Q (F0 m 69 ls []) := by
                  intro ls xz1075 xz1076  hl
                  obtain ⟨xz1078, exz1078⟩ : ∃ y : Int32, y = xz1034 + Int32.ofInt (1) := ⟨_, rfl⟩
                  have fxz1078 : xz1078.toInt = xz1034.toInt + (1) := by rw [exz1078]; exact fb_addI (y := Int32.ofInt (1)) (by show -2147483648 ≤ xz1034.toInt + (1); omega) (by show xz1034.toInt + (1) < 2147483648; omega)
                  refine lv_iinc (v := xz1078) (lv' := [(5, .int xz1078), (0, .ref (qX 0)), (2, .ref (sY 7 0)), (3, .int xz1075), (4, .int xz1076)]) hx hb dX11_deepest_69 hl (k := 4) rfl exz1078.symm (by decide) rfl (fun ls hl => ?_)
                  refine lv_goto (tgt := 31) hx hb dX11_deepest_72 (by decide) ?_
                  exact ih31 ls xz1075 xz1076 xz1078 (by show (2147483647 - xz1078.toInt).toNat < n9_31; omega) (by show 0 ≤ xz1078.toInt; omega) (lv_sub hl [1, 2, 3, 4, 0] rfl)
                refine lv_icmp_le (tgt := 69) hx hb dX11_deepest_59 (by decide) (fun cz1079 => ?_) (fun cz1079 => ?_)
                · skip
                  have bz1080 := fb_rng rz1067
                  have bz1081 := fb_rng xz1033
                  have zz1082 : rz1067.toInt ≤ xz1033.toInt := zi_le.mp cz1079
                  exact ct69_kz1077 ls xz1032 xz1033   (lv_sub hl [1, 2, 3, 4, 5] rfl)
                · skip
                  have bz1083 := fb_rng rz1067
                  have bz1084 := fb_rng xz1033
                  have zz1085 : ¬ rz1067.toInt ≤ xz1033.toInt := fun h9 => cz1079 (zi_le.mpr h9)
                  refine lv_iload hx hb dX11_deepest_62 (lv_at hl 0 rfl) ?_
                  refine lv_istore (lv' := [(4, .int rz1067), (6, .int rz1067), (0, .ref (qX 0)), (2, .ref (sY 7 0)), (3, .int xz1032), (5, .int xz1034)]) hx hb dX11_deepest_64 hl (by decide) rfl (fun ls hl => ?_)
                  refine lv_iload hx hb dX11_deepest_66 (lv_at hl 5 rfl) ?_
                  refine lv_istore_n (lv' := [(3, .int xz1034), (4, .int rz1067), (6, .int rz1067), (0, .ref (qX 0)), (2, .ref (sY 7 0)), (5, .int xz1034)]) hx hb dX11_deepest_68 rfl hl (by decide) rfl (fun ls hl => ?_)
                  exact ct69_kz1077 ls xz1034 rz1067   (lv_sub hl [3, 4, 0, 1, 5] rfl)
              · skip
                have zz1086 : xz1034.toInt = (2 : Int) := zi_eq.mp cz1043
                refine W.eq (g2 := F0 m 49 ls [.int 2, .ref (sY 7 1)]) (by rw [cz1043]) ?_
                refine va_aldq hx hb hK hP 93 4 rfl rfl (by unfold vp_in; decide) dX11_deepest_49 ?_
                refine W.eq (g2 := F0 m 50 ls [.ref (sY 7 8)]) rfl ?_
                have hPc := hP.sub (ws' := (List.flatten [(wMem (fun i => sY 7 (i + 8)) k (fun i => (nY 7) (i + 2)) (fun i => (aY 7) (i + 4)))])) [100, 101, 102] rfl
                refine vp_callSi (va_Run.run (va_runV (As := []) (rest := []) ⟨hx, hb, hml, hown, hts⟩ (c_X2_depth l dC dI k (fun i => sY 7 (i + 8)) (fun i => (nY 7) (i + 2)) (fun i => (aY 7) (i + 4)) (fun i => (hnY 7) (i + 2))) (cwV 0 hts (gk_V (wl_mem 12 rfl) (wl_mem 13 rfl) (wl_mem 14 rfl) (wl_mem 15 rfl) (fun w h => List.mem_cons_of_mem _ (List.mem_append_right _ (List.mem_append_right _ (List.mem_append_right _ (List.mem_append_right _ (List.mem_append_right _ (List.mem_append_right _ (List.mem_append_left _ h)))))))) wkg_c_X2_depth) rfl rfl rfl (by decide +kernel) ⟨Nat.le_of_ble_eq_true rfl, Nat.le_of_ble_eq_true rfl⟩) ⟨fun a U g mk q => by obtain ⟨q0, qP, qK⟩ := q; exact ⟨q0, qP, va_K.moved (u := U) (U := U.calling g mk a) (Vm.Alike.refl U.vm) qK⟩, va_recv hK hPc (ci := 2) (q0 := 0) rfl rfl, fun U hU hW => ⟨rfl, by rw [hU]; exact hPc, va_K.moved hW.alike hK⟩⟩ rfl rfl hl.1 rfl (lv_room (Nat.le_of_ble_eq_true rfl)) dX11_deepest_50 ⟨Nat.le_of_ble_eq_true rfl, Nat.le_of_ble_eq_true rfl⟩)) (fun rz1088 gz1087 => ?_)
                clear hPc
                refine lv_istore (lv' := [(6, .int rz1088), (0, .ref (qX 0)), (2, .ref (sY 7 0)), (3, .int xz1032), (4, .int xz1033), (5, .int xz1034)]) hx hb dX11_deepest_53 hl (by decide) rfl (fun ls hl => ?_)
                refine lv_iload hx hb dX11_deepest_55 (lv_at hl 0 rfl) ?_
                refine lv_iload hx hb dX11_deepest_57 (lv_at hl 4 rfl) ?_
                have ct69_kz1098 : ∀ (ls : Array Slot) (xz1096 : Int32) (xz1097 : Int32), lv_has ls 7 [(0, .ref (qX 0)), (2, .ref (sY 7 0)), (3, .int xz1096), (4, .int xz1097), (5, .int xz1034)] → W p l e (headSpec wk_c_X11_deepest ({ frames := 1, cells := 0, slots := 0, locals := 22 })).room s m ([.ref (qX 0), .int p1] : List Value).toArray below meth c s.heap [] 0 0 Q (F0 m 69 ls []) := by
                  intro ls xz1096 xz1097  hl
                  obtain ⟨xz1099, exz1099⟩ : ∃ y : Int32, y = xz1034 + Int32.ofInt (1) := ⟨_, rfl⟩
                  have fxz1099 : xz1099.toInt = xz1034.toInt + (1) := by rw [exz1099]; exact fb_addI (y := Int32.ofInt (1)) (by show -2147483648 ≤ xz1034.toInt + (1); omega) (by show xz1034.toInt + (1) < 2147483648; omega)
                  refine lv_iinc (v := xz1099) (lv' := [(5, .int xz1099), (0, .ref (qX 0)), (2, .ref (sY 7 0)), (3, .int xz1096), (4, .int xz1097)]) hx hb dX11_deepest_69 hl (k := 4) rfl exz1099.symm (by decide) rfl (fun ls hl => ?_)
                  refine lv_goto (tgt := 31) hx hb dX11_deepest_72 (by decide) ?_
                  exact ih31 ls xz1096 xz1097 xz1099 (by show (2147483647 - xz1099.toInt).toNat < n9_31; omega) (by show 0 ≤ xz1099.toInt; omega) (lv_sub hl [1, 2, 3, 4, 0] rfl)
                refine lv_icmp_le (tgt := 69) hx hb dX11_deepest_59 (by decide) (fun cz1100 => ?_) (fun cz1100 => ?_)
                · skip
                  have bz1101 := fb_rng rz1088
                  have bz1102 := fb_rng xz1033
                  have zz1103 : rz1088.toInt ≤ xz1033.toInt := zi_le.mp cz1100
                  exact ct69_kz1098 ls xz1032 xz1033   (lv_sub hl [1, 2, 3, 4, 5] rfl)
                · skip
                  have bz1104 := fb_rng rz1088
                  have bz1105 := fb_rng xz1033
                  have zz1106 : ¬ rz1088.toInt ≤ xz1033.toInt := fun h9 => cz1100 (zi_le.mpr h9)
                  refine lv_iload hx hb dX11_deepest_62 (lv_at hl 0 rfl) ?_
                  refine lv_istore (lv' := [(4, .int rz1088), (6, .int rz1088), (0, .ref (qX 0)), (2, .ref (sY 7 0)), (3, .int xz1032), (5, .int xz1034)]) hx hb dX11_deepest_64 hl (by decide) rfl (fun ls hl => ?_)
                  refine lv_iload hx hb dX11_deepest_66 (lv_at hl 5 rfl) ?_
                  refine lv_istore_n (lv' := [(3, .int xz1034), (4, .int rz1088), (6, .int rz1088), (0, .ref (qX 0)), (2, .ref (sY 7 0)), (5, .int xz1034)]) hx hb dX11_deepest_68 rfl hl (by decide) rfl (fun ls hl => ?_)
                  exact ct69_kz1098 ls xz1034 rz1088   (lv_sub hl [3, 4, 0, 1, 5] rfl)
        exact lp31_kz1035 _ ls (-1 : Int32) (-1 : Int32) (0 : Int32) (Nat.lt_succ_self _) (by show 0 ≤ (0 : Int); omega) (lv_sub hl [4, 3, 2, 1, 0] rfl)
    · skip
      exact absurd cz20 (by decide)
