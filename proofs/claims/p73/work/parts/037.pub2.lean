def wk_c_X11_gives : List Cond := .code yX11_gives cX11_gives 2 (some .int) :: ([.fieldLink RX11 19 "SagMemory" "told" "LSagMemory$Valley;", .methodLink RX11 141 yX10_hasCart, .instanceMethod yX10_hasCart, .selects RX10 yX10_hasCart yX10_hasCart, .initialized RX10, .fieldLink RX11 45 "SagMemory" "story" "LSagMemory$Story;", .methodLink RX11 165 yX8_behind, .instanceMethod yX8_behind, .selects RX8 yX8_behind yX8_behind, .initialized RX8, .fieldLink RX11 215 "SagMemory$State" "more" "I"] ++ (wsX110 ++ (wk_c_X10_hasCart ++ (wk_c_X8_behind ++ (wsX70 ++ [])))))
theorem wkg_c_X11_gives : wk_c_X11_gives.all goodWord = true := by decide +kernel
set_option maxHeartbeats 4000000 in
set_option maxRecDepth 100000 in
theorem c_X11_gives (l : Launch) (dC : Nat → ClassId) (dI : Nat → Nat → Nat) (k : Nat → ClassId) (qX : Nat → Nat) (tapeX : Nat) (actsX : Nat) (nowX : Nat) (trialX : Nat) (attemptX : Nat) (orderSearchX : Nat) (routeSearchX : Nat) (setSearchX : Nat) (probeX : Nat) (slot0X : Nat) (slot1X : Nat) (slot2X : Nat) (slot3X : Nat) (image0X : Nat) (image1X : Nat) (image2X : Nat) (aX : Nat → Nat → Int32) (qV : Nat → Nat) (vV : Nat → Int32) (bV : Nat → Int32) (cV : Nat → Int32) (wV : Nat → Int32) (aV : Nat → Nat → Int32) (eV : Nat → Nat → Int32) (qY : Nat → Nat) (sY : Nat → Nat → Nat) (planY : Nat) (vY : Nat → Nat → Int32) (nY : Nat → Nat → Int32) (aY : Nat → Nat → Nat → Int32) (p1 : Int32) (hbV : Rg 0 3 bV) (hcV : Rg 0 7 cV) (hwV : Rg 0 5 wV) (heV : RgA 0 99 eV) (hnY : ∀ t9, Rg 0 8 (nY t9)) : Met l yX11_gives wk_c_X11_gives ({ frames := 1, cells := 0, slots := 0, locals := 21 }) (va_Pc [.ref (qX 0), .int p1] (fun U => va_P (dC, dI) vwCl (List.flatten [(wSag qX k tapeX (qV 0) actsX nowX trialX (qY 0) attemptX orderSearchX routeSearchX setSearchX probeX slot0X slot1X slot2X slot3X image0X image1X image2X aX), (wValley qV k vV bV cV wV aV eV), (wStoO qY k (qV 0) planY (sY 0 0) (sY 1 0) (sY 2 0) (sY 3 0) (sY 4 0) (sY 5 0) (sY 6 0) (sY 7 0)), (wState (sY 0) k (vY 0) (nY 0) (aY 0)), (wState (sY 1) k (vY 1) (nY 1) (aY 1)), (wState (sY 2) k (vY 2) (nY 2) (aY 2)), (wState (sY 3) k (vY 3) (nY 3) (aY 3)), (wState (sY 4) k (vY 4) (nY 4) (aY 4)), (wState (sY 5) k (vY 5) (nY 5) (aY 5)), (wState (sY 6) k (vY 6) (nY 6) (aY 6)), (wState (sY 7) k (vY 7) (nY 7) (aY 7))]) U.heap ∧ va_K (dC, dI) vwCl (tK k) U)) (vp_Si (fun r : Int32 => True)) 0 0 (fun _ => False) := by
  refine Met.ofW (cc := cX11_gives) (maxL := 2) (ret := (some .int)) (by decide) rfl ?_
  intro p e s m args below meth c s₁ B hml hv
  obtain ⟨rfl, hP, hK⟩ := hv
  have hx := B.exec
  have hb := B.bytes
  have hr := B.returns
  have hts := atoms_spec (ws := wk_c_X11_gives) B.pre
  have hown : s.vm.findClass RX11 = some m.cls := findClass_of_methodNamed B.named
  have hlocks := B.notSynchronized
  have hP : va_P (dC, dI) vwCl (List.flatten [(wSag qX k tapeX (qV 0) actsX nowX trialX (qY 0) attemptX orderSearchX routeSearchX setSearchX probeX slot0X slot1X slot2X slot3X image0X image1X image2X aX), (wValley qV k vV bV cV wV aV eV), (wStoO qY k (qV 0) planY (sY 0 0) (sY 1 0) (sY 2 0) (sY 3 0) (sY 4 0) (sY 5 0) (sY 6 0) (sY 7 0)), (wState (sY 0) k (vY 0) (nY 0) (aY 0)), (wState (sY 1) k (vY 1) (nY 1) (aY 1)), (wState (sY 2) k (vY 2) (nY 2) (aY 2)), (wState (sY 3) k (vY 3) (nY 3) (aY 3)), (wState (sY 4) k (vY 4) (nY 4) (aY 4)), (wState (sY 5) k (vY 5) (nY 5) (aY 5)), (wState (sY 6) k (vY 6) (nY 6) (aY 6)), (wState (sY 7) k (vY 7) (nY 7) (aY 7))]) s.heap := hP
  have hl := lv_entry ([.ref (qX 0), .int p1]) (n := 2) (Nat.le_of_ble_eq_true rfl)
  rw [lg_entry_eq]
  generalize (lg_sl ([.ref (qX 0), .int p1]) ++ List.replicate (2 - (lg_sl ([.ref (qX 0), .int p1])).length) Slot.unset).toArray = ls at hl ⊢
  have hl : lv_has ls 2 [(0, .ref (qX 0)), (1, .int p1)] := hl
  refine w_gen (fun Q hQ => ?_)
  refine lv_aload_n hx hb dX11_gives_0 rfl (lv_at hl 0 rfl) ?_
  refine va_get (D := (dC, dI)) (ci := 11) (v := .ref (qV 0)) (C := RX11) (T := TX11) (N := 15) hx hb hts (fun w h => List.mem_cons_of_mem _ (List.mem_append_right _ (List.mem_append_left _ h))) hown hK hP 0 rfl rfl 1 (by decide) (hts (.fieldLink RX11 19 "SagMemory" "told" "LSagMemory$Valley;") (wl_mem 0 rfl)) (fun _ h9 => h9) rfl dX11_gives_1 ?_
  refine lv_iload_n hx hb dX11_gives_4 rfl (lv_at hl 1 rfl) ?_
  have hPc := hP.sub (ws' := (List.flatten [(wValley qV k vV bV cV wV aV eV)])) [5, 6, 7, 8, 9, 10, 11, 12] rfl
  refine vp_callSi (va_Run.run (va_runV (As := [.int p1]) (rest := []) ⟨hx, hb, hml, hown, hts⟩ (c_X10_hasCart l dC dI k qV vV bV cV wV aV eV p1 hbV hcV hwV heV) (cwV 1 hts (gk_V (wl_mem 1 rfl) (wl_mem 2 rfl) (wl_mem 3 rfl) (wl_mem 4 rfl) (fun w h => List.mem_cons_of_mem _ (List.mem_append_right _ (List.mem_append_right _ (List.mem_append_left _ h)))) wkg_c_X10_hasCart) rfl rfl rfl (by decide +kernel) ⟨Nat.le_of_ble_eq_true rfl, Nat.le_of_ble_eq_true rfl⟩) ⟨fun a U g mk q => by obtain ⟨q0, qP, qK⟩ := q; exact ⟨q0, qP, va_K.moved (u := U) (U := U.calling g mk a) (Vm.Alike.refl U.vm) qK⟩, va_recv hK hPc (ci := 10) (q0 := 0) rfl rfl, fun U hU hW => ⟨rfl, by rw [hU]; exact hPc, va_K.moved hW.alike hK⟩⟩ rfl rfl hl.1 rfl (lv_room (Nat.le_of_ble_eq_true rfl)) dX11_gives_5 ⟨Nat.le_of_ble_eq_true rfl, Nat.le_of_ble_eq_true rfl⟩)) (fun rz2 gz1 => ?_)
  clear hPc
  rcases gz1 with ⟨er, cz3⟩ | ⟨er, cz4, cz5⟩ | ⟨er, cz6, cz7⟩
  · obtain rfl := er.symm
    have bz8 := fb_rng p1
    have zz9 : p1.toInt < (0 : Int) := zi_lt.mp cz3
    refine lv_if_eq (tgt := 25) hx hb dX11_gives_8 (by decide) (fun cz10 => ?_) (fun cz10 => ?_)
    · skip
      refine lv_sipush (v := (-1000)) hx hb dX11_gives_25 (by decide) ?_
      rw [hQ]
      exact W.iret (v := (-1000 : Int32)) hx hb hr (fun t ht hW => ⟨(-1000 : Int32), rfl, trivial, ht⟩) (fun _ h => absurd h List.not_mem_nil) dX11_gives_28
    · skip
      exact absurd cz10 (by decide)
  · obtain rfl := er.symm
    have bz11 := fb_rng p1
    have zz12 : ¬ p1.toInt < (0 : Int) := fun h9 => cz4 (zi_lt.mpr h9)
    have bz13 := hcV 0
    have zz14 : (cV 0).toInt ≤ p1.toInt := zi_le.mp cz5
    refine lv_if_eq (tgt := 25) hx hb dX11_gives_8 (by decide) (fun cz15 => ?_) (fun cz15 => ?_)
    · skip
      refine lv_sipush (v := (-1000)) hx hb dX11_gives_25 (by decide) ?_
      rw [hQ]
      exact W.iret (v := (-1000 : Int32)) hx hb hr (fun t ht hW => ⟨(-1000 : Int32), rfl, trivial, ht⟩) (fun _ h => absurd h List.not_mem_nil) dX11_gives_28
    · skip
      exact absurd cz15 (by decide)
  · obtain rfl := er.symm
    have bz16 := fb_rng p1
    have zz17 : ¬ p1.toInt < (0 : Int) := fun h9 => cz6 (zi_lt.mpr h9)
    have bz18 := hcV 0
    have zz19 : ¬ (cV 0).toInt ≤ p1.toInt := fun h9 => cz7 (zi_le.mpr h9)
    refine lv_if_eq (tgt := 25) hx hb dX11_gives_8 (by decide) (fun cz20 => ?_) (fun cz20 => ?_)
    · skip
      exact absurd cz20 (by decide)
    · skip
      refine lv_aload_n hx hb dX11_gives_11 rfl (lv_at hl 0 rfl) ?_
      refine va_get (D := (dC, dI)) (ci := 11) (v := .ref (qY 0)) (C := RX11) (T := TX11) (N := 15) hx hb hts (fun w h => List.mem_cons_of_mem _ (List.mem_append_right _ (List.mem_append_left _ h))) hown hK hP 0 rfl rfl 5 (by decide) (hts (.fieldLink RX11 45 "SagMemory" "story" "LSagMemory$Story;") (wl_mem 5 rfl)) (fun _ h9 => h9) rfl dX11_gives_12 ?_
      refine lv_iload_n hx hb dX11_gives_15 rfl (lv_at hl 1 rfl) ?_
      have hPc : va_P (dC, dI) vwCl (List.flatten [(wStoO qY k (qV 0) planY (sY 0 0) (sY 1 0) (sY 2 0) (sY 3 0) (sY 4 0) (sY 5 0) (sY 6 0) (sY 7 0)), (wState (sY 0) k (vY 0) (nY 0) (aY 0)), (wState (sY 1) k (vY 1) (nY 1) (aY 1)), (wState (sY 2) k (vY 2) (nY 2) (aY 2)), (wState (sY 3) k (vY 3) (nY 3) (aY 3)), (wState (sY 4) k (vY 4) (nY 4) (aY 4)), (wState (sY 5) k (vY 5) (nY 5) (aY 5)), (wState (sY 6) k (vY 6) (nY 6) (aY 6)), (wState (sY 7) k (vY 7) (nY 7) (aY 7))]) s.heap := wc_subP0 hP [2, 3, 4, 5, 6, 7, 8, 9, 10] rfl
      refine va_csr (va_Run.run (va_runV (As := [.int p1]) (rest := []) ⟨hx, hb, hml, hown, hts⟩ (c_X8_behind l dC dI k qY sY (qV 0) planY vY nY aY p1 hnY) (cwV 1 hts (gk_V (wl_mem 6 rfl) (wl_mem 7 rfl) (wl_mem 8 rfl) (wl_mem 9 rfl) (fun w h => List.mem_cons_of_mem _ (List.mem_append_right _ (List.mem_append_right _ (List.mem_append_right _ (List.mem_append_left _ h))))) wkg_c_X8_behind) rfl rfl rfl (by decide +kernel) ⟨Nat.le_of_ble_eq_true rfl, Nat.le_of_ble_eq_true rfl⟩) ⟨fun a U g mk q => by obtain ⟨q0, qP, qK⟩ := q; exact ⟨q0, qP, va_K.moved (u := U) (U := U.calling g mk a) (Vm.Alike.refl U.vm) qK⟩, va_recv hK hPc (ci := 8) (q0 := 0) rfl rfl, fun U hU hW => ⟨rfl, by rw [hU]; exact hPc, va_K.moved hW.alike hK⟩⟩ rfl rfl hl.1 rfl (lv_room (Nat.le_of_ble_eq_true rfl)) dX11_gives_16 ⟨Nat.le_of_ble_eq_true rfl, Nat.le_of_ble_eq_true rfl⟩)) (fun rz22 gz21 => ?_)
      clear hPc
      rcases gz21 with ⟨rfl, cz23⟩ | ⟨rfl, cz24, cz25⟩ | ⟨rfl, cz26, cz27, cz28⟩ | ⟨rfl, cz29, cz30, cz31⟩ | ⟨rfl, cz32, cz33, cz34⟩ | ⟨rfl, cz35, cz36, cz37⟩ | ⟨rfl, cz38, cz39, cz40⟩ | ⟨rfl, cz41, cz42, cz43⟩ | ⟨rfl, cz44, cz45, cz46⟩
      · skip
        have zz47 : p1.toInt < (0 : Int) := zi_lt.mp cz23
        omega
      · skip
        have zz48 : ¬ p1.toInt < (0 : Int) := fun h9 => cz24 (zi_lt.mpr h9)
        have zz49 : (7 : Int) ≤ p1.toInt := zi_le.mp cz25
        omega
      · skip
        have zz50 : ¬ p1.toInt < (0 : Int) := fun h9 => cz26 (zi_lt.mpr h9)
        have zz51 : ¬ (7 : Int) ≤ p1.toInt := fun h9 => cz27 (zi_le.mpr h9)
        have zz52 : p1.toInt = (0 : Int) := zi_eq.mp cz28
        refine W.eq (g2 := F0 m 19 ls [.ref (sY 1 0)]) rfl ?_
        refine va_get (D := (dC, dI)) (ci := 7) (v := .int ((vY 1) 4)) (C := RX7) (T := TX7) (N := 9) hx hb hts (fun w h => List.mem_cons_of_mem _ (List.mem_append_right _ (List.mem_append_right _ (List.mem_append_right _ (List.mem_append_right _ (List.mem_append_left _ h)))))) hown hK hP 26 rfl rfl 5 (by decide) (hts (.fieldLink RX11 215 "SagMemory$State" "more" "I") (wl_mem 10 rfl)) (fun _ h9 => h9) rfl dX11_gives_19 ?_
        refine lv_goto (tgt := 28) hx hb dX11_gives_22 (by decide) ?_
        rw [hQ]
        exact W.iret (v := ((vY 1) 4)) hx hb hr (fun t ht hW => ⟨((vY 1) 4), rfl, trivial, ht⟩) (fun _ h => absurd h List.not_mem_nil) dX11_gives_28
      · skip
        have zz53 : ¬ p1.toInt < (0 : Int) := fun h9 => cz29 (zi_lt.mpr h9)
        have zz54 : ¬ (7 : Int) ≤ p1.toInt := fun h9 => cz30 (zi_le.mpr h9)
        have zz55 : p1.toInt = (1 : Int) := zi_eq.mp cz31
        refine W.eq (g2 := F0 m 19 ls [.ref (sY 2 0)]) rfl ?_
        refine va_get (D := (dC, dI)) (ci := 7) (v := .int ((vY 2) 4)) (C := RX7) (T := TX7) (N := 9) hx hb hts (fun w h => List.mem_cons_of_mem _ (List.mem_append_right _ (List.mem_append_right _ (List.mem_append_right _ (List.mem_append_right _ (List.mem_append_left _ h)))))) hown hK hP 37 rfl rfl 5 (by decide) (hts (.fieldLink RX11 215 "SagMemory$State" "more" "I") (wl_mem 10 rfl)) (fun _ h9 => h9) rfl dX11_gives_19 ?_
        refine lv_goto (tgt := 28) hx hb dX11_gives_22 (by decide) ?_
        rw [hQ]
        exact W.iret (v := ((vY 2) 4)) hx hb hr (fun t ht hW => ⟨((vY 2) 4), rfl, trivial, ht⟩) (fun _ h => absurd h List.not_mem_nil) dX11_gives_28
      · skip
        have zz56 : ¬ p1.toInt < (0 : Int) := fun h9 => cz32 (zi_lt.mpr h9)
        have zz57 : ¬ (7 : Int) ≤ p1.toInt := fun h9 => cz33 (zi_le.mpr h9)
        have zz58 : p1.toInt = (2 : Int) := zi_eq.mp cz34
        refine W.eq (g2 := F0 m 19 ls [.ref (sY 3 0)]) rfl ?_
        refine va_get (D := (dC, dI)) (ci := 7) (v := .int ((vY 3) 4)) (C := RX7) (T := TX7) (N := 9) hx hb hts (fun w h => List.mem_cons_of_mem _ (List.mem_append_right _ (List.mem_append_right _ (List.mem_append_right _ (List.mem_append_right _ (List.mem_append_left _ h)))))) hown hK hP 48 rfl rfl 5 (by decide) (hts (.fieldLink RX11 215 "SagMemory$State" "more" "I") (wl_mem 10 rfl)) (fun _ h9 => h9) rfl dX11_gives_19 ?_
        refine lv_goto (tgt := 28) hx hb dX11_gives_22 (by decide) ?_
        rw [hQ]
        exact W.iret (v := ((vY 3) 4)) hx hb hr (fun t ht hW => ⟨((vY 3) 4), rfl, trivial, ht⟩) (fun _ h => absurd h List.not_mem_nil) dX11_gives_28
      · skip
        have zz59 : ¬ p1.toInt < (0 : Int) := fun h9 => cz35 (zi_lt.mpr h9)
        have zz60 : ¬ (7 : Int) ≤ p1.toInt := fun h9 => cz36 (zi_le.mpr h9)
        have zz61 : p1.toInt = (3 : Int) := zi_eq.mp cz37
        refine W.eq (g2 := F0 m 19 ls [.ref (sY 4 0)]) rfl ?_
        refine va_get (D := (dC, dI)) (ci := 7) (v := .int ((vY 4) 4)) (C := RX7) (T := TX7) (N := 9) hx hb hts (fun w h => List.mem_cons_of_mem _ (List.mem_append_right _ (List.mem_append_right _ (List.mem_append_right _ (List.mem_append_right _ (List.mem_append_left _ h)))))) hown hK hP 59 rfl rfl 5 (by decide) (hts (.fieldLink RX11 215 "SagMemory$State" "more" "I") (wl_mem 10 rfl)) (fun _ h9 => h9) rfl dX11_gives_19 ?_
        refine lv_goto (tgt := 28) hx hb dX11_gives_22 (by decide) ?_
        rw [hQ]
        exact W.iret (v := ((vY 4) 4)) hx hb hr (fun t ht hW => ⟨((vY 4) 4), rfl, trivial, ht⟩) (fun _ h => absurd h List.not_mem_nil) dX11_gives_28
      · skip
        have zz62 : ¬ p1.toInt < (0 : Int) := fun h9 => cz38 (zi_lt.mpr h9)
        have zz63 : ¬ (7 : Int) ≤ p1.toInt := fun h9 => cz39 (zi_le.mpr h9)
        have zz64 : p1.toInt = (4 : Int) := zi_eq.mp cz40
        refine W.eq (g2 := F0 m 19 ls [.ref (sY 5 0)]) rfl ?_
        refine va_get (D := (dC, dI)) (ci := 7) (v := .int ((vY 5) 4)) (C := RX7) (T := TX7) (N := 9) hx hb hts (fun w h => List.mem_cons_of_mem _ (List.mem_append_right _ (List.mem_append_right _ (List.mem_append_right _ (List.mem_append_right _ (List.mem_append_left _ h)))))) hown hK hP 70 rfl rfl 5 (by decide) (hts (.fieldLink RX11 215 "SagMemory$State" "more" "I") (wl_mem 10 rfl)) (fun _ h9 => h9) rfl dX11_gives_19 ?_
        refine lv_goto (tgt := 28) hx hb dX11_gives_22 (by decide) ?_
        rw [hQ]
        exact W.iret (v := ((vY 5) 4)) hx hb hr (fun t ht hW => ⟨((vY 5) 4), rfl, trivial, ht⟩) (fun _ h => absurd h List.not_mem_nil) dX11_gives_28
      · skip
        have zz65 : ¬ p1.toInt < (0 : Int) := fun h9 => cz41 (zi_lt.mpr h9)
        have zz66 : ¬ (7 : Int) ≤ p1.toInt := fun h9 => cz42 (zi_le.mpr h9)
        have zz67 : p1.toInt = (5 : Int) := zi_eq.mp cz43
        refine W.eq (g2 := F0 m 19 ls [.ref (sY 6 0)]) rfl ?_
        refine va_get (D := (dC, dI)) (ci := 7) (v := .int ((vY 6) 4)) (C := RX7) (T := TX7) (N := 9) hx hb hts (fun w h => List.mem_cons_of_mem _ (List.mem_append_right _ (List.mem_append_right _ (List.mem_append_right _ (List.mem_append_right _ (List.mem_append_left _ h)))))) hown hK hP 81 rfl rfl 5 (by decide) (hts (.fieldLink RX11 215 "SagMemory$State" "more" "I") (wl_mem 10 rfl)) (fun _ h9 => h9) rfl dX11_gives_19 ?_
        refine lv_goto (tgt := 28) hx hb dX11_gives_22 (by decide) ?_
        rw [hQ]
        exact W.iret (v := ((vY 6) 4)) hx hb hr (fun t ht hW => ⟨((vY 6) 4), rfl, trivial, ht⟩) (fun _ h => absurd h List.not_mem_nil) dX11_gives_28
      · skip
        have zz68 : ¬ p1.toInt < (0 : Int) := fun h9 => cz44 (zi_lt.mpr h9)
        have zz69 : ¬ (7 : Int) ≤ p1.toInt := fun h9 => cz45 (zi_le.mpr h9)
        have zz70 : p1.toInt = (6 : Int) := zi_eq.mp cz46
        refine W.eq (g2 := F0 m 19 ls [.ref (sY 7 0)]) rfl ?_
        refine va_get (D := (dC, dI)) (ci := 7) (v := .int ((vY 7) 4)) (C := RX7) (T := TX7) (N := 9) hx hb hts (fun w h => List.mem_cons_of_mem _ (List.mem_append_right _ (List.mem_append_right _ (List.mem_append_right _ (List.mem_append_right _ (List.mem_append_left _ h)))))) hown hK hP 92 rfl rfl 5 (by decide) (hts (.fieldLink RX11 215 "SagMemory$State" "more" "I") (wl_mem 10 rfl)) (fun _ h9 => h9) rfl dX11_gives_19 ?_
        refine lv_goto (tgt := 28) hx hb dX11_gives_22 (by decide) ?_
        rw [hQ]
        exact W.iret (v := ((vY 7) 4)) hx hb hr (fun t ht hW => ⟨((vY 7) 4), rfl, trivial, ht⟩) (fun _ h => absurd h List.not_mem_nil) dX11_gives_28
def wk_c_X11_creak : List Cond := .code yX11_creak cX11_creak 2 (some .int) :: ([.fieldLink RX11 19 "SagMemory" "told" "LSagMemory$Valley;", .methodLink RX11 141 yX10_hasCart, .instanceMethod yX10_hasCart, .selects RX10 yX10_hasCart yX10_hasCart, .initialized RX10, .fieldLink RX11 45 "SagMemory" "story" "LSagMemory$Story;", .methodLink RX11 165 yX8_behind, .instanceMethod yX8_behind, .selects RX8 yX8_behind yX8_behind, .initialized RX8, .fieldLink RX11 218 "SagMemory$State" "noise" "I"] ++ (wsX110 ++ (wk_c_X10_hasCart ++ (wk_c_X8_behind ++ (wsX70 ++ [])))))
theorem wkg_c_X11_creak : wk_c_X11_creak.all goodWord = true := by decide +kernel
set_option maxHeartbeats 4000000 in
set_option maxRecDepth 100000 in
theorem c_X11_creak (l : Launch) (dC : Nat → ClassId) (dI : Nat → Nat → Nat) (k : Nat → ClassId) (qX : Nat → Nat) (tapeX : Nat) (actsX : Nat) (nowX : Nat) (trialX : Nat) (attemptX : Nat) (orderSearchX : Nat) (routeSearchX : Nat) (setSearchX : Nat) (probeX : Nat) (slot0X : Nat) (slot1X : Nat) (slot2X : Nat) (slot3X : Nat) (image0X : Nat) (image1X : Nat) (image2X : Nat) (aX : Nat → Nat → Int32) (qV : Nat → Nat) (vV : Nat → Int32) (bV : Nat → Int32) (cV : Nat → Int32) (wV : Nat → Int32) (aV : Nat → Nat → Int32) (eV : Nat → Nat → Int32) (qY : Nat → Nat) (sY : Nat → Nat → Nat) (planY : Nat) (vY : Nat → Nat → Int32) (nY : Nat → Nat → Int32) (aY : Nat → Nat → Nat → Int32) (p1 : Int32) (hbV : Rg 0 3 bV) (hcV : Rg 0 7 cV) (hwV : Rg 0 5 wV) (heV : RgA 0 99 eV) (hnY : ∀ t9, Rg 0 8 (nY t9)) : Met l yX11_creak wk_c_X11_creak ({ frames := 1, cells := 0, slots := 0, locals := 21 }) (va_Pc [.ref (qX 0), .int p1] (fun U => va_P (dC, dI) vwCl (List.flatten [(wSag qX k tapeX (qV 0) actsX nowX trialX (qY 0) attemptX orderSearchX routeSearchX setSearchX probeX slot0X slot1X slot2X slot3X image0X image1X image2X aX), (wValley qV k vV bV cV wV aV eV), (wStoO qY k (qV 0) planY (sY 0 0) (sY 1 0) (sY 2 0) (sY 3 0) (sY 4 0) (sY 5 0) (sY 6 0) (sY 7 0)), (wState (sY 0) k (vY 0) (nY 0) (aY 0)), (wState (sY 1) k (vY 1) (nY 1) (aY 1)), (wState (sY 2) k (vY 2) (nY 2) (aY 2)), (wState (sY 3) k (vY 3) (nY 3) (aY 3)), (wState (sY 4) k (vY 4) (nY 4) (aY 4)), (wState (sY 5) k (vY 5) (nY 5) (aY 5)), (wState (sY 6) k (vY 6) (nY 6) (aY 6)), (wState (sY 7) k (vY 7) (nY 7) (aY 7))]) U.heap ∧ va_K (dC, dI) vwCl (tK k) U)) (vp_Si (fun r : Int32 => True)) 0 0 (fun _ => False) := by
  refine Met.ofW (cc := cX11_creak) (maxL := 2) (ret := (some .int)) (by decide) rfl ?_
  intro p e s m args below meth c s₁ B hml hv
  obtain ⟨rfl, hP, hK⟩ := hv
  have hx := B.exec
  have hb := B.bytes
  have hr := B.returns
  have hts := atoms_spec (ws := wk_c_X11_creak) B.pre
  have hown : s.vm.findClass RX11 = some m.cls := findClass_of_methodNamed B.named
  have hlocks := B.notSynchronized
  have hP : va_P (dC, dI) vwCl (List.flatten [(wSag qX k tapeX (qV 0) actsX nowX trialX (qY 0) attemptX orderSearchX routeSearchX setSearchX probeX slot0X slot1X slot2X slot3X image0X image1X image2X aX), (wValley qV k vV bV cV wV aV eV), (wStoO qY k (qV 0) planY (sY 0 0) (sY 1 0) (sY 2 0) (sY 3 0) (sY 4 0) (sY 5 0) (sY 6 0) (sY 7 0)), (wState (sY 0) k (vY 0) (nY 0) (aY 0)), (wState (sY 1) k (vY 1) (nY 1) (aY 1)), (wState (sY 2) k (vY 2) (nY 2) (aY 2)), (wState (sY 3) k (vY 3) (nY 3) (aY 3)), (wState (sY 4) k (vY 4) (nY 4) (aY 4)), (wState (sY 5) k (vY 5) (nY 5) (aY 5)), (wState (sY 6) k (vY 6) (nY 6) (aY 6)), (wState (sY 7) k (vY 7) (nY 7) (aY 7))]) s.heap := hP
  have hl := lv_entry ([.ref (qX 0), .int p1]) (n := 2) (Nat.le_of_ble_eq_true rfl)
  rw [lg_entry_eq]
  generalize (lg_sl ([.ref (qX 0), .int p1]) ++ List.replicate (2 - (lg_sl ([.ref (qX 0), .int p1])).length) Slot.unset).toArray = ls at hl ⊢
  have hl : lv_has ls 2 [(0, .ref (qX 0)), (1, .int p1)] := hl
  refine w_gen (fun Q hQ => ?_)
  refine lv_aload_n hx hb dX11_creak_0 rfl (lv_at hl 0 rfl) ?_
  refine va_get (D := (dC, dI)) (ci := 11) (v := .ref (qV 0)) (C := RX11) (T := TX11) (N := 15) hx hb hts (fun w h => List.mem_cons_of_mem _ (List.mem_append_right _ (List.mem_append_left _ h))) hown hK hP 0 rfl rfl 1 (by decide) (hts (.fieldLink RX11 19 "SagMemory" "told" "LSagMemory$Valley;") (wl_mem 0 rfl)) (fun _ h9 => h9) rfl dX11_creak_1 ?_
  refine lv_iload_n hx hb dX11_creak_4 rfl (lv_at hl 1 rfl) ?_
  have hPc := hP.sub (ws' := (List.flatten [(wValley qV k vV bV cV wV aV eV)])) [5, 6, 7, 8, 9, 10, 11, 12] rfl
  refine vp_callSi (va_Run.run (va_runV (As := [.int p1]) (rest := []) ⟨hx, hb, hml, hown, hts⟩ (c_X10_hasCart l dC dI k qV vV bV cV wV aV eV p1 hbV hcV hwV heV) (cwV 1 hts (gk_V (wl_mem 1 rfl) (wl_mem 2 rfl) (wl_mem 3 rfl) (wl_mem 4 rfl) (fun w h => List.mem_cons_of_mem _ (List.mem_append_right _ (List.mem_append_right _ (List.mem_append_left _ h)))) wkg_c_X10_hasCart) rfl rfl rfl (by decide +kernel) ⟨Nat.le_of_ble_eq_true rfl, Nat.le_of_ble_eq_true rfl⟩) ⟨fun a U g mk q => by obtain ⟨q0, qP, qK⟩ := q; exact ⟨q0, qP, va_K.moved (u := U) (U := U.calling g mk a) (Vm.Alike.refl U.vm) qK⟩, va_recv hK hPc (ci := 10) (q0 := 0) rfl rfl, fun U hU hW => ⟨rfl, by rw [hU]; exact hPc, va_K.moved hW.alike hK⟩⟩ rfl rfl hl.1 rfl (lv_room (Nat.le_of_ble_eq_true rfl)) dX11_creak_5 ⟨Nat.le_of_ble_eq_true rfl, Nat.le_of_ble_eq_true rfl⟩)) (fun rz2 gz1 => ?_)
  clear hPc
  rcases gz1 with ⟨er, cz3⟩ | ⟨er, cz4, cz5⟩ | ⟨er, cz6, cz7⟩
  · obtain rfl := er.symm
    have bz8 := fb_rng p1
    have zz9 : p1.toInt < (0 : Int) := zi_lt.mp cz3
    refine lv_if_eq (tgt := 25) hx hb dX11_creak_8 (by decide) (fun cz10 => ?_) (fun cz10 => ?_)
    · skip
      refine lv_bipush (v := (-2)) hx hb dX11_creak_25 (by decide) ?_
      rw [hQ]
      exact W.iret (v := (-2 : Int32)) hx hb hr (fun t ht hW => ⟨(-2 : Int32), rfl, trivial, ht⟩) (fun _ h => absurd h List.not_mem_nil) dX11_creak_27
    · skip
      exact absurd cz10 (by decide)
  · obtain rfl := er.symm
    have bz11 := fb_rng p1
    have zz12 : ¬ p1.toInt < (0 : Int) := fun h9 => cz4 (zi_lt.mpr h9)
    have bz13 := hcV 0
    have zz14 : (cV 0).toInt ≤ p1.toInt := zi_le.mp cz5
    refine lv_if_eq (tgt := 25) hx hb dX11_creak_8 (by decide) (fun cz15 => ?_) (fun cz15 => ?_)
    · skip
      refine lv_bipush (v := (-2)) hx hb dX11_creak_25 (by decide) ?_
      rw [hQ]
      exact W.iret (v := (-2 : Int32)) hx hb hr (fun t ht hW => ⟨(-2 : Int32), rfl, trivial, ht⟩) (fun _ h => absurd h List.not_mem_nil) dX11_creak_27
    · skip
      exact absurd cz15 (by decide)
  · obtain rfl := er.symm
    have bz16 := fb_rng p1
    have zz17 : ¬ p1.toInt < (0 : Int) := fun h9 => cz6 (zi_lt.mpr h9)
    have bz18 := hcV 0
    have zz19 : ¬ (cV 0).toInt ≤ p1.toInt := fun h9 => cz7 (zi_le.mpr h9)
    refine lv_if_eq (tgt := 25) hx hb dX11_creak_8 (by decide) (fun cz20 => ?_) (fun cz20 => ?_)
    · skip
      exact absurd cz20 (by decide)
    · skip
      refine lv_aload_n hx hb dX11_creak_11 rfl (lv_at hl 0 rfl) ?_
      refine va_get (D := (dC, dI)) (ci := 11) (v := .ref (qY 0)) (C := RX11) (T := TX11) (N := 15) hx hb hts (fun w h => List.mem_cons_of_mem _ (List.mem_append_right _ (List.mem_append_left _ h))) hown hK hP 0 rfl rfl 5 (by decide) (hts (.fieldLink RX11 45 "SagMemory" "story" "LSagMemory$Story;") (wl_mem 5 rfl)) (fun _ h9 => h9) rfl dX11_creak_12 ?_
      refine lv_iload_n hx hb dX11_creak_15 rfl (lv_at hl 1 rfl) ?_
      have hPc : va_P (dC, dI) vwCl (List.flatten [(wStoO qY k (qV 0) planY (sY 0 0) (sY 1 0) (sY 2 0) (sY 3 0) (sY 4 0) (sY 5 0) (sY 6 0) (sY 7 0)), (wState (sY 0) k (vY 0) (nY 0) (aY 0)), (wState (sY 1) k (vY 1) (nY 1) (aY 1)), (wState (sY 2) k (vY 2) (nY 2) (aY 2)), (wState (sY 3) k (vY 3) (nY 3) (aY 3)), (wState (sY 4) k (vY 4) (nY 4) (aY 4)), (wState (sY 5) k (vY 5) (nY 5) (aY 5)), (wState (sY 6) k (vY 6) (nY 6) (aY 6)), (wState (sY 7) k (vY 7) (nY 7) (aY 7))]) s.heap := wc_subP0 hP [2, 3, 4, 5, 6, 7, 8, 9, 10] rfl
      refine va_csr (va_Run.run (va_runV (As := [.int p1]) (rest := []) ⟨hx, hb, hml, hown, hts⟩ (c_X8_behind l dC dI k qY sY (qV 0) planY vY nY aY p1 hnY) (cwV 1 hts (gk_V (wl_mem 6 rfl) (wl_mem 7 rfl) (wl_mem 8 rfl) (wl_mem 9 rfl) (fun w h => List.mem_cons_of_mem _ (List.mem_append_right _ (List.mem_append_right _ (List.mem_append_right _ (List.mem_append_left _ h))))) wkg_c_X8_behind) rfl rfl rfl (by decide +kernel) ⟨Nat.le_of_ble_eq_true rfl, Nat.le_of_ble_eq_true rfl⟩) ⟨fun a U g mk q => by obtain ⟨q0, qP, qK⟩ := q; exact ⟨q0, qP, va_K.moved (u := U) (U := U.calling g mk a) (Vm.Alike.refl U.vm) qK⟩, va_recv hK hPc (ci := 8) (q0 := 0) rfl rfl, fun U hU hW => ⟨rfl, by rw [hU]; exact hPc, va_K.moved hW.alike hK⟩⟩ rfl rfl hl.1 rfl (lv_room (Nat.le_of_ble_eq_true rfl)) dX11_creak_16 ⟨Nat.le_of_ble_eq_true rfl, Nat.le_of_ble_eq_true rfl⟩)) (fun rz22 gz21 => ?_)
      clear hPc
      rcases gz21 with ⟨rfl, cz23⟩ | ⟨rfl, cz24, cz25⟩ | ⟨rfl, cz26, cz27, cz28⟩ | ⟨rfl, cz29, cz30, cz31⟩ | ⟨rfl, cz32, cz33, cz34⟩ | ⟨rfl, cz35, cz36, cz37⟩ | ⟨rfl, cz38, cz39, cz40⟩ | ⟨rfl, cz41, cz42, cz43⟩ | ⟨rfl, cz44, cz45, cz46⟩
      · skip
        have zz47 : p1.toInt < (0 : Int) := zi_lt.mp cz23
        omega
      · skip
        have zz48 : ¬ p1.toInt < (0 : Int) := fun h9 => cz24 (zi_lt.mpr h9)
        have zz49 : (7 : Int) ≤ p1.toInt := zi_le.mp cz25
        omega
      · skip
        have zz50 : ¬ p1.toInt < (0 : Int) := fun h9 => cz26 (zi_lt.mpr h9)
        have zz51 : ¬ (7 : Int) ≤ p1.toInt := fun h9 => cz27 (zi_le.mpr h9)
        have zz52 : p1.toInt = (0 : Int) := zi_eq.mp cz28
        refine W.eq (g2 := F0 m 19 ls [.ref (sY 1 0)]) rfl ?_
        refine va_get (D := (dC, dI)) (ci := 7) (v := .int ((vY 1) 5)) (C := RX7) (T := TX7) (N := 9) hx hb hts (fun w h => List.mem_cons_of_mem _ (List.mem_append_right _ (List.mem_append_right _ (List.mem_append_right _ (List.mem_append_right _ (List.mem_append_left _ h)))))) hown hK hP 26 rfl rfl 6 (by decide) (hts (.fieldLink RX11 218 "SagMemory$State" "noise" "I") (wl_mem 10 rfl)) (fun _ h9 => h9) rfl dX11_creak_19 ?_
        refine lv_goto (tgt := 27) hx hb dX11_creak_22 (by decide) ?_
        rw [hQ]
        exact W.iret (v := ((vY 1) 5)) hx hb hr (fun t ht hW => ⟨((vY 1) 5), rfl, trivial, ht⟩) (fun _ h => absurd h List.not_mem_nil) dX11_creak_27
      · skip
        have zz53 : ¬ p1.toInt < (0 : Int) := fun h9 => cz29 (zi_lt.mpr h9)
        have zz54 : ¬ (7 : Int) ≤ p1.toInt := fun h9 => cz30 (zi_le.mpr h9)
        have zz55 : p1.toInt = (1 : Int) := zi_eq.mp cz31
        refine W.eq (g2 := F0 m 19 ls [.ref (sY 2 0)]) rfl ?_
        refine va_get (D := (dC, dI)) (ci := 7) (v := .int ((vY 2) 5)) (C := RX7) (T := TX7) (N := 9) hx hb hts (fun w h => List.mem_cons_of_mem _ (List.mem_append_right _ (List.mem_append_right _ (List.mem_append_right _ (List.mem_append_right _ (List.mem_append_left _ h)))))) hown hK hP 37 rfl rfl 6 (by decide) (hts (.fieldLink RX11 218 "SagMemory$State" "noise" "I") (wl_mem 10 rfl)) (fun _ h9 => h9) rfl dX11_creak_19 ?_
        refine lv_goto (tgt := 27) hx hb dX11_creak_22 (by decide) ?_
        rw [hQ]
        exact W.iret (v := ((vY 2) 5)) hx hb hr (fun t ht hW => ⟨((vY 2) 5), rfl, trivial, ht⟩) (fun _ h => absurd h List.not_mem_nil) dX11_creak_27
      · skip
        have zz56 : ¬ p1.toInt < (0 : Int) := fun h9 => cz32 (zi_lt.mpr h9)
        have zz57 : ¬ (7 : Int) ≤ p1.toInt := fun h9 => cz33 (zi_le.mpr h9)
        have zz58 : p1.toInt = (2 : Int) := zi_eq.mp cz34
        refine W.eq (g2 := F0 m 19 ls [.ref (sY 3 0)]) rfl ?_
        refine va_get (D := (dC, dI)) (ci := 7) (v := .int ((vY 3) 5)) (C := RX7) (T := TX7) (N := 9) hx hb hts (fun w h => List.mem_cons_of_mem _ (List.mem_append_right _ (List.mem_append_right _ (List.mem_append_right _ (List.mem_append_right _ (List.mem_append_left _ h)))))) hown hK hP 48 rfl rfl 6 (by decide) (hts (.fieldLink RX11 218 "SagMemory$State" "noise" "I") (wl_mem 10 rfl)) (fun _ h9 => h9) rfl dX11_creak_19 ?_
        refine lv_goto (tgt := 27) hx hb dX11_creak_22 (by decide) ?_
        rw [hQ]
        exact W.iret (v := ((vY 3) 5)) hx hb hr (fun t ht hW => ⟨((vY 3) 5), rfl, trivial, ht⟩) (fun _ h => absurd h List.not_mem_nil) dX11_creak_27
      · skip
        have zz59 : ¬ p1.toInt < (0 : Int) := fun h9 => cz35 (zi_lt.mpr h9)
        have zz60 : ¬ (7 : Int) ≤ p1.toInt := fun h9 => cz36 (zi_le.mpr h9)
        have zz61 : p1.toInt = (3 : Int) := zi_eq.mp cz37
        refine W.eq (g2 := F0 m 19 ls [.ref (sY 4 0)]) rfl ?_
        refine va_get (D := (dC, dI)) (ci := 7) (v := .int ((vY 4) 5)) (C := RX7) (T := TX7) (N := 9) hx hb hts (fun w h => List.mem_cons_of_mem _ (List.mem_append_right _ (List.mem_append_right _ (List.mem_append_right _ (List.mem_append_right _ (List.mem_append_left _ h)))))) hown hK hP 59 rfl rfl 6 (by decide) (hts (.fieldLink RX11 218 "SagMemory$State" "noise" "I") (wl_mem 10 rfl)) (fun _ h9 => h9) rfl dX11_creak_19 ?_
        refine lv_goto (tgt := 27) hx hb dX11_creak_22 (by decide) ?_
        rw [hQ]
        exact W.iret (v := ((vY 4) 5)) hx hb hr (fun t ht hW => ⟨((vY 4) 5), rfl, trivial, ht⟩) (fun _ h => absurd h List.not_mem_nil) dX11_creak_27
      · skip
        have zz62 : ¬ p1.toInt < (0 : Int) := fun h9 => cz38 (zi_lt.mpr h9)
        have zz63 : ¬ (7 : Int) ≤ p1.toInt := fun h9 => cz39 (zi_le.mpr h9)
        have zz64 : p1.toInt = (4 : Int) := zi_eq.mp cz40
        refine W.eq (g2 := F0 m 19 ls [.ref (sY 5 0)]) rfl ?_
        refine va_get (D := (dC, dI)) (ci := 7) (v := .int ((vY 5) 5)) (C := RX7) (T := TX7) (N := 9) hx hb hts (fun w h => List.mem_cons_of_mem _ (List.mem_append_right _ (List.mem_append_right _ (List.mem_append_right _ (List.mem_append_right _ (List.mem_append_left _ h)))))) hown hK hP 70 rfl rfl 6 (by decide) (hts (.fieldLink RX11 218 "SagMemory$State" "noise" "I") (wl_mem 10 rfl)) (fun _ h9 => h9) rfl dX11_creak_19 ?_
        refine lv_goto (tgt := 27) hx hb dX11_creak_22 (by decide) ?_
        rw [hQ]
        exact W.iret (v := ((vY 5) 5)) hx hb hr (fun t ht hW => ⟨((vY 5) 5), rfl, trivial, ht⟩) (fun _ h => absurd h List.not_mem_nil) dX11_creak_27
      · skip
        have zz65 : ¬ p1.toInt < (0 : Int) := fun h9 => cz41 (zi_lt.mpr h9)
        have zz66 : ¬ (7 : Int) ≤ p1.toInt := fun h9 => cz42 (zi_le.mpr h9)
        have zz67 : p1.toInt = (5 : Int) := zi_eq.mp cz43
        refine W.eq (g2 := F0 m 19 ls [.ref (sY 6 0)]) rfl ?_
        refine va_get (D := (dC, dI)) (ci := 7) (v := .int ((vY 6) 5)) (C := RX7) (T := TX7) (N := 9) hx hb hts (fun w h => List.mem_cons_of_mem _ (List.mem_append_right _ (List.mem_append_right _ (List.mem_append_right _ (List.mem_append_right _ (List.mem_append_left _ h)))))) hown hK hP 81 rfl rfl 6 (by decide) (hts (.fieldLink RX11 218 "SagMemory$State" "noise" "I") (wl_mem 10 rfl)) (fun _ h9 => h9) rfl dX11_creak_19 ?_
        refine lv_goto (tgt := 27) hx hb dX11_creak_22 (by decide) ?_
        rw [hQ]
        exact W.iret (v := ((vY 6) 5)) hx hb hr (fun t ht hW => ⟨((vY 6) 5), rfl, trivial, ht⟩) (fun _ h => absurd h List.not_mem_nil) dX11_creak_27
      · skip
        have zz68 : ¬ p1.toInt < (0 : Int) := fun h9 => cz44 (zi_lt.mpr h9)
        have zz69 : ¬ (7 : Int) ≤ p1.toInt := fun h9 => cz45 (zi_le.mpr h9)
        have zz70 : p1.toInt = (6 : Int) := zi_eq.mp cz46
        refine W.eq (g2 := F0 m 19 ls [.ref (sY 7 0)]) rfl ?_
        refine va_get (D := (dC, dI)) (ci := 7) (v := .int ((vY 7) 5)) (C := RX7) (T := TX7) (N := 9) hx hb hts (fun w h => List.mem_cons_of_mem _ (List.mem_append_right _ (List.mem_append_right _ (List.mem_append_right _ (List.mem_append_right _ (List.mem_append_left _ h)))))) hown hK hP 92 rfl rfl 6 (by decide) (hts (.fieldLink RX11 218 "SagMemory$State" "noise" "I") (wl_mem 10 rfl)) (fun _ h9 => h9) rfl dX11_creak_19 ?_
        refine lv_goto (tgt := 27) hx hb dX11_creak_22 (by decide) ?_
        rw [hQ]
        exact W.iret (v := ((vY 7) 5)) hx hb hr (fun t ht hW => ⟨((vY 7) 5), rfl, trivial, ht⟩) (fun _ h => absurd h List.not_mem_nil) dX11_creak_27
def wk_c_X11_loudest : List Cond := .code yX11_loudest cX11_loudest 5 (some .int) :: ([.methodLink RX11 180 yX11_noValley, .instanceMethod yX11_noValley, .selects RX11 yX11_noValley yX11_noValley, .initialized RX11, .fieldLink RX11 19 "SagMemory" "told" "LSagMemory$Valley;", .fieldLink RX11 177 "SagMemory$Valley" "carts" "I", .fieldLink RX11 45 "SagMemory" "story" "LSagMemory$Story;", .methodLink RX11 165 yX8_behind, .instanceMethod yX8_behind, .selects RX8 yX8_behind yX8_behind, .initialized RX8, .fieldLink RX11 218 "SagMemory$State" "noise" "I"] ++ (wk_c_X11_noValley ++ (wsX110 ++ (wsX100 ++ (wk_c_X8_behind ++ (wsX70 ++ []))))))
theorem wkg_c_X11_loudest : wk_c_X11_loudest.all goodWord = true := by decide +kernel
set_option maxHeartbeats 4000000 in
set_option maxRecDepth 100000 in
theorem c_X11_loudest (l : Launch) (dC : Nat → ClassId) (dI : Nat → Nat → Nat) (k : Nat → ClassId) (qX : Nat → Nat) (tapeX : Nat) (actsX : Nat) (nowX : Nat) (trialX : Nat) (attemptX : Nat) (orderSearchX : Nat) (routeSearchX : Nat) (setSearchX : Nat) (probeX : Nat) (slot0X : Nat) (slot1X : Nat) (slot2X : Nat) (slot3X : Nat) (image0X : Nat) (image1X : Nat) (image2X : Nat) (aX : Nat → Nat → Int32) (qV : Nat → Nat) (vV : Nat → Int32) (bV : Nat → Int32) (cV : Nat → Int32) (wV : Nat → Int32) (aV : Nat → Nat → Int32) (eV : Nat → Nat → Int32) (qY : Nat → Nat) (sY : Nat → Nat → Nat) (planY : Nat) (vY : Nat → Nat → Int32) (nY : Nat → Nat → Int32) (aY : Nat → Nat → Nat → Int32) (hbV : Rg 0 3 bV) (hcV : Rg 0 7 cV) (hwV : Rg 0 5 wV) (heV : RgA 0 99 eV) (hnY : ∀ t9, Rg 0 8 (nY t9)) : Met l yX11_loudest wk_c_X11_loudest ({ frames := 1, cells := 0, slots := 0, locals := 21 }) (va_Pc [.ref (qX 0)] (fun U => va_P (dC, dI) vwCl (List.flatten [(wSag qX k tapeX (qV 0) actsX nowX trialX (qY 0) attemptX orderSearchX routeSearchX setSearchX probeX slot0X slot1X slot2X slot3X image0X image1X image2X aX), (wValley qV k vV bV cV wV aV eV), (wStoO qY k (qV 0) planY (sY 0 0) (sY 1 0) (sY 2 0) (sY 3 0) (sY 4 0) (sY 5 0) (sY 6 0) (sY 7 0)), (wState (sY 0) k (vY 0) (nY 0) (aY 0)), (wState (sY 1) k (vY 1) (nY 1) (aY 1)), (wState (sY 2) k (vY 2) (nY 2) (aY 2)), (wState (sY 3) k (vY 3) (nY 3) (aY 3)), (wState (sY 4) k (vY 4) (nY 4) (aY 4)), (wState (sY 5) k (vY 5) (nY 5) (aY 5)), (wState (sY 6) k (vY 6) (nY 6) (aY 6)), (wState (sY 7) k (vY 7) (nY 7) (aY 7))]) U.heap ∧ va_K (dC, dI) vwCl (tK k) U)) (vp_Si (fun r : Int32 => True)) 0 0 (fun _ => False) := by
  refine Met.ofW (cc := cX11_loudest) (maxL := 5) (ret := (some .int)) (by decide) rfl ?_
  intro p e s m args below meth c s₁ B hml hv
  obtain ⟨rfl, hP, hK⟩ := hv
  have hx := B.exec
  have hb := B.bytes
  have hr := B.returns
  have hts := atoms_spec (ws := wk_c_X11_loudest) B.pre
  have hown : s.vm.findClass RX11 = some m.cls := findClass_of_methodNamed B.named
  have hlocks := B.notSynchronized
  have hP : va_P (dC, dI) vwCl (List.flatten [(wSag qX k tapeX (qV 0) actsX nowX trialX (qY 0) attemptX orderSearchX routeSearchX setSearchX probeX slot0X slot1X slot2X slot3X image0X image1X image2X aX), (wValley qV k vV bV cV wV aV eV), (wStoO qY k (qV 0) planY (sY 0 0) (sY 1 0) (sY 2 0) (sY 3 0) (sY 4 0) (sY 5 0) (sY 6 0) (sY 7 0)), (wState (sY 0) k (vY 0) (nY 0) (aY 0)), (wState (sY 1) k (vY 1) (nY 1) (aY 1)), (wState (sY 2) k (vY 2) (nY 2) (aY 2)), (wState (sY 3) k (vY 3) (nY 3) (aY 3)), (wState (sY 4) k (vY 4) (nY 4) (aY 4)), (wState (sY 5) k (vY 5) (nY 5) (aY 5)), (wState (sY 6) k (vY 6) (nY 6) (aY 6)), (wState (sY 7) k (vY 7) (nY 7) (aY 7))]) s.heap := hP
  have hl := lv_entry ([.ref (qX 0)]) (n := 5) (Nat.le_of_ble_eq_true rfl)
  rw [lg_entry_eq]
  generalize (lg_sl ([.ref (qX 0)]) ++ List.replicate (5 - (lg_sl ([.ref (qX 0)])).length) Slot.unset).toArray = ls at hl ⊢
  have hl : lv_has ls 5 [(0, .ref (qX 0))] := hl
  refine w_gen (fun Q hQ => ?_)
  refine lv_aload_n hx hb dX11_loudest_0 rfl (lv_at hl 0 rfl) ?_
  have hPc := hP.sub (ws' := (List.flatten [(wSag qX k tapeX (qV 0) actsX nowX trialX (qY 0) attemptX orderSearchX routeSearchX setSearchX probeX slot0X slot1X slot2X slot3X image0X image1X image2X aX), (wValley qV k vV bV cV wV aV eV)])) [0, 1, 2, 3, 4, 5, 6, 7, 8, 9, 10, 11, 12] rfl
  refine vp_callSi (va_Run.run (va_runV (As := []) (rest := []) ⟨hx, hb, hml, hown, hts⟩ (c_X11_noValley l dC dI k qX tapeX actsX nowX trialX (qY 0) attemptX orderSearchX routeSearchX setSearchX probeX slot0X slot1X slot2X slot3X image0X image1X image2X aX qV vV bV cV wV aV eV hbV hcV hwV heV) (cwV 0 hts (gk_V (wl_mem 0 rfl) (wl_mem 1 rfl) (wl_mem 2 rfl) (wl_mem 3 rfl) (fun w h => List.mem_cons_of_mem _ (List.mem_append_right _ (List.mem_append_left _ h))) wkg_c_X11_noValley) rfl rfl rfl (by decide +kernel) ⟨Nat.le_of_ble_eq_true rfl, Nat.le_of_ble_eq_true rfl⟩) ⟨fun a U g mk q => by obtain ⟨q0, qP, qK⟩ := q; exact ⟨q0, qP, va_K.moved (u := U) (U := U.calling g mk a) (Vm.Alike.refl U.vm) qK⟩, va_recv hK hPc (ci := 11) (q0 := 0) rfl rfl, fun U hU hW => ⟨rfl, by rw [hU]; exact hPc, va_K.moved hW.alike hK⟩⟩ rfl rfl hl.1 rfl (lv_room (Nat.le_of_ble_eq_true rfl)) dX11_loudest_1 ⟨Nat.le_of_ble_eq_true rfl, Nat.le_of_ble_eq_true rfl⟩)) (fun rz2 gz1 => ?_)
  clear hPc
  have pz3 := gz1
  have pz3 : rz2.toInt = 0 ∨ rz2.toInt = 1 := pz3
  refine lv_if_eq (tgt := 10) hx hb dX11_loudest_4 (by decide) (fun cz4 => ?_) (fun cz4 => ?_)
  · skip
    have zz5 : rz2.toInt = (0 : Int) := zi_eq.mp cz4
    refine lv_iconst (v := (-1)) hx hb dX11_loudest_10 (by decide) ?_
    refine lv_istore_n (lv' := [(1, .int (-1)), (0, .ref (qX 0))]) hx hb dX11_loudest_11 rfl hl (by decide) rfl (fun ls hl => ?_)
    refine lv_iconst (v := 0) hx hb dX11_loudest_12 (by decide) ?_
    refine lv_istore_n (lv' := [(2, .int 0), (1, .int (-1)), (0, .ref (qX 0))]) hx hb dX11_loudest_13 rfl hl (by decide) rfl (fun ls hl => ?_)
    refine lv_iconst (v := 0) hx hb dX11_loudest_14 (by decide) ?_
    refine lv_istore_n (lv' := [(3, .int 0), (2, .int 0), (1, .int (-1)), (0, .ref (qX 0))]) hx hb dX11_loudest_15 rfl hl (by decide) rfl (fun ls hl => ?_)
    have lp16_kz212 : ∀ (n9_16 : Nat) (ls : Array Slot) (xz209 : Int32) (xz210 : Int32) (xz211 : Int32), (2147483647 - xz211.toInt).toNat < n9_16 → 0 ≤ xz211.toInt → lv_has ls 5 [(0, .ref (qX 0)), (1, .int xz209), (2, .int xz210), (3, .int xz211)] → W p l e (headSpec wk_c_X11_loudest ({ frames := 1, cells := 0, slots := 0, locals := 21 })).room s m ([.ref (qX 0)] : List Value).toArray below meth c s.heap [] 0 0 Q (F0 m 16 ls []) := by
      intro n9_16
      induction n9_16 with
      | zero => intro ls xz209 xz210 xz211 hm; exact absurd hm (Nat.not_lt_zero _)
      | succ n9_16 ih16 =>
        intro ls xz209 xz210 xz211 hm16 jz213 hl
        refine lv_iload_n hx hb dX11_loudest_16 rfl (lv_at hl 3 rfl) ?_
        refine lv_aload_n hx hb dX11_loudest_17 rfl (lv_at hl 0 rfl) ?_
        refine va_get (D := (dC, dI)) (ci := 11) (v := .ref (qV 0)) (C := RX11) (T := TX11) (N := 15) hx hb hts (fun w h => List.mem_cons_of_mem _ (List.mem_append_right _ (List.mem_append_right _ (List.mem_append_left _ h)))) hown hK hP 0 rfl rfl 1 (by decide) (hts (.fieldLink RX11 19 "SagMemory" "told" "LSagMemory$Valley;") (wl_mem 4 rfl)) (fun _ h9 => h9) rfl dX11_loudest_18 ?_
        refine va_get (D := (dC, dI)) (ci := 10) (v := .int (cV 0)) (C := RX10) (T := TX10) (N := 16) hx hb hts (fun w h => List.mem_cons_of_mem _ (List.mem_append_right _ (List.mem_append_right _ (List.mem_append_right _ (List.mem_append_left _ h))))) hown hK hP 5 rfl rfl 12 (by decide) (hts (.fieldLink RX11 177 "SagMemory$Valley" "carts" "I") (wl_mem 5 rfl)) (fun _ h9 => h9) rfl dX11_loudest_21 ?_
        have bz214 := hcV 0
        refine lv_icmp_ge (tgt := 57) hx hb dX11_loudest_24 (by decide) (fun cz215 => ?_) (fun cz215 => ?_)
        · skip
          have bz216 := fb_rng xz211
          have zz217 : (cV 0).toInt ≤ xz211.toInt := zi_le.mp cz215
          refine lv_iload_n hx hb dX11_loudest_57 rfl (lv_at hl 1 rfl) ?_
          rw [hQ]
          exact W.iret (v := xz209) hx hb hr (fun t ht hW => ⟨xz209, rfl, trivial, ht⟩) (fun _ h => absurd h List.not_mem_nil) dX11_loudest_58
        · skip
          have bz218 := fb_rng xz211
          have zz219 : ¬ (cV 0).toInt ≤ xz211.toInt := fun h9 => cz215 (zi_le.mpr h9)
          refine lv_aload_n hx hb dX11_loudest_27 rfl (lv_at hl 0 rfl) ?_
          refine va_get (D := (dC, dI)) (ci := 11) (v := .ref (qY 0)) (C := RX11) (T := TX11) (N := 15) hx hb hts (fun w h => List.mem_cons_of_mem _ (List.mem_append_right _ (List.mem_append_right _ (List.mem_append_left _ h)))) hown hK hP 0 rfl rfl 5 (by decide) (hts (.fieldLink RX11 45 "SagMemory" "story" "LSagMemory$Story;") (wl_mem 6 rfl)) (fun _ h9 => h9) rfl dX11_loudest_28 ?_
          refine lv_iload_n hx hb dX11_loudest_31 rfl (lv_at hl 3 rfl) ?_
          have hPc : va_P (dC, dI) vwCl (List.flatten [(wStoO qY k (qV 0) planY (sY 0 0) (sY 1 0) (sY 2 0) (sY 3 0) (sY 4 0) (sY 5 0) (sY 6 0) (sY 7 0)), (wState (sY 0) k (vY 0) (nY 0) (aY 0)), (wState (sY 1) k (vY 1) (nY 1) (aY 1)), (wState (sY 2) k (vY 2) (nY 2) (aY 2)), (wState (sY 3) k (vY 3) (nY 3) (aY 3)), (wState (sY 4) k (vY 4) (nY 4) (aY 4)), (wState (sY 5) k (vY 5) (nY 5) (aY 5)), (wState (sY 6) k (vY 6) (nY 6) (aY 6)), (wState (sY 7) k (vY 7) (nY 7) (aY 7))]) s.heap := wc_subP0 hP [2, 3, 4, 5, 6, 7, 8, 9, 10] rfl
          refine va_csr (va_Run.run (va_runV (As := [.int xz211]) (rest := []) ⟨hx, hb, hml, hown, hts⟩ (c_X8_behind l dC dI k qY sY (qV 0) planY vY nY aY xz211 hnY) (cwV 1 hts (gk_V (wl_mem 7 rfl) (wl_mem 8 rfl) (wl_mem 9 rfl) (wl_mem 10 rfl) (fun w h => List.mem_cons_of_mem _ (List.mem_append_right _ (List.mem_append_right _ (List.mem_append_right _ (List.mem_append_right _ (List.mem_append_left _ h)))))) wkg_c_X8_behind) rfl rfl rfl (by decide +kernel) ⟨Nat.le_of_ble_eq_true rfl, Nat.le_of_ble_eq_true rfl⟩) ⟨fun a U g mk q => by obtain ⟨q0, qP, qK⟩ := q; exact ⟨q0, qP, va_K.moved (u := U) (U := U.calling g mk a) (Vm.Alike.refl U.vm) qK⟩, va_recv hK hPc (ci := 8) (q0 := 0) rfl rfl, fun U hU hW => ⟨rfl, by rw [hU]; exact hPc, va_K.moved hW.alike hK⟩⟩ rfl rfl hl.1 rfl (lv_room (Nat.le_of_ble_eq_true rfl)) dX11_loudest_32 ⟨Nat.le_of_ble_eq_true rfl, Nat.le_of_ble_eq_true rfl⟩)) (fun rz221 gz220 => ?_)
          clear hPc
          rcases gz220 with ⟨rfl, cz222⟩ | ⟨rfl, cz223, cz224⟩ | ⟨rfl, cz225, cz226, cz227⟩ | ⟨rfl, cz228, cz229, cz230⟩ | ⟨rfl, cz231, cz232, cz233⟩ | ⟨rfl, cz234, cz235, cz236⟩ | ⟨rfl, cz237, cz238, cz239⟩ | ⟨rfl, cz240, cz241, cz242⟩ | ⟨rfl, cz243, cz244, cz245⟩
          · skip
            have zz246 : xz211.toInt < (0 : Int) := zi_lt.mp cz222
            omega
          · skip
            have zz247 : ¬ xz211.toInt < (0 : Int) := fun h9 => cz223 (zi_lt.mpr h9)
            have zz248 : (7 : Int) ≤ xz211.toInt := zi_le.mp cz224
            omega
          · skip
            have zz249 : ¬ xz211.toInt < (0 : Int) := fun h9 => cz225 (zi_lt.mpr h9)
            have zz250 : ¬ (7 : Int) ≤ xz211.toInt := fun h9 => cz226 (zi_le.mpr h9)
            have zz251 : xz211.toInt = (0 : Int) := zi_eq.mp cz227
            refine W.eq (g2 := F0 m 35 ls [.ref (sY 1 0)]) rfl ?_
            refine va_get (D := (dC, dI)) (ci := 7) (v := .int ((vY 1) 5)) (C := RX7) (T := TX7) (N := 9) hx hb hts (fun w h => List.mem_cons_of_mem _ (List.mem_append_right _ (List.mem_append_right _ (List.mem_append_right _ (List.mem_append_right _ (List.mem_append_right _ (List.mem_append_left _ h))))))) hown hK hP 26 rfl rfl 6 (by decide) (hts (.fieldLink RX11 218 "SagMemory$State" "noise" "I") (wl_mem 11 rfl)) (fun _ h9 => h9) rfl dX11_loudest_35 ?_
            refine lv_istore (lv' := [(4, .int ((vY 1) 5)), (0, .ref (qX 0)), (1, .int xz209), (2, .int xz210), (3, .int xz211)]) hx hb dX11_loudest_38 hl (by decide) rfl (fun ls hl => ?_)
            refine lv_iload hx hb dX11_loudest_40 (lv_at hl 0 rfl) ?_
            refine lv_iload_n hx hb dX11_loudest_42 rfl (lv_at hl 3 rfl) ?_
            have ct51_kz261 : ∀ (ls : Array Slot) (xz259 : Int32) (xz260 : Int32), lv_has ls 5 [(0, .ref (qX 0)), (1, .int xz259), (2, .int xz260), (3, .int xz211)] → W p l e (headSpec wk_c_X11_loudest ({ frames := 1, cells := 0, slots := 0, locals := 21 })).room s m ([.ref (qX 0)] : List Value).toArray below meth c s.heap [] 0 0 Q (F0 m 51 ls []) := by
              intro ls xz259 xz260  hl
              obtain ⟨xz262, exz262⟩ : ∃ y : Int32, y = xz211 + Int32.ofInt (1) := ⟨_, rfl⟩
              have fxz262 : xz262.toInt = xz211.toInt + (1) := by rw [exz262]; exact fb_addI (y := Int32.ofInt (1)) (by show -2147483648 ≤ xz211.toInt + (1); omega) (by show xz211.toInt + (1) < 2147483648; omega)
              refine lv_iinc (v := xz262) (lv' := [(3, .int xz262), (0, .ref (qX 0)), (1, .int xz259), (2, .int xz260)]) hx hb dX11_loudest_51 hl (k := 3) rfl exz262.symm (by decide) rfl (fun ls hl => ?_)
              refine lv_goto (tgt := 16) hx hb dX11_loudest_54 (by decide) ?_
              exact ih16 ls xz259 xz260 xz262 (by show (2147483647 - xz262.toInt).toNat < n9_16; omega) (by show 0 ≤ xz262.toInt; omega) (lv_sub hl [1, 2, 3, 0] rfl)
            refine lv_icmp_le (tgt := 51) hx hb dX11_loudest_43 (by decide) (fun cz263 => ?_) (fun cz263 => ?_)
            · skip
              have bz264 := fb_rng ((vY 1) 5)
              have bz265 := fb_rng xz210
              have zz266 : ((vY 1) 5).toInt ≤ xz210.toInt := zi_le.mp cz263
              exact ct51_kz261 ls xz209 xz210   (lv_sub hl [1, 2, 3, 4] rfl)
            · skip
              have bz267 := fb_rng ((vY 1) 5)
              have bz268 := fb_rng xz210
              have zz269 : ¬ ((vY 1) 5).toInt ≤ xz210.toInt := fun h9 => cz263 (zi_le.mpr h9)
              refine lv_iload hx hb dX11_loudest_46 (lv_at hl 0 rfl) ?_
              refine lv_istore_n (lv' := [(2, .int ((vY 1) 5)), (4, .int ((vY 1) 5)), (0, .ref (qX 0)), (1, .int xz209), (3, .int xz211)]) hx hb dX11_loudest_48 rfl hl (by decide) rfl (fun ls hl => ?_)
              refine lv_iload_n hx hb dX11_loudest_49 rfl (lv_at hl 4 rfl) ?_
              refine lv_istore_n (lv' := [(1, .int xz211), (2, .int ((vY 1) 5)), (4, .int ((vY 1) 5)), (0, .ref (qX 0)), (3, .int xz211)]) hx hb dX11_loudest_50 rfl hl (by decide) rfl (fun ls hl => ?_)
              exact ct51_kz261 ls xz211 ((vY 1) 5)   (lv_sub hl [3, 0, 1, 4] rfl)
          · skip
            have zz270 : ¬ xz211.toInt < (0 : Int) := fun h9 => cz228 (zi_lt.mpr h9)
            have zz271 : ¬ (7 : Int) ≤ xz211.toInt := fun h9 => cz229 (zi_le.mpr h9)
            have zz272 : xz211.toInt = (1 : Int) := zi_eq.mp cz230
            refine W.eq (g2 := F0 m 35 ls [.ref (sY 2 0)]) rfl ?_
            refine va_get (D := (dC, dI)) (ci := 7) (v := .int ((vY 2) 5)) (C := RX7) (T := TX7) (N := 9) hx hb hts (fun w h => List.mem_cons_of_mem _ (List.mem_append_right _ (List.mem_append_right _ (List.mem_append_right _ (List.mem_append_right _ (List.mem_append_right _ (List.mem_append_left _ h))))))) hown hK hP 37 rfl rfl 6 (by decide) (hts (.fieldLink RX11 218 "SagMemory$State" "noise" "I") (wl_mem 11 rfl)) (fun _ h9 => h9) rfl dX11_loudest_35 ?_
            refine lv_istore (lv' := [(4, .int ((vY 2) 5)), (0, .ref (qX 0)), (1, .int xz209), (2, .int xz210), (3, .int xz211)]) hx hb dX11_loudest_38 hl (by decide) rfl (fun ls hl => ?_)
            refine lv_iload hx hb dX11_loudest_40 (lv_at hl 0 rfl) ?_
            refine lv_iload_n hx hb dX11_loudest_42 rfl (lv_at hl 3 rfl) ?_
            have ct51_kz282 : ∀ (ls : Array Slot) (xz280 : Int32) (xz281 : Int32), lv_has ls 5 [(0, .ref (qX 0)), (1, .int xz280), (2, .int xz281), (3, .int xz211)] → W p l e (headSpec wk_c_X11_loudest ({ frames := 1, cells := 0, slots := 0, locals := 21 })).room s m ([.ref (qX 0)] : List Value).toArray below meth c s.heap [] 0 0 Q (F0 m 51 ls []) := by
              intro ls xz280 xz281  hl
              obtain ⟨xz283, exz283⟩ : ∃ y : Int32, y = xz211 + Int32.ofInt (1) := ⟨_, rfl⟩
              have fxz283 : xz283.toInt = xz211.toInt + (1) := by rw [exz283]; exact fb_addI (y := Int32.ofInt (1)) (by show -2147483648 ≤ xz211.toInt + (1); omega) (by show xz211.toInt + (1) < 2147483648; omega)
              refine lv_iinc (v := xz283) (lv' := [(3, .int xz283), (0, .ref (qX 0)), (1, .int xz280), (2, .int xz281)]) hx hb dX11_loudest_51 hl (k := 3) rfl exz283.symm (by decide) rfl (fun ls hl => ?_)
              refine lv_goto (tgt := 16) hx hb dX11_loudest_54 (by decide) ?_
              exact ih16 ls xz280 xz281 xz283 (by show (2147483647 - xz283.toInt).toNat < n9_16; omega) (by show 0 ≤ xz283.toInt; omega) (lv_sub hl [1, 2, 3, 0] rfl)
            refine lv_icmp_le (tgt := 51) hx hb dX11_loudest_43 (by decide) (fun cz284 => ?_) (fun cz284 => ?_)
            · skip
              have bz285 := fb_rng ((vY 2) 5)
              have bz286 := fb_rng xz210
              have zz287 : ((vY 2) 5).toInt ≤ xz210.toInt := zi_le.mp cz284
              exact ct51_kz282 ls xz209 xz210   (lv_sub hl [1, 2, 3, 4] rfl)
            · skip
              have bz288 := fb_rng ((vY 2) 5)
              have bz289 := fb_rng xz210
              have zz290 : ¬ ((vY 2) 5).toInt ≤ xz210.toInt := fun h9 => cz284 (zi_le.mpr h9)
              refine lv_iload hx hb dX11_loudest_46 (lv_at hl 0 rfl) ?_
              refine lv_istore_n (lv' := [(2, .int ((vY 2) 5)), (4, .int ((vY 2) 5)), (0, .ref (qX 0)), (1, .int xz209), (3, .int xz211)]) hx hb dX11_loudest_48 rfl hl (by decide) rfl (fun ls hl => ?_)
              refine lv_iload_n hx hb dX11_loudest_49 rfl (lv_at hl 4 rfl) ?_
              refine lv_istore_n (lv' := [(1, .int xz211), (2, .int ((vY 2) 5)), (4, .int ((vY 2) 5)), (0, .ref (qX 0)), (3, .int xz211)]) hx hb dX11_loudest_50 rfl hl (by decide) rfl (fun ls hl => ?_)
              exact ct51_kz282 ls xz211 ((vY 2) 5)   (lv_sub hl [3, 0, 1, 4] rfl)
          · skip
            have zz291 : ¬ xz211.toInt < (0 : Int) := fun h9 => cz231 (zi_lt.mpr h9)
            have zz292 : ¬ (7 : Int) ≤ xz211.toInt := fun h9 => cz232 (zi_le.mpr h9)
            have zz293 : xz211.toInt = (2 : Int) := zi_eq.mp cz233
            refine W.eq (g2 := F0 m 35 ls [.ref (sY 3 0)]) rfl ?_
            refine va_get (D := (dC, dI)) (ci := 7) (v := .int ((vY 3) 5)) (C := RX7) (T := TX7) (N := 9) hx hb hts (fun w h => List.mem_cons_of_mem _ (List.mem_append_right _ (List.mem_append_right _ (List.mem_append_right _ (List.mem_append_right _ (List.mem_append_right _ (List.mem_append_left _ h))))))) hown hK hP 48 rfl rfl 6 (by decide) (hts (.fieldLink RX11 218 "SagMemory$State" "noise" "I") (wl_mem 11 rfl)) (fun _ h9 => h9) rfl dX11_loudest_35 ?_
            refine lv_istore (lv' := [(4, .int ((vY 3) 5)), (0, .ref (qX 0)), (1, .int xz209), (2, .int xz210), (3, .int xz211)]) hx hb dX11_loudest_38 hl (by decide) rfl (fun ls hl => ?_)
            refine lv_iload hx hb dX11_loudest_40 (lv_at hl 0 rfl) ?_
            refine lv_iload_n hx hb dX11_loudest_42 rfl (lv_at hl 3 rfl) ?_
            have ct51_kz303 : ∀ (ls : Array Slot) (xz301 : Int32) (xz302 : Int32), lv_has ls 5 [(0, .ref (qX 0)), (1, .int xz301), (2, .int xz302), (3, .int xz211)] → W p l e (headSpec wk_c_X11_loudest ({ frames := 1, cells := 0, slots := 0, locals := 21 })).room s m ([.ref (qX 0)] : List Value).toArray below meth c s.heap [] 0 0 Q (F0 m 51 ls []) := by
              intro ls xz301 xz302  hl
              obtain ⟨xz304, exz304⟩ : ∃ y : Int32, y = xz211 + Int32.ofInt (1) := ⟨_, rfl⟩
              have fxz304 : xz304.toInt = xz211.toInt + (1) := by rw [exz304]; exact fb_addI (y := Int32.ofInt (1)) (by show -2147483648 ≤ xz211.toInt + (1); omega) (by show xz211.toInt + (1) < 2147483648; omega)
              refine lv_iinc (v := xz304) (lv' := [(3, .int xz304), (0, .ref (qX 0)), (1, .int xz301), (2, .int xz302)]) hx hb dX11_loudest_51 hl (k := 3) rfl exz304.symm (by decide) rfl (fun ls hl => ?_)
              refine lv_goto (tgt := 16) hx hb dX11_loudest_54 (by decide) ?_
              exact ih16 ls xz301 xz302 xz304 (by show (2147483647 - xz304.toInt).toNat < n9_16; omega) (by show 0 ≤ xz304.toInt; omega) (lv_sub hl [1, 2, 3, 0] rfl)
            refine lv_icmp_le (tgt := 51) hx hb dX11_loudest_43 (by decide) (fun cz305 => ?_) (fun cz305 => ?_)
            · skip
              have bz306 := fb_rng ((vY 3) 5)
              have bz307 := fb_rng xz210
              have zz308 : ((vY 3) 5).toInt ≤ xz210.toInt := zi_le.mp cz305
              exact ct51_kz303 ls xz209 xz210   (lv_sub hl [1, 2, 3, 4] rfl)
            · skip
              have bz309 := fb_rng ((vY 3) 5)
              have bz310 := fb_rng xz210
              have zz311 : ¬ ((vY 3) 5).toInt ≤ xz210.toInt := fun h9 => cz305 (zi_le.mpr h9)
              refine lv_iload hx hb dX11_loudest_46 (lv_at hl 0 rfl) ?_
              refine lv_istore_n (lv' := [(2, .int ((vY 3) 5)), (4, .int ((vY 3) 5)), (0, .ref (qX 0)), (1, .int xz209), (3, .int xz211)]) hx hb dX11_loudest_48 rfl hl (by decide) rfl (fun ls hl => ?_)
              refine lv_iload_n hx hb dX11_loudest_49 rfl (lv_at hl 4 rfl) ?_
              refine lv_istore_n (lv' := [(1, .int xz211), (2, .int ((vY 3) 5)), (4, .int ((vY 3) 5)), (0, .ref (qX 0)), (3, .int xz211)]) hx hb dX11_loudest_50 rfl hl (by decide) rfl (fun ls hl => ?_)
              exact ct51_kz303 ls xz211 ((vY 3) 5)   (lv_sub hl [3, 0, 1, 4] rfl)
          · skip
            have zz312 : ¬ xz211.toInt < (0 : Int) := fun h9 => cz234 (zi_lt.mpr h9)
            have zz313 : ¬ (7 : Int) ≤ xz211.toInt := fun h9 => cz235 (zi_le.mpr h9)
            have zz314 : xz211.toInt = (3 : Int) := zi_eq.mp cz236
            refine W.eq (g2 := F0 m 35 ls [.ref (sY 4 0)]) rfl ?_
            refine va_get (D := (dC, dI)) (ci := 7) (v := .int ((vY 4) 5)) (C := RX7) (T := TX7) (N := 9) hx hb hts (fun w h => List.mem_cons_of_mem _ (List.mem_append_right _ (List.mem_append_right _ (List.mem_append_right _ (List.mem_append_right _ (List.mem_append_right _ (List.mem_append_left _ h))))))) hown hK hP 59 rfl rfl 6 (by decide) (hts (.fieldLink RX11 218 "SagMemory$State" "noise" "I") (wl_mem 11 rfl)) (fun _ h9 => h9) rfl dX11_loudest_35 ?_
            refine lv_istore (lv' := [(4, .int ((vY 4) 5)), (0, .ref (qX 0)), (1, .int xz209), (2, .int xz210), (3, .int xz211)]) hx hb dX11_loudest_38 hl (by decide) rfl (fun ls hl => ?_)
            refine lv_iload hx hb dX11_loudest_40 (lv_at hl 0 rfl) ?_
            refine lv_iload_n hx hb dX11_loudest_42 rfl (lv_at hl 3 rfl) ?_
            have ct51_kz324 : ∀ (ls : Array Slot) (xz322 : Int32) (xz323 : Int32), lv_has ls 5 [(0, .ref (qX 0)), (1, .int xz322), (2, .int xz323), (3, .int xz211)] → W p l e (headSpec wk_c_X11_loudest ({ frames := 1, cells := 0, slots := 0, locals := 21 })).room s m ([.ref (qX 0)] : List Value).toArray below meth c s.heap [] 0 0 Q (F0 m 51 ls []) := by
              intro ls xz322 xz323  hl
              obtain ⟨xz325, exz325⟩ : ∃ y : Int32, y = xz211 + Int32.ofInt (1) := ⟨_, rfl⟩
              have fxz325 : xz325.toInt = xz211.toInt + (1) := by rw [exz325]; exact fb_addI (y := Int32.ofInt (1)) (by show -2147483648 ≤ xz211.toInt + (1); omega) (by show xz211.toInt + (1) < 2147483648; omega)
              refine lv_iinc (v := xz325) (lv' := [(3, .int xz325), (0, .ref (qX 0)), (1, .int xz322), (2, .int xz323)]) hx hb dX11_loudest_51 hl (k := 3) rfl exz325.symm (by decide) rfl (fun ls hl => ?_)
              refine lv_goto (tgt := 16) hx hb dX11_loudest_54 (by decide) ?_
              exact ih16 ls xz322 xz323 xz325 (by show (2147483647 - xz325.toInt).toNat < n9_16; omega) (by show 0 ≤ xz325.toInt; omega) (lv_sub hl [1, 2, 3, 0] rfl)
            refine lv_icmp_le (tgt := 51) hx hb dX11_loudest_43 (by decide) (fun cz326 => ?_) (fun cz326 => ?_)
            · skip
              have bz327 := fb_rng ((vY 4) 5)
              have bz328 := fb_rng xz210
              have zz329 : ((vY 4) 5).toInt ≤ xz210.toInt := zi_le.mp cz326
              exact ct51_kz324 ls xz209 xz210   (lv_sub hl [1, 2, 3, 4] rfl)
            · skip
              have bz330 := fb_rng ((vY 4) 5)
              have bz331 := fb_rng xz210
              have zz332 : ¬ ((vY 4) 5).toInt ≤ xz210.toInt := fun h9 => cz326 (zi_le.mpr h9)
              refine lv_iload hx hb dX11_loudest_46 (lv_at hl 0 rfl) ?_
              refine lv_istore_n (lv' := [(2, .int ((vY 4) 5)), (4, .int ((vY 4) 5)), (0, .ref (qX 0)), (1, .int xz209), (3, .int xz211)]) hx hb dX11_loudest_48 rfl hl (by decide) rfl (fun ls hl => ?_)
              refine lv_iload_n hx hb dX11_loudest_49 rfl (lv_at hl 4 rfl) ?_
              refine lv_istore_n (lv' := [(1, .int xz211), (2, .int ((vY 4) 5)), (4, .int ((vY 4) 5)), (0, .ref (qX 0)), (3, .int xz211)]) hx hb dX11_loudest_50 rfl hl (by decide) rfl (fun ls hl => ?_)
              exact ct51_kz324 ls xz211 ((vY 4) 5)   (lv_sub hl [3, 0, 1, 4] rfl)
          · skip
            have zz333 : ¬ xz211.toInt < (0 : Int) := fun h9 => cz237 (zi_lt.mpr h9)
            have zz334 : ¬ (7 : Int) ≤ xz211.toInt := fun h9 => cz238 (zi_le.mpr h9)
            have zz335 : xz211.toInt = (4 : Int) := zi_eq.mp cz239
            refine W.eq (g2 := F0 m 35 ls [.ref (sY 5 0)]) rfl ?_
            refine va_get (D := (dC, dI)) (ci := 7) (v := .int ((vY 5) 5)) (C := RX7) (T := TX7) (N := 9) hx hb hts (fun w h => List.mem_cons_of_mem _ (List.mem_append_right _ (List.mem_append_right _ (List.mem_append_right _ (List.mem_append_right _ (List.mem_append_right _ (List.mem_append_left _ h))))))) hown hK hP 70 rfl rfl 6 (by decide) (hts (.fieldLink RX11 218 "SagMemory$State" "noise" "I") (wl_mem 11 rfl)) (fun _ h9 => h9) rfl dX11_loudest_35 ?_
            refine lv_istore (lv' := [(4, .int ((vY 5) 5)), (0, .ref (qX 0)), (1, .int xz209), (2, .int xz210), (3, .int xz211)]) hx hb dX11_loudest_38 hl (by decide) rfl (fun ls hl => ?_)
            refine lv_iload hx hb dX11_loudest_40 (lv_at hl 0 rfl) ?_
            refine lv_iload_n hx hb dX11_loudest_42 rfl (lv_at hl 3 rfl) ?_
            have ct51_kz345 : ∀ (ls : Array Slot) (xz343 : Int32) (xz344 : Int32), lv_has ls 5 [(0, .ref (qX 0)), (1, .int xz343), (2, .int xz344), (3, .int xz211)] → W p l e (headSpec wk_c_X11_loudest ({ frames := 1, cells := 0, slots := 0, locals := 21 })).room s m ([.ref (qX 0)] : List Value).toArray below meth c s.heap [] 0 0 Q (F0 m 51 ls []) := by
              intro ls xz343 xz344  hl
              obtain ⟨xz346, exz346⟩ : ∃ y : Int32, y = xz211 + Int32.ofInt (1) := ⟨_, rfl⟩
              have fxz346 : xz346.toInt = xz211.toInt + (1) := by rw [exz346]; exact fb_addI (y := Int32.ofInt (1)) (by show -2147483648 ≤ xz211.toInt + (1); omega) (by show xz211.toInt + (1) < 2147483648; omega)
              refine lv_iinc (v := xz346) (lv' := [(3, .int xz346), (0, .ref (qX 0)), (1, .int xz343), (2, .int xz344)]) hx hb dX11_loudest_51 hl (k := 3) rfl exz346.symm (by decide) rfl (fun ls hl => ?_)
              refine lv_goto (tgt := 16) hx hb dX11_loudest_54 (by decide) ?_
              exact ih16 ls xz343 xz344 xz346 (by show (2147483647 - xz346.toInt).toNat < n9_16; omega) (by show 0 ≤ xz346.toInt; omega) (lv_sub hl [1, 2, 3, 0] rfl)
            refine lv_icmp_le (tgt := 51) hx hb dX11_loudest_43 (by decide) (fun cz347 => ?_) (fun cz347 => ?_)
            · skip
              have bz348 := fb_rng ((vY 5) 5)
              have bz349 := fb_rng xz210
              have zz350 : ((vY 5) 5).toInt ≤ xz210.toInt := zi_le.mp cz347
              exact ct51_kz345 ls xz209 xz210   (lv_sub hl [1, 2, 3, 4] rfl)
            · skip
              have bz351 := fb_rng ((vY 5) 5)
              have bz352 := fb_rng xz210
              have zz353 : ¬ ((vY 5) 5).toInt ≤ xz210.toInt := fun h9 => cz347 (zi_le.mpr h9)
              refine lv_iload hx hb dX11_loudest_46 (lv_at hl 0 rfl) ?_
              refine lv_istore_n (lv' := [(2, .int ((vY 5) 5)), (4, .int ((vY 5) 5)), (0, .ref (qX 0)), (1, .int xz209), (3, .int xz211)]) hx hb dX11_loudest_48 rfl hl (by decide) rfl (fun ls hl => ?_)
              refine lv_iload_n hx hb dX11_loudest_49 rfl (lv_at hl 4 rfl) ?_
              refine lv_istore_n (lv' := [(1, .int xz211), (2, .int ((vY 5) 5)), (4, .int ((vY 5) 5)), (0, .ref (qX 0)), (3, .int xz211)]) hx hb dX11_loudest_50 rfl hl (by decide) rfl (fun ls hl => ?_)
              exact ct51_kz345 ls xz211 ((vY 5) 5)   (lv_sub hl [3, 0, 1, 4] rfl)
          · skip
            have zz354 : ¬ xz211.toInt < (0 : Int) := fun h9 => cz240 (zi_lt.mpr h9)
            have zz355 : ¬ (7 : Int) ≤ xz211.toInt := fun h9 => cz241 (zi_le.mpr h9)
            have zz356 : xz211.toInt = (5 : Int) := zi_eq.mp cz242
            refine W.eq (g2 := F0 m 35 ls [.ref (sY 6 0)]) rfl ?_
            refine va_get (D := (dC, dI)) (ci := 7) (v := .int ((vY 6) 5)) (C := RX7) (T := TX7) (N := 9) hx hb hts (fun w h => List.mem_cons_of_mem _ (List.mem_append_right _ (List.mem_append_right _ (List.mem_append_right _ (List.mem_append_right _ (List.mem_append_right _ (List.mem_append_left _ h))))))) hown hK hP 81 rfl rfl 6 (by decide) (hts (.fieldLink RX11 218 "SagMemory$State" "noise" "I") (wl_mem 11 rfl)) (fun _ h9 => h9) rfl dX11_loudest_35 ?_
            refine lv_istore (lv' := [(4, .int ((vY 6) 5)), (0, .ref (qX 0)), (1, .int xz209), (2, .int xz210), (3, .int xz211)]) hx hb dX11_loudest_38 hl (by decide) rfl (fun ls hl => ?_)
            refine lv_iload hx hb dX11_loudest_40 (lv_at hl 0 rfl) ?_
            refine lv_iload_n hx hb dX11_loudest_42 rfl (lv_at hl 3 rfl) ?_
            have ct51_kz366 : ∀ (ls : Array Slot) (xz364 : Int32) (xz365 : Int32), lv_has ls 5 [(0, .ref (qX 0)), (1, .int xz364), (2, .int xz365), (3, .int xz211)] → W p l e (headSpec wk_c_X11_loudest ({ frames := 1, cells := 0, slots := 0, locals := 21 })).room s m ([.ref (qX 0)] : List Value).toArray below meth c s.heap [] 0 0 Q (F0 m 51 ls []) := by
              intro ls xz364 xz365  hl
              obtain ⟨xz367, exz367⟩ : ∃ y : Int32, y = xz211 + Int32.ofInt (1) := ⟨_, rfl⟩
              have fxz367 : xz367.toInt = xz211.toInt + (1) := by rw [exz367]; exact fb_addI (y := Int32.ofInt (1)) (by show -2147483648 ≤ xz211.toInt + (1); omega) (by show xz211.toInt + (1) < 2147483648; omega)
              refine lv_iinc (v := xz367) (lv' := [(3, .int xz367), (0, .ref (qX 0)), (1, .int xz364), (2, .int xz365)]) hx hb dX11_loudest_51 hl (k := 3) rfl exz367.symm (by decide) rfl (fun ls hl => ?_)
              refine lv_goto (tgt := 16) hx hb dX11_loudest_54 (by decide) ?_
              exact ih16 ls xz364 xz365 xz367 (by show (2147483647 - xz367.toInt).toNat < n9_16; omega) (by show 0 ≤ xz367.toInt; omega) (lv_sub hl [1, 2, 3, 0] rfl)
            refine lv_icmp_le (tgt := 51) hx hb dX11_loudest_43 (by decide) (fun cz368 => ?_) (fun cz368 => ?_)
            · skip
              have bz369 := fb_rng ((vY 6) 5)
              have bz370 := fb_rng xz210
              have zz371 : ((vY 6) 5).toInt ≤ xz210.toInt := zi_le.mp cz368
              exact ct51_kz366 ls xz209 xz210   (lv_sub hl [1, 2, 3, 4] rfl)
            · skip
              have bz372 := fb_rng ((vY 6) 5)
              have bz373 := fb_rng xz210
              have zz374 : ¬ ((vY 6) 5).toInt ≤ xz210.toInt := fun h9 => cz368 (zi_le.mpr h9)
              refine lv_iload hx hb dX11_loudest_46 (lv_at hl 0 rfl) ?_
              refine lv_istore_n (lv' := [(2, .int ((vY 6) 5)), (4, .int ((vY 6) 5)), (0, .ref (qX 0)), (1, .int xz209), (3, .int xz211)]) hx hb dX11_loudest_48 rfl hl (by decide) rfl (fun ls hl => ?_)
              refine lv_iload_n hx hb dX11_loudest_49 rfl (lv_at hl 4 rfl) ?_
              refine lv_istore_n (lv' := [(1, .int xz211), (2, .int ((vY 6) 5)), (4, .int ((vY 6) 5)), (0, .ref (qX 0)), (3, .int xz211)]) hx hb dX11_loudest_50 rfl hl (by decide) rfl (fun ls hl => ?_)
              exact ct51_kz366 ls xz211 ((vY 6) 5)   (lv_sub hl [3, 0, 1, 4] rfl)
          · skip
            have zz375 : ¬ xz211.toInt < (0 : Int) := fun h9 => cz243 (zi_lt.mpr h9)
            have zz376 : ¬ (7 : Int) ≤ xz211.toInt := fun h9 => cz244 (zi_le.mpr h9)
            have zz377 : xz211.toInt = (6 : Int) := zi_eq.mp cz245
            refine W.eq (g2 := F0 m 35 ls [.ref (sY 7 0)]) rfl ?_
            refine va_get (D := (dC, dI)) (ci := 7) (v := .int ((vY 7) 5)) (C := RX7) (T := TX7) (N := 9) hx hb hts (fun w h => List.mem_cons_of_mem _ (List.mem_append_right _ (List.mem_append_right _ (List.mem_append_right _ (List.mem_append_right _ (List.mem_append_right _ (List.mem_append_left _ h))))))) hown hK hP 92 rfl rfl 6 (by decide) (hts (.fieldLink RX11 218 "SagMemory$State" "noise" "I") (wl_mem 11 rfl)) (fun _ h9 => h9) rfl dX11_loudest_35 ?_
            refine lv_istore (lv' := [(4, .int ((vY 7) 5)), (0, .ref (qX 0)), (1, .int xz209), (2, .int xz210), (3, .int xz211)]) hx hb dX11_loudest_38 hl (by decide) rfl (fun ls hl => ?_)
            refine lv_iload hx hb dX11_loudest_40 (lv_at hl 0 rfl) ?_
            refine lv_iload_n hx hb dX11_loudest_42 rfl (lv_at hl 3 rfl) ?_
            have ct51_kz387 : ∀ (ls : Array Slot) (xz385 : Int32) (xz386 : Int32), lv_has ls 5 [(0, .ref (qX 0)), (1, .int xz385), (2, .int xz386), (3, .int xz211)] → W p l e (headSpec wk_c_X11_loudest ({ frames := 1, cells := 0, slots := 0, locals := 21 })).room s m ([.ref (qX 0)] : List Value).toArray below meth c s.heap [] 0 0 Q (F0 m 51 ls []) := by
              intro ls xz385 xz386  hl
              obtain ⟨xz388, exz388⟩ : ∃ y : Int32, y = xz211 + Int32.ofInt (1) := ⟨_, rfl⟩
              have fxz388 : xz388.toInt = xz211.toInt + (1) := by rw [exz388]; exact fb_addI (y := Int32.ofInt (1)) (by show -2147483648 ≤ xz211.toInt + (1); omega) (by show xz211.toInt + (1) < 2147483648; omega)
              refine lv_iinc (v := xz388) (lv' := [(3, .int xz388), (0, .ref (qX 0)), (1, .int xz385), (2, .int xz386)]) hx hb dX11_loudest_51 hl (k := 3) rfl exz388.symm (by decide) rfl (fun ls hl => ?_)
              refine lv_goto (tgt := 16) hx hb dX11_loudest_54 (by decide) ?_
              exact ih16 ls xz385 xz386 xz388 (by show (2147483647 - xz388.toInt).toNat < n9_16; omega) (by show 0 ≤ xz388.toInt; omega) (lv_sub hl [1, 2, 3, 0] rfl)
            refine lv_icmp_le (tgt := 51) hx hb dX11_loudest_43 (by decide) (fun cz389 => ?_) (fun cz389 => ?_)
            · skip
              have bz390 := fb_rng ((vY 7) 5)
              have bz391 := fb_rng xz210
              have zz392 : ((vY 7) 5).toInt ≤ xz210.toInt := zi_le.mp cz389
              exact ct51_kz387 ls xz209 xz210   (lv_sub hl [1, 2, 3, 4] rfl)
            · skip
              have bz393 := fb_rng ((vY 7) 5)
              have bz394 := fb_rng xz210
              have zz395 : ¬ ((vY 7) 5).toInt ≤ xz210.toInt := fun h9 => cz389 (zi_le.mpr h9)
              refine lv_iload hx hb dX11_loudest_46 (lv_at hl 0 rfl) ?_
              refine lv_istore_n (lv' := [(2, .int ((vY 7) 5)), (4, .int ((vY 7) 5)), (0, .ref (qX 0)), (1, .int xz209), (3, .int xz211)]) hx hb dX11_loudest_48 rfl hl (by decide) rfl (fun ls hl => ?_)
              refine lv_iload_n hx hb dX11_loudest_49 rfl (lv_at hl 4 rfl) ?_
              refine lv_istore_n (lv' := [(1, .int xz211), (2, .int ((vY 7) 5)), (4, .int ((vY 7) 5)), (0, .ref (qX 0)), (3, .int xz211)]) hx hb dX11_loudest_50 rfl hl (by decide) rfl (fun ls hl => ?_)
              exact ct51_kz387 ls xz211 ((vY 7) 5)   (lv_sub hl [3, 0, 1, 4] rfl)
    exact lp16_kz212 _ ls (-1 : Int32) (0 : Int32) (0 : Int32) (Nat.lt_succ_self _) (by show 0 ≤ (0 : Int); omega) (lv_sub hl [3, 2, 1, 0] rfl)
  · skip
    have zz396 : ¬ rz2.toInt = (0 : Int) := fun h9 => cz4 (zi_eq.mpr h9)
    refine lv_bipush (v := (-2)) hx hb dX11_loudest_7 (by decide) ?_
    rw [hQ]
    exact W.iret (v := (-2 : Int32)) hx hb hr (fun t ht hW => ⟨(-2 : Int32), rfl, trivial, ht⟩) (fun _ h => absurd h List.not_mem_nil) dX11_loudest_9
def wk_c_X11_pays : List Cond := .code yX11_pays cX11_pays 2 (some .int) :: ([.fieldLink RX11 19 "SagMemory" "told" "LSagMemory$Valley;", .methodLink RX11 141 yX10_hasCart, .instanceMethod yX10_hasCart, .selects RX10 yX10_hasCart yX10_hasCart, .initialized RX10, .fieldLink RX11 45 "SagMemory" "story" "LSagMemory$Story;", .methodLink RX11 165 yX8_behind, .instanceMethod yX8_behind, .selects RX8 yX8_behind yX8_behind, .initialized RX8, .fieldLink RX11 221 "SagMemory$State" "paid" "I"] ++ (wsX110 ++ (wk_c_X10_hasCart ++ (wk_c_X8_behind ++ (wsX70 ++ [])))))
theorem wkg_c_X11_pays : wk_c_X11_pays.all goodWord = true := by decide +kernel
set_option maxHeartbeats 4000000 in
set_option maxRecDepth 100000 in
theorem c_X11_pays (l : Launch) (dC : Nat → ClassId) (dI : Nat → Nat → Nat) (k : Nat → ClassId) (qX : Nat → Nat) (tapeX : Nat) (actsX : Nat) (nowX : Nat) (trialX : Nat) (attemptX : Nat) (orderSearchX : Nat) (routeSearchX : Nat) (setSearchX : Nat) (probeX : Nat) (slot0X : Nat) (slot1X : Nat) (slot2X : Nat) (slot3X : Nat) (image0X : Nat) (image1X : Nat) (image2X : Nat) (aX : Nat → Nat → Int32) (qV : Nat → Nat) (vV : Nat → Int32) (bV : Nat → Int32) (cV : Nat → Int32) (wV : Nat → Int32) (aV : Nat → Nat → Int32) (eV : Nat → Nat → Int32) (qY : Nat → Nat) (sY : Nat → Nat → Nat) (planY : Nat) (vY : Nat → Nat → Int32) (nY : Nat → Nat → Int32) (aY : Nat → Nat → Nat → Int32) (p1 : Int32) (hbV : Rg 0 3 bV) (hcV : Rg 0 7 cV) (hwV : Rg 0 5 wV) (heV : RgA 0 99 eV) (hnY : ∀ t9, Rg 0 8 (nY t9)) : Met l yX11_pays wk_c_X11_pays ({ frames := 1, cells := 0, slots := 0, locals := 21 }) (va_Pc [.ref (qX 0), .int p1] (fun U => va_P (dC, dI) vwCl (List.flatten [(wSag qX k tapeX (qV 0) actsX nowX trialX (qY 0) attemptX orderSearchX routeSearchX setSearchX probeX slot0X slot1X slot2X slot3X image0X image1X image2X aX), (wValley qV k vV bV cV wV aV eV), (wStoO qY k (qV 0) planY (sY 0 0) (sY 1 0) (sY 2 0) (sY 3 0) (sY 4 0) (sY 5 0) (sY 6 0) (sY 7 0)), (wState (sY 0) k (vY 0) (nY 0) (aY 0)), (wState (sY 1) k (vY 1) (nY 1) (aY 1)), (wState (sY 2) k (vY 2) (nY 2) (aY 2)), (wState (sY 3) k (vY 3) (nY 3) (aY 3)), (wState (sY 4) k (vY 4) (nY 4) (aY 4)), (wState (sY 5) k (vY 5) (nY 5) (aY 5)), (wState (sY 6) k (vY 6) (nY 6) (aY 6)), (wState (sY 7) k (vY 7) (nY 7) (aY 7))]) U.heap ∧ va_K (dC, dI) vwCl (tK k) U)) (vp_Si (fun r : Int32 => True)) 0 0 (fun _ => False) := by
  refine Met.ofW (cc := cX11_pays) (maxL := 2) (ret := (some .int)) (by decide) rfl ?_
  intro p e s m args below meth c s₁ B hml hv
  obtain ⟨rfl, hP, hK⟩ := hv
  have hx := B.exec
  have hb := B.bytes
  have hr := B.returns
  have hts := atoms_spec (ws := wk_c_X11_pays) B.pre
  have hown : s.vm.findClass RX11 = some m.cls := findClass_of_methodNamed B.named
  have hlocks := B.notSynchronized
  have hP : va_P (dC, dI) vwCl (List.flatten [(wSag qX k tapeX (qV 0) actsX nowX trialX (qY 0) attemptX orderSearchX routeSearchX setSearchX probeX slot0X slot1X slot2X slot3X image0X image1X image2X aX), (wValley qV k vV bV cV wV aV eV), (wStoO qY k (qV 0) planY (sY 0 0) (sY 1 0) (sY 2 0) (sY 3 0) (sY 4 0) (sY 5 0) (sY 6 0) (sY 7 0)), (wState (sY 0) k (vY 0) (nY 0) (aY 0)), (wState (sY 1) k (vY 1) (nY 1) (aY 1)), (wState (sY 2) k (vY 2) (nY 2) (aY 2)), (wState (sY 3) k (vY 3) (nY 3) (aY 3)), (wState (sY 4) k (vY 4) (nY 4) (aY 4)), (wState (sY 5) k (vY 5) (nY 5) (aY 5)), (wState (sY 6) k (vY 6) (nY 6) (aY 6)), (wState (sY 7) k (vY 7) (nY 7) (aY 7))]) s.heap := hP
  have hl := lv_entry ([.ref (qX 0), .int p1]) (n := 2) (Nat.le_of_ble_eq_true rfl)
  rw [lg_entry_eq]
  generalize (lg_sl ([.ref (qX 0), .int p1]) ++ List.replicate (2 - (lg_sl ([.ref (qX 0), .int p1])).length) Slot.unset).toArray = ls at hl ⊢
  have hl : lv_has ls 2 [(0, .ref (qX 0)), (1, .int p1)] := hl
  refine w_gen (fun Q hQ => ?_)
  refine lv_aload_n hx hb dX11_pays_0 rfl (lv_at hl 0 rfl) ?_
  refine va_get (D := (dC, dI)) (ci := 11) (v := .ref (qV 0)) (C := RX11) (T := TX11) (N := 15) hx hb hts (fun w h => List.mem_cons_of_mem _ (List.mem_append_right _ (List.mem_append_left _ h))) hown hK hP 0 rfl rfl 1 (by decide) (hts (.fieldLink RX11 19 "SagMemory" "told" "LSagMemory$Valley;") (wl_mem 0 rfl)) (fun _ h9 => h9) rfl dX11_pays_1 ?_
  refine lv_iload_n hx hb dX11_pays_4 rfl (lv_at hl 1 rfl) ?_
  have hPc := hP.sub (ws' := (List.flatten [(wValley qV k vV bV cV wV aV eV)])) [5, 6, 7, 8, 9, 10, 11, 12] rfl
  refine vp_callSi (va_Run.run (va_runV (As := [.int p1]) (rest := []) ⟨hx, hb, hml, hown, hts⟩ (c_X10_hasCart l dC dI k qV vV bV cV wV aV eV p1 hbV hcV hwV heV) (cwV 1 hts (gk_V (wl_mem 1 rfl) (wl_mem 2 rfl) (wl_mem 3 rfl) (wl_mem 4 rfl) (fun w h => List.mem_cons_of_mem _ (List.mem_append_right _ (List.mem_append_right _ (List.mem_append_left _ h)))) wkg_c_X10_hasCart) rfl rfl rfl (by decide +kernel) ⟨Nat.le_of_ble_eq_true rfl, Nat.le_of_ble_eq_true rfl⟩) ⟨fun a U g mk q => by obtain ⟨q0, qP, qK⟩ := q; exact ⟨q0, qP, va_K.moved (u := U) (U := U.calling g mk a) (Vm.Alike.refl U.vm) qK⟩, va_recv hK hPc (ci := 10) (q0 := 0) rfl rfl, fun U hU hW => ⟨rfl, by rw [hU]; exact hPc, va_K.moved hW.alike hK⟩⟩ rfl rfl hl.1 rfl (lv_room (Nat.le_of_ble_eq_true rfl)) dX11_pays_5 ⟨Nat.le_of_ble_eq_true rfl, Nat.le_of_ble_eq_true rfl⟩)) (fun rz2 gz1 => ?_)
  clear hPc
  rcases gz1 with ⟨er, cz3⟩ | ⟨er, cz4, cz5⟩ | ⟨er, cz6, cz7⟩
  · obtain rfl := er.symm
    have bz8 := fb_rng p1
    have zz9 : p1.toInt < (0 : Int) := zi_lt.mp cz3
    refine lv_if_eq (tgt := 25) hx hb dX11_pays_8 (by decide) (fun cz10 => ?_) (fun cz10 => ?_)
    · skip
      refine lv_bipush (v := (-2)) hx hb dX11_pays_25 (by decide) ?_
      rw [hQ]
      exact W.iret (v := (-2 : Int32)) hx hb hr (fun t ht hW => ⟨(-2 : Int32), rfl, trivial, ht⟩) (fun _ h => absurd h List.not_mem_nil) dX11_pays_27
    · skip
      exact absurd cz10 (by decide)
  · obtain rfl := er.symm
    have bz11 := fb_rng p1
    have zz12 : ¬ p1.toInt < (0 : Int) := fun h9 => cz4 (zi_lt.mpr h9)
    have bz13 := hcV 0
    have zz14 : (cV 0).toInt ≤ p1.toInt := zi_le.mp cz5
    refine lv_if_eq (tgt := 25) hx hb dX11_pays_8 (by decide) (fun cz15 => ?_) (fun cz15 => ?_)
    · skip
      refine lv_bipush (v := (-2)) hx hb dX11_pays_25 (by decide) ?_
      rw [hQ]
      exact W.iret (v := (-2 : Int32)) hx hb hr (fun t ht hW => ⟨(-2 : Int32), rfl, trivial, ht⟩) (fun _ h => absurd h List.not_mem_nil) dX11_pays_27
    · skip
      exact absurd cz15 (by decide)
  · obtain rfl := er.symm
    have bz16 := fb_rng p1
    have zz17 : ¬ p1.toInt < (0 : Int) := fun h9 => cz6 (zi_lt.mpr h9)
    have bz18 := hcV 0
    have zz19 : ¬ (cV 0).toInt ≤ p1.toInt := fun h9 => cz7 (zi_le.mpr h9)
    refine lv_if_eq (tgt := 25) hx hb dX11_pays_8 (by decide) (fun cz20 => ?_) (fun cz20 => ?_)
    · skip
      exact absurd cz20 (by decide)
    · skip
      refine lv_aload_n hx hb dX11_pays_11 rfl (lv_at hl 0 rfl) ?_
      refine va_get (D := (dC, dI)) (ci := 11) (v := .ref (qY 0)) (C := RX11) (T := TX11) (N := 15) hx hb hts (fun w h => List.mem_cons_of_mem _ (List.mem_append_right _ (List.mem_append_left _ h))) hown hK hP 0 rfl rfl 5 (by decide) (hts (.fieldLink RX11 45 "SagMemory" "story" "LSagMemory$Story;") (wl_mem 5 rfl)) (fun _ h9 => h9) rfl dX11_pays_12 ?_
      refine lv_iload_n hx hb dX11_pays_15 rfl (lv_at hl 1 rfl) ?_
      have hPc : va_P (dC, dI) vwCl (List.flatten [(wStoO qY k (qV 0) planY (sY 0 0) (sY 1 0) (sY 2 0) (sY 3 0) (sY 4 0) (sY 5 0) (sY 6 0) (sY 7 0)), (wState (sY 0) k (vY 0) (nY 0) (aY 0)), (wState (sY 1) k (vY 1) (nY 1) (aY 1)), (wState (sY 2) k (vY 2) (nY 2) (aY 2)), (wState (sY 3) k (vY 3) (nY 3) (aY 3)), (wState (sY 4) k (vY 4) (nY 4) (aY 4)), (wState (sY 5) k (vY 5) (nY 5) (aY 5)), (wState (sY 6) k (vY 6) (nY 6) (aY 6)), (wState (sY 7) k (vY 7) (nY 7) (aY 7))]) s.heap := wc_subP0 hP [2, 3, 4, 5, 6, 7, 8, 9, 10] rfl
      refine va_csr (va_Run.run (va_runV (As := [.int p1]) (rest := []) ⟨hx, hb, hml, hown, hts⟩ (c_X8_behind l dC dI k qY sY (qV 0) planY vY nY aY p1 hnY) (cwV 1 hts (gk_V (wl_mem 6 rfl) (wl_mem 7 rfl) (wl_mem 8 rfl) (wl_mem 9 rfl) (fun w h => List.mem_cons_of_mem _ (List.mem_append_right _ (List.mem_append_right _ (List.mem_append_right _ (List.mem_append_left _ h))))) wkg_c_X8_behind) rfl rfl rfl (by decide +kernel) ⟨Nat.le_of_ble_eq_true rfl, Nat.le_of_ble_eq_true rfl⟩) ⟨fun a U g mk q => by obtain ⟨q0, qP, qK⟩ := q; exact ⟨q0, qP, va_K.moved (u := U) (U := U.calling g mk a) (Vm.Alike.refl U.vm) qK⟩, va_recv hK hPc (ci := 8) (q0 := 0) rfl rfl, fun U hU hW => ⟨rfl, by rw [hU]; exact hPc, va_K.moved hW.alike hK⟩⟩ rfl rfl hl.1 rfl (lv_room (Nat.le_of_ble_eq_true rfl)) dX11_pays_16 ⟨Nat.le_of_ble_eq_true rfl, Nat.le_of_ble_eq_true rfl⟩)) (fun rz22 gz21 => ?_)
      clear hPc
      rcases gz21 with ⟨rfl, cz23⟩ | ⟨rfl, cz24, cz25⟩ | ⟨rfl, cz26, cz27, cz28⟩ | ⟨rfl, cz29, cz30, cz31⟩ | ⟨rfl, cz32, cz33, cz34⟩ | ⟨rfl, cz35, cz36, cz37⟩ | ⟨rfl, cz38, cz39, cz40⟩ | ⟨rfl, cz41, cz42, cz43⟩ | ⟨rfl, cz44, cz45, cz46⟩
      · skip
        have zz47 : p1.toInt < (0 : Int) := zi_lt.mp cz23
        omega
      · skip
        have zz48 : ¬ p1.toInt < (0 : Int) := fun h9 => cz24 (zi_lt.mpr h9)
        have zz49 : (7 : Int) ≤ p1.toInt := zi_le.mp cz25
        omega
      · skip
        have zz50 : ¬ p1.toInt < (0 : Int) := fun h9 => cz26 (zi_lt.mpr h9)
        have zz51 : ¬ (7 : Int) ≤ p1.toInt := fun h9 => cz27 (zi_le.mpr h9)
        have zz52 : p1.toInt = (0 : Int) := zi_eq.mp cz28
        refine W.eq (g2 := F0 m 19 ls [.ref (sY 1 0)]) rfl ?_
        refine va_get (D := (dC, dI)) (ci := 7) (v := .int ((vY 1) 6)) (C := RX7) (T := TX7) (N := 9) hx hb hts (fun w h => List.mem_cons_of_mem _ (List.mem_append_right _ (List.mem_append_right _ (List.mem_append_right _ (List.mem_append_right _ (List.mem_append_left _ h)))))) hown hK hP 26 rfl rfl 7 (by decide) (hts (.fieldLink RX11 221 "SagMemory$State" "paid" "I") (wl_mem 10 rfl)) (fun _ h9 => h9) rfl dX11_pays_19 ?_
        refine lv_goto (tgt := 27) hx hb dX11_pays_22 (by decide) ?_
        rw [hQ]
        exact W.iret (v := ((vY 1) 6)) hx hb hr (fun t ht hW => ⟨((vY 1) 6), rfl, trivial, ht⟩) (fun _ h => absurd h List.not_mem_nil) dX11_pays_27
      · skip
        have zz53 : ¬ p1.toInt < (0 : Int) := fun h9 => cz29 (zi_lt.mpr h9)
        have zz54 : ¬ (7 : Int) ≤ p1.toInt := fun h9 => cz30 (zi_le.mpr h9)
        have zz55 : p1.toInt = (1 : Int) := zi_eq.mp cz31
        refine W.eq (g2 := F0 m 19 ls [.ref (sY 2 0)]) rfl ?_
        refine va_get (D := (dC, dI)) (ci := 7) (v := .int ((vY 2) 6)) (C := RX7) (T := TX7) (N := 9) hx hb hts (fun w h => List.mem_cons_of_mem _ (List.mem_append_right _ (List.mem_append_right _ (List.mem_append_right _ (List.mem_append_right _ (List.mem_append_left _ h)))))) hown hK hP 37 rfl rfl 7 (by decide) (hts (.fieldLink RX11 221 "SagMemory$State" "paid" "I") (wl_mem 10 rfl)) (fun _ h9 => h9) rfl dX11_pays_19 ?_
        refine lv_goto (tgt := 27) hx hb dX11_pays_22 (by decide) ?_
        rw [hQ]
        exact W.iret (v := ((vY 2) 6)) hx hb hr (fun t ht hW => ⟨((vY 2) 6), rfl, trivial, ht⟩) (fun _ h => absurd h List.not_mem_nil) dX11_pays_27
      · skip
        have zz56 : ¬ p1.toInt < (0 : Int) := fun h9 => cz32 (zi_lt.mpr h9)
        have zz57 : ¬ (7 : Int) ≤ p1.toInt := fun h9 => cz33 (zi_le.mpr h9)
        have zz58 : p1.toInt = (2 : Int) := zi_eq.mp cz34
        refine W.eq (g2 := F0 m 19 ls [.ref (sY 3 0)]) rfl ?_
        refine va_get (D := (dC, dI)) (ci := 7) (v := .int ((vY 3) 6)) (C := RX7) (T := TX7) (N := 9) hx hb hts (fun w h => List.mem_cons_of_mem _ (List.mem_append_right _ (List.mem_append_right _ (List.mem_append_right _ (List.mem_append_right _ (List.mem_append_left _ h)))))) hown hK hP 48 rfl rfl 7 (by decide) (hts (.fieldLink RX11 221 "SagMemory$State" "paid" "I") (wl_mem 10 rfl)) (fun _ h9 => h9) rfl dX11_pays_19 ?_
        refine lv_goto (tgt := 27) hx hb dX11_pays_22 (by decide) ?_
        rw [hQ]
        exact W.iret (v := ((vY 3) 6)) hx hb hr (fun t ht hW => ⟨((vY 3) 6), rfl, trivial, ht⟩) (fun _ h => absurd h List.not_mem_nil) dX11_pays_27
      · skip
        have zz59 : ¬ p1.toInt < (0 : Int) := fun h9 => cz35 (zi_lt.mpr h9)
        have zz60 : ¬ (7 : Int) ≤ p1.toInt := fun h9 => cz36 (zi_le.mpr h9)
        have zz61 : p1.toInt = (3 : Int) := zi_eq.mp cz37
        refine W.eq (g2 := F0 m 19 ls [.ref (sY 4 0)]) rfl ?_
        refine va_get (D := (dC, dI)) (ci := 7) (v := .int ((vY 4) 6)) (C := RX7) (T := TX7) (N := 9) hx hb hts (fun w h => List.mem_cons_of_mem _ (List.mem_append_right _ (List.mem_append_right _ (List.mem_append_right _ (List.mem_append_right _ (List.mem_append_left _ h)))))) hown hK hP 59 rfl rfl 7 (by decide) (hts (.fieldLink RX11 221 "SagMemory$State" "paid" "I") (wl_mem 10 rfl)) (fun _ h9 => h9) rfl dX11_pays_19 ?_
        refine lv_goto (tgt := 27) hx hb dX11_pays_22 (by decide) ?_
        rw [hQ]
        exact W.iret (v := ((vY 4) 6)) hx hb hr (fun t ht hW => ⟨((vY 4) 6), rfl, trivial, ht⟩) (fun _ h => absurd h List.not_mem_nil) dX11_pays_27
      · skip
        have zz62 : ¬ p1.toInt < (0 : Int) := fun h9 => cz38 (zi_lt.mpr h9)
        have zz63 : ¬ (7 : Int) ≤ p1.toInt := fun h9 => cz39 (zi_le.mpr h9)
        have zz64 : p1.toInt = (4 : Int) := zi_eq.mp cz40
        refine W.eq (g2 := F0 m 19 ls [.ref (sY 5 0)]) rfl ?_
        refine va_get (D := (dC, dI)) (ci := 7) (v := .int ((vY 5) 6)) (C := RX7) (T := TX7) (N := 9) hx hb hts (fun w h => List.mem_cons_of_mem _ (List.mem_append_right _ (List.mem_append_right _ (List.mem_append_right _ (List.mem_append_right _ (List.mem_append_left _ h)))))) hown hK hP 70 rfl rfl 7 (by decide) (hts (.fieldLink RX11 221 "SagMemory$State" "paid" "I") (wl_mem 10 rfl)) (fun _ h9 => h9) rfl dX11_pays_19 ?_
        refine lv_goto (tgt := 27) hx hb dX11_pays_22 (by decide) ?_
        rw [hQ]
        exact W.iret (v := ((vY 5) 6)) hx hb hr (fun t ht hW => ⟨((vY 5) 6), rfl, trivial, ht⟩) (fun _ h => absurd h List.not_mem_nil) dX11_pays_27
      · skip
        have zz65 : ¬ p1.toInt < (0 : Int) := fun h9 => cz41 (zi_lt.mpr h9)
        have zz66 : ¬ (7 : Int) ≤ p1.toInt := fun h9 => cz42 (zi_le.mpr h9)
        have zz67 : p1.toInt = (5 : Int) := zi_eq.mp cz43
        refine W.eq (g2 := F0 m 19 ls [.ref (sY 6 0)]) rfl ?_
        refine va_get (D := (dC, dI)) (ci := 7) (v := .int ((vY 6) 6)) (C := RX7) (T := TX7) (N := 9) hx hb hts (fun w h => List.mem_cons_of_mem _ (List.mem_append_right _ (List.mem_append_right _ (List.mem_append_right _ (List.mem_append_right _ (List.mem_append_left _ h)))))) hown hK hP 81 rfl rfl 7 (by decide) (hts (.fieldLink RX11 221 "SagMemory$State" "paid" "I") (wl_mem 10 rfl)) (fun _ h9 => h9) rfl dX11_pays_19 ?_
        refine lv_goto (tgt := 27) hx hb dX11_pays_22 (by decide) ?_
        rw [hQ]
        exact W.iret (v := ((vY 6) 6)) hx hb hr (fun t ht hW => ⟨((vY 6) 6), rfl, trivial, ht⟩) (fun _ h => absurd h List.not_mem_nil) dX11_pays_27
      · skip
        have zz68 : ¬ p1.toInt < (0 : Int) := fun h9 => cz44 (zi_lt.mpr h9)
        have zz69 : ¬ (7 : Int) ≤ p1.toInt := fun h9 => cz45 (zi_le.mpr h9)
        have zz70 : p1.toInt = (6 : Int) := zi_eq.mp cz46
        refine W.eq (g2 := F0 m 19 ls [.ref (sY 7 0)]) rfl ?_
        refine va_get (D := (dC, dI)) (ci := 7) (v := .int ((vY 7) 6)) (C := RX7) (T := TX7) (N := 9) hx hb hts (fun w h => List.mem_cons_of_mem _ (List.mem_append_right _ (List.mem_append_right _ (List.mem_append_right _ (List.mem_append_right _ (List.mem_append_left _ h)))))) hown hK hP 92 rfl rfl 7 (by decide) (hts (.fieldLink RX11 221 "SagMemory$State" "paid" "I") (wl_mem 10 rfl)) (fun _ h9 => h9) rfl dX11_pays_19 ?_
        refine lv_goto (tgt := 27) hx hb dX11_pays_22 (by decide) ?_
        rw [hQ]
        exact W.iret (v := ((vY 7) 6)) hx hb hr (fun t ht hW => ⟨((vY 7) 6), rfl, trivial, ht⟩) (fun _ h => absurd h List.not_mem_nil) dX11_pays_27
def wk_c_X11_tolls : List Cond := .code yX11_tolls cX11_tolls 3 (some .int) :: ([.methodLink RX11 180 yX11_noValley, .instanceMethod yX11_noValley, .selects RX11 yX11_noValley yX11_noValley, .initialized RX11, .fieldLink RX11 19 "SagMemory" "told" "LSagMemory$Valley;", .fieldLink RX11 177 "SagMemory$Valley" "carts" "I", .fieldLink RX11 45 "SagMemory" "story" "LSagMemory$Story;", .methodLink RX11 165 yX8_behind, .instanceMethod yX8_behind, .selects RX8 yX8_behind yX8_behind, .initialized RX8, .fieldLink RX11 221 "SagMemory$State" "paid" "I"] ++ (wk_c_X11_noValley ++ (wsX110 ++ (wsX100 ++ (wk_c_X8_behind ++ (wsX70 ++ []))))))
theorem wkg_c_X11_tolls : wk_c_X11_tolls.all goodWord = true := by decide +kernel
set_option maxHeartbeats 4000000 in
set_option maxRecDepth 100000 in
theorem c_X11_tolls (l : Launch) (dC : Nat → ClassId) (dI : Nat → Nat → Nat) (k : Nat → ClassId) (qX : Nat → Nat) (tapeX : Nat) (actsX : Nat) (nowX : Nat) (trialX : Nat) (attemptX : Nat) (orderSearchX : Nat) (routeSearchX : Nat) (setSearchX : Nat) (probeX : Nat) (slot0X : Nat) (slot1X : Nat) (slot2X : Nat) (slot3X : Nat) (image0X : Nat) (image1X : Nat) (image2X : Nat) (aX : Nat → Nat → Int32) (qV : Nat → Nat) (vV : Nat → Int32) (bV : Nat → Int32) (cV : Nat → Int32) (wV : Nat → Int32) (aV : Nat → Nat → Int32) (eV : Nat → Nat → Int32) (qY : Nat → Nat) (sY : Nat → Nat → Nat) (planY : Nat) (vY : Nat → Nat → Int32) (nY : Nat → Nat → Int32) (aY : Nat → Nat → Nat → Int32) (hbV : Rg 0 3 bV) (hcV : Rg 0 7 cV) (hwV : Rg 0 5 wV) (heV : RgA 0 99 eV) (hnY : ∀ t9, Rg 0 8 (nY t9)) : Met l yX11_tolls wk_c_X11_tolls ({ frames := 1, cells := 0, slots := 0, locals := 21 }) (va_Pc [.ref (qX 0)] (fun U => va_P (dC, dI) vwCl (List.flatten [(wSag qX k tapeX (qV 0) actsX nowX trialX (qY 0) attemptX orderSearchX routeSearchX setSearchX probeX slot0X slot1X slot2X slot3X image0X image1X image2X aX), (wValley qV k vV bV cV wV aV eV), (wStoO qY k (qV 0) planY (sY 0 0) (sY 1 0) (sY 2 0) (sY 3 0) (sY 4 0) (sY 5 0) (sY 6 0) (sY 7 0)), (wState (sY 0) k (vY 0) (nY 0) (aY 0)), (wState (sY 1) k (vY 1) (nY 1) (aY 1)), (wState (sY 2) k (vY 2) (nY 2) (aY 2)), (wState (sY 3) k (vY 3) (nY 3) (aY 3)), (wState (sY 4) k (vY 4) (nY 4) (aY 4)), (wState (sY 5) k (vY 5) (nY 5) (aY 5)), (wState (sY 6) k (vY 6) (nY 6) (aY 6)), (wState (sY 7) k (vY 7) (nY 7) (aY 7))]) U.heap ∧ va_K (dC, dI) vwCl (tK k) U)) (vp_Si (fun r : Int32 => True)) 0 0 (fun _ => False) := by
  refine Met.ofW (cc := cX11_tolls) (maxL := 3) (ret := (some .int)) (by decide) rfl ?_
  intro p e s m args below meth c s₁ B hml hv
  obtain ⟨rfl, hP, hK⟩ := hv
  have hx := B.exec
  have hb := B.bytes
  have hr := B.returns
  have hts := atoms_spec (ws := wk_c_X11_tolls) B.pre
  have hown : s.vm.findClass RX11 = some m.cls := findClass_of_methodNamed B.named
  have hlocks := B.notSynchronized
  have hP : va_P (dC, dI) vwCl (List.flatten [(wSag qX k tapeX (qV 0) actsX nowX trialX (qY 0) attemptX orderSearchX routeSearchX setSearchX probeX slot0X slot1X slot2X slot3X image0X image1X image2X aX), (wValley qV k vV bV cV wV aV eV), (wStoO qY k (qV 0) planY (sY 0 0) (sY 1 0) (sY 2 0) (sY 3 0) (sY 4 0) (sY 5 0) (sY 6 0) (sY 7 0)), (wState (sY 0) k (vY 0) (nY 0) (aY 0)), (wState (sY 1) k (vY 1) (nY 1) (aY 1)), (wState (sY 2) k (vY 2) (nY 2) (aY 2)), (wState (sY 3) k (vY 3) (nY 3) (aY 3)), (wState (sY 4) k (vY 4) (nY 4) (aY 4)), (wState (sY 5) k (vY 5) (nY 5) (aY 5)), (wState (sY 6) k (vY 6) (nY 6) (aY 6)), (wState (sY 7) k (vY 7) (nY 7) (aY 7))]) s.heap := hP
  have hl := lv_entry ([.ref (qX 0)]) (n := 3) (Nat.le_of_ble_eq_true rfl)
  rw [lg_entry_eq]
  generalize (lg_sl ([.ref (qX 0)]) ++ List.replicate (3 - (lg_sl ([.ref (qX 0)])).length) Slot.unset).toArray = ls at hl ⊢
  have hl : lv_has ls 3 [(0, .ref (qX 0))] := hl
  refine w_gen (fun Q hQ => ?_)
  refine lv_aload_n hx hb dX11_tolls_0 rfl (lv_at hl 0 rfl) ?_
  have hPc := hP.sub (ws' := (List.flatten [(wSag qX k tapeX (qV 0) actsX nowX trialX (qY 0) attemptX orderSearchX routeSearchX setSearchX probeX slot0X slot1X slot2X slot3X image0X image1X image2X aX), (wValley qV k vV bV cV wV aV eV)])) [0, 1, 2, 3, 4, 5, 6, 7, 8, 9, 10, 11, 12] rfl
  refine vp_callSi (va_Run.run (va_runV (As := []) (rest := []) ⟨hx, hb, hml, hown, hts⟩ (c_X11_noValley l dC dI k qX tapeX actsX nowX trialX (qY 0) attemptX orderSearchX routeSearchX setSearchX probeX slot0X slot1X slot2X slot3X image0X image1X image2X aX qV vV bV cV wV aV eV hbV hcV hwV heV) (cwV 0 hts (gk_V (wl_mem 0 rfl) (wl_mem 1 rfl) (wl_mem 2 rfl) (wl_mem 3 rfl) (fun w h => List.mem_cons_of_mem _ (List.mem_append_right _ (List.mem_append_left _ h))) wkg_c_X11_noValley) rfl rfl rfl (by decide +kernel) ⟨Nat.le_of_ble_eq_true rfl, Nat.le_of_ble_eq_true rfl⟩) ⟨fun a U g mk q => by obtain ⟨q0, qP, qK⟩ := q; exact ⟨q0, qP, va_K.moved (u := U) (U := U.calling g mk a) (Vm.Alike.refl U.vm) qK⟩, va_recv hK hPc (ci := 11) (q0 := 0) rfl rfl, fun U hU hW => ⟨rfl, by rw [hU]; exact hPc, va_K.moved hW.alike hK⟩⟩ rfl rfl hl.1 rfl (lv_room (Nat.le_of_ble_eq_true rfl)) dX11_tolls_1 ⟨Nat.le_of_ble_eq_true rfl, Nat.le_of_ble_eq_true rfl⟩)) (fun rz2 gz1 => ?_)
  clear hPc
  have pz3 := gz1
  have pz3 : rz2.toInt = 0 ∨ rz2.toInt = 1 := pz3
  refine lv_if_eq (tgt := 10) hx hb dX11_tolls_4 (by decide) (fun cz4 => ?_) (fun cz4 => ?_)
  · skip
    have zz5 : rz2.toInt = (0 : Int) := zi_eq.mp cz4
    refine lv_iconst (v := 0) hx hb dX11_tolls_10 (by decide) ?_
    refine lv_istore_n (lv' := [(1, .int 0), (0, .ref (qX 0))]) hx hb dX11_tolls_11 rfl hl (by decide) rfl (fun ls hl => ?_)
    refine lv_iconst (v := 0) hx hb dX11_tolls_12 (by decide) ?_
    refine lv_istore_n (lv' := [(2, .int 0), (1, .int 0), (0, .ref (qX 0))]) hx hb dX11_tolls_13 rfl hl (by decide) rfl (fun ls hl => ?_)
    have lp14_kz82 : ∀ (n9_14 : Nat) (ls : Array Slot) (xz80 : Int32) (xz81 : Int32), (2147483647 - xz81.toInt).toNat < n9_14 → 0 ≤ xz81.toInt → lv_has ls 3 [(0, .ref (qX 0)), (1, .int xz80), (2, .int xz81)] → W p l e (headSpec wk_c_X11_tolls ({ frames := 1, cells := 0, slots := 0, locals := 21 })).room s m ([.ref (qX 0)] : List Value).toArray below meth c s.heap [] 0 0 Q (F0 m 14 ls []) := by
      intro n9_14
      induction n9_14 with
      | zero => intro ls xz80 xz81 hm; exact absurd hm (Nat.not_lt_zero _)
      | succ n9_14 ih14 =>
        intro ls xz80 xz81 hm14 jz83 hl
        refine lv_iload_n hx hb dX11_tolls_14 rfl (lv_at hl 2 rfl) ?_
        refine lv_aload_n hx hb dX11_tolls_15 rfl (lv_at hl 0 rfl) ?_
        refine va_get (D := (dC, dI)) (ci := 11) (v := .ref (qV 0)) (C := RX11) (T := TX11) (N := 15) hx hb hts (fun w h => List.mem_cons_of_mem _ (List.mem_append_right _ (List.mem_append_right _ (List.mem_append_left _ h)))) hown hK hP 0 rfl rfl 1 (by decide) (hts (.fieldLink RX11 19 "SagMemory" "told" "LSagMemory$Valley;") (wl_mem 4 rfl)) (fun _ h9 => h9) rfl dX11_tolls_16 ?_
        refine va_get (D := (dC, dI)) (ci := 10) (v := .int (cV 0)) (C := RX10) (T := TX10) (N := 16) hx hb hts (fun w h => List.mem_cons_of_mem _ (List.mem_append_right _ (List.mem_append_right _ (List.mem_append_right _ (List.mem_append_left _ h))))) hown hK hP 5 rfl rfl 12 (by decide) (hts (.fieldLink RX11 177 "SagMemory$Valley" "carts" "I") (wl_mem 5 rfl)) (fun _ h9 => h9) rfl dX11_tolls_19 ?_
        have bz84 := hcV 0
        refine lv_icmp_ge (tgt := 45) hx hb dX11_tolls_22 (by decide) (fun cz85 => ?_) (fun cz85 => ?_)
        · skip
          have bz86 := fb_rng xz81
          have zz87 : (cV 0).toInt ≤ xz81.toInt := zi_le.mp cz85
          refine lv_iload_n hx hb dX11_tolls_45 rfl (lv_at hl 1 rfl) ?_
          rw [hQ]
          exact W.iret (v := xz80) hx hb hr (fun t ht hW => ⟨xz80, rfl, trivial, ht⟩) (fun _ h => absurd h List.not_mem_nil) dX11_tolls_46
        · skip
          have bz88 := fb_rng xz81
          have zz89 : ¬ (cV 0).toInt ≤ xz81.toInt := fun h9 => cz85 (zi_le.mpr h9)
          refine lv_iload_n hx hb dX11_tolls_25 rfl (lv_at hl 1 rfl) ?_
          refine lv_aload_n hx hb dX11_tolls_26 rfl (lv_at hl 0 rfl) ?_
          refine va_get (D := (dC, dI)) (ci := 11) (v := .ref (qY 0)) (C := RX11) (T := TX11) (N := 15) hx hb hts (fun w h => List.mem_cons_of_mem _ (List.mem_append_right _ (List.mem_append_right _ (List.mem_append_left _ h)))) hown hK hP 0 rfl rfl 5 (by decide) (hts (.fieldLink RX11 45 "SagMemory" "story" "LSagMemory$Story;") (wl_mem 6 rfl)) (fun _ h9 => h9) rfl dX11_tolls_27 ?_
          refine lv_iload_n hx hb dX11_tolls_30 rfl (lv_at hl 2 rfl) ?_
          have hPc : va_P (dC, dI) vwCl (List.flatten [(wStoO qY k (qV 0) planY (sY 0 0) (sY 1 0) (sY 2 0) (sY 3 0) (sY 4 0) (sY 5 0) (sY 6 0) (sY 7 0)), (wState (sY 0) k (vY 0) (nY 0) (aY 0)), (wState (sY 1) k (vY 1) (nY 1) (aY 1)), (wState (sY 2) k (vY 2) (nY 2) (aY 2)), (wState (sY 3) k (vY 3) (nY 3) (aY 3)), (wState (sY 4) k (vY 4) (nY 4) (aY 4)), (wState (sY 5) k (vY 5) (nY 5) (aY 5)), (wState (sY 6) k (vY 6) (nY 6) (aY 6)), (wState (sY 7) k (vY 7) (nY 7) (aY 7))]) s.heap := wc_subP0 hP [2, 3, 4, 5, 6, 7, 8, 9, 10] rfl
          refine va_csr (va_Run.run (va_runV (As := [.int xz81]) (rest := [.int xz80]) ⟨hx, hb, hml, hown, hts⟩ (c_X8_behind l dC dI k qY sY (qV 0) planY vY nY aY xz81 hnY) (cwV 1 hts (gk_V (wl_mem 7 rfl) (wl_mem 8 rfl) (wl_mem 9 rfl) (wl_mem 10 rfl) (fun w h => List.mem_cons_of_mem _ (List.mem_append_right _ (List.mem_append_right _ (List.mem_append_right _ (List.mem_append_right _ (List.mem_append_left _ h)))))) wkg_c_X8_behind) rfl rfl rfl (by decide +kernel) ⟨Nat.le_of_ble_eq_true rfl, Nat.le_of_ble_eq_true rfl⟩) ⟨fun a U g mk q => by obtain ⟨q0, qP, qK⟩ := q; exact ⟨q0, qP, va_K.moved (u := U) (U := U.calling g mk a) (Vm.Alike.refl U.vm) qK⟩, va_recv hK hPc (ci := 8) (q0 := 0) rfl rfl, fun U hU hW => ⟨rfl, by rw [hU]; exact hPc, va_K.moved hW.alike hK⟩⟩ rfl rfl hl.1 rfl (lv_room (Nat.le_of_ble_eq_true rfl)) dX11_tolls_31 ⟨Nat.le_of_ble_eq_true rfl, Nat.le_of_ble_eq_true rfl⟩)) (fun rz91 gz90 => ?_)
          clear hPc
          rcases gz90 with ⟨rfl, cz92⟩ | ⟨rfl, cz93, cz94⟩ | ⟨rfl, cz95, cz96, cz97⟩ | ⟨rfl, cz98, cz99, cz100⟩ | ⟨rfl, cz101, cz102, cz103⟩ | ⟨rfl, cz104, cz105, cz106⟩ | ⟨rfl, cz107, cz108, cz109⟩ | ⟨rfl, cz110, cz111, cz112⟩ | ⟨rfl, cz113, cz114, cz115⟩
          · skip
            have zz116 : xz81.toInt < (0 : Int) := zi_lt.mp cz92
            omega
          · skip
            have zz117 : ¬ xz81.toInt < (0 : Int) := fun h9 => cz93 (zi_lt.mpr h9)
            have zz118 : (7 : Int) ≤ xz81.toInt := zi_le.mp cz94
            omega
          · skip
            have zz119 : ¬ xz81.toInt < (0 : Int) := fun h9 => cz95 (zi_lt.mpr h9)
            have zz120 : ¬ (7 : Int) ≤ xz81.toInt := fun h9 => cz96 (zi_le.mpr h9)
            have zz121 : xz81.toInt = (0 : Int) := zi_eq.mp cz97
            refine W.eq (g2 := F0 m 34 ls [.ref (sY 1 0), .int xz80]) rfl ?_
            refine va_get (D := (dC, dI)) (ci := 7) (v := .int ((vY 1) 6)) (C := RX7) (T := TX7) (N := 9) hx hb hts (fun w h => List.mem_cons_of_mem _ (List.mem_append_right _ (List.mem_append_right _ (List.mem_append_right _ (List.mem_append_right _ (List.mem_append_right _ (List.mem_append_left _ h))))))) hown hK hP 26 rfl rfl 7 (by decide) (hts (.fieldLink RX11 221 "SagMemory$State" "paid" "I") (wl_mem 11 rfl)) (fun _ h9 => h9) rfl dX11_tolls_34 ?_
            refine lv_iadd hx hb dX11_tolls_37 ?_
            refine lv_topi (fun xz122 exz122 => ?_)
            refine lv_istore_n (lv' := [(1, .int xz122), (0, .ref (qX 0)), (2, .int xz81)]) hx hb dX11_tolls_38 rfl hl (by decide) rfl (fun ls hl => ?_)
            obtain ⟨xz123, exz123⟩ : ∃ y : Int32, y = xz81 + Int32.ofInt (1) := ⟨_, rfl⟩
            have fxz123 : xz123.toInt = xz81.toInt + (1) := by rw [exz123]; exact fb_addI (y := Int32.ofInt (1)) (by show -2147483648 ≤ xz81.toInt + (1); omega) (by show xz81.toInt + (1) < 2147483648; omega)
            refine lv_iinc (v := xz123) (lv' := [(2, .int xz123), (1, .int xz122), (0, .ref (qX 0))]) hx hb dX11_tolls_39 hl (k := 2) rfl exz123.symm (by decide) rfl (fun ls hl => ?_)
            refine lv_goto (tgt := 14) hx hb dX11_tolls_42 (by decide) ?_
            exact ih14 ls xz122 xz123 (by show (2147483647 - xz123.toInt).toNat < n9_14; omega) (by show 0 ≤ xz123.toInt; omega) (lv_sub hl [2, 1, 0] rfl)
          · skip
            have zz124 : ¬ xz81.toInt < (0 : Int) := fun h9 => cz98 (zi_lt.mpr h9)
            have zz125 : ¬ (7 : Int) ≤ xz81.toInt := fun h9 => cz99 (zi_le.mpr h9)
            have zz126 : xz81.toInt = (1 : Int) := zi_eq.mp cz100
            refine W.eq (g2 := F0 m 34 ls [.ref (sY 2 0), .int xz80]) rfl ?_
            refine va_get (D := (dC, dI)) (ci := 7) (v := .int ((vY 2) 6)) (C := RX7) (T := TX7) (N := 9) hx hb hts (fun w h => List.mem_cons_of_mem _ (List.mem_append_right _ (List.mem_append_right _ (List.mem_append_right _ (List.mem_append_right _ (List.mem_append_right _ (List.mem_append_left _ h))))))) hown hK hP 37 rfl rfl 7 (by decide) (hts (.fieldLink RX11 221 "SagMemory$State" "paid" "I") (wl_mem 11 rfl)) (fun _ h9 => h9) rfl dX11_tolls_34 ?_
            refine lv_iadd hx hb dX11_tolls_37 ?_
            refine lv_topi (fun xz127 exz127 => ?_)
            refine lv_istore_n (lv' := [(1, .int xz127), (0, .ref (qX 0)), (2, .int xz81)]) hx hb dX11_tolls_38 rfl hl (by decide) rfl (fun ls hl => ?_)
            obtain ⟨xz128, exz128⟩ : ∃ y : Int32, y = xz81 + Int32.ofInt (1) := ⟨_, rfl⟩
            have fxz128 : xz128.toInt = xz81.toInt + (1) := by rw [exz128]; exact fb_addI (y := Int32.ofInt (1)) (by show -2147483648 ≤ xz81.toInt + (1); omega) (by show xz81.toInt + (1) < 2147483648; omega)
            refine lv_iinc (v := xz128) (lv' := [(2, .int xz128), (1, .int xz127), (0, .ref (qX 0))]) hx hb dX11_tolls_39 hl (k := 2) rfl exz128.symm (by decide) rfl (fun ls hl => ?_)
            refine lv_goto (tgt := 14) hx hb dX11_tolls_42 (by decide) ?_
            exact ih14 ls xz127 xz128 (by show (2147483647 - xz128.toInt).toNat < n9_14; omega) (by show 0 ≤ xz128.toInt; omega) (lv_sub hl [2, 1, 0] rfl)
          · skip
            have zz129 : ¬ xz81.toInt < (0 : Int) := fun h9 => cz101 (zi_lt.mpr h9)
            have zz130 : ¬ (7 : Int) ≤ xz81.toInt := fun h9 => cz102 (zi_le.mpr h9)
            have zz131 : xz81.toInt = (2 : Int) := zi_eq.mp cz103
            refine W.eq (g2 := F0 m 34 ls [.ref (sY 3 0), .int xz80]) rfl ?_
            refine va_get (D := (dC, dI)) (ci := 7) (v := .int ((vY 3) 6)) (C := RX7) (T := TX7) (N := 9) hx hb hts (fun w h => List.mem_cons_of_mem _ (List.mem_append_right _ (List.mem_append_right _ (List.mem_append_right _ (List.mem_append_right _ (List.mem_append_right _ (List.mem_append_left _ h))))))) hown hK hP 48 rfl rfl 7 (by decide) (hts (.fieldLink RX11 221 "SagMemory$State" "paid" "I") (wl_mem 11 rfl)) (fun _ h9 => h9) rfl dX11_tolls_34 ?_
            refine lv_iadd hx hb dX11_tolls_37 ?_
            refine lv_topi (fun xz132 exz132 => ?_)
            refine lv_istore_n (lv' := [(1, .int xz132), (0, .ref (qX 0)), (2, .int xz81)]) hx hb dX11_tolls_38 rfl hl (by decide) rfl (fun ls hl => ?_)
            obtain ⟨xz133, exz133⟩ : ∃ y : Int32, y = xz81 + Int32.ofInt (1) := ⟨_, rfl⟩
            have fxz133 : xz133.toInt = xz81.toInt + (1) := by rw [exz133]; exact fb_addI (y := Int32.ofInt (1)) (by show -2147483648 ≤ xz81.toInt + (1); omega) (by show xz81.toInt + (1) < 2147483648; omega)
            refine lv_iinc (v := xz133) (lv' := [(2, .int xz133), (1, .int xz132), (0, .ref (qX 0))]) hx hb dX11_tolls_39 hl (k := 2) rfl exz133.symm (by decide) rfl (fun ls hl => ?_)
            refine lv_goto (tgt := 14) hx hb dX11_tolls_42 (by decide) ?_
            exact ih14 ls xz132 xz133 (by show (2147483647 - xz133.toInt).toNat < n9_14; omega) (by show 0 ≤ xz133.toInt; omega) (lv_sub hl [2, 1, 0] rfl)
          · skip
            have zz134 : ¬ xz81.toInt < (0 : Int) := fun h9 => cz104 (zi_lt.mpr h9)
            have zz135 : ¬ (7 : Int) ≤ xz81.toInt := fun h9 => cz105 (zi_le.mpr h9)
            have zz136 : xz81.toInt = (3 : Int) := zi_eq.mp cz106
            refine W.eq (g2 := F0 m 34 ls [.ref (sY 4 0), .int xz80]) rfl ?_
            refine va_get (D := (dC, dI)) (ci := 7) (v := .int ((vY 4) 6)) (C := RX7) (T := TX7) (N := 9) hx hb hts (fun w h => List.mem_cons_of_mem _ (List.mem_append_right _ (List.mem_append_right _ (List.mem_append_right _ (List.mem_append_right _ (List.mem_append_right _ (List.mem_append_left _ h))))))) hown hK hP 59 rfl rfl 7 (by decide) (hts (.fieldLink RX11 221 "SagMemory$State" "paid" "I") (wl_mem 11 rfl)) (fun _ h9 => h9) rfl dX11_tolls_34 ?_
            refine lv_iadd hx hb dX11_tolls_37 ?_
            refine lv_topi (fun xz137 exz137 => ?_)
            refine lv_istore_n (lv' := [(1, .int xz137), (0, .ref (qX 0)), (2, .int xz81)]) hx hb dX11_tolls_38 rfl hl (by decide) rfl (fun ls hl => ?_)
            obtain ⟨xz138, exz138⟩ : ∃ y : Int32, y = xz81 + Int32.ofInt (1) := ⟨_, rfl⟩
            have fxz138 : xz138.toInt = xz81.toInt + (1) := by rw [exz138]; exact fb_addI (y := Int32.ofInt (1)) (by show -2147483648 ≤ xz81.toInt + (1); omega) (by show xz81.toInt + (1) < 2147483648; omega)
            refine lv_iinc (v := xz138) (lv' := [(2, .int xz138), (1, .int xz137), (0, .ref (qX 0))]) hx hb dX11_tolls_39 hl (k := 2) rfl exz138.symm (by decide) rfl (fun ls hl => ?_)
            refine lv_goto (tgt := 14) hx hb dX11_tolls_42 (by decide) ?_
            exact ih14 ls xz137 xz138 (by show (2147483647 - xz138.toInt).toNat < n9_14; omega) (by show 0 ≤ xz138.toInt; omega) (lv_sub hl [2, 1, 0] rfl)
          · skip
            have zz139 : ¬ xz81.toInt < (0 : Int) := fun h9 => cz107 (zi_lt.mpr h9)
            have zz140 : ¬ (7 : Int) ≤ xz81.toInt := fun h9 => cz108 (zi_le.mpr h9)
            have zz141 : xz81.toInt = (4 : Int) := zi_eq.mp cz109
            refine W.eq (g2 := F0 m 34 ls [.ref (sY 5 0), .int xz80]) rfl ?_
            refine va_get (D := (dC, dI)) (ci := 7) (v := .int ((vY 5) 6)) (C := RX7) (T := TX7) (N := 9) hx hb hts (fun w h => List.mem_cons_of_mem _ (List.mem_append_right _ (List.mem_append_right _ (List.mem_append_right _ (List.mem_append_right _ (List.mem_append_right _ (List.mem_append_left _ h))))))) hown hK hP 70 rfl rfl 7 (by decide) (hts (.fieldLink RX11 221 "SagMemory$State" "paid" "I") (wl_mem 11 rfl)) (fun _ h9 => h9) rfl dX11_tolls_34 ?_
            refine lv_iadd hx hb dX11_tolls_37 ?_
            refine lv_topi (fun xz142 exz142 => ?_)
            refine lv_istore_n (lv' := [(1, .int xz142), (0, .ref (qX 0)), (2, .int xz81)]) hx hb dX11_tolls_38 rfl hl (by decide) rfl (fun ls hl => ?_)
            obtain ⟨xz143, exz143⟩ : ∃ y : Int32, y = xz81 + Int32.ofInt (1) := ⟨_, rfl⟩
            have fxz143 : xz143.toInt = xz81.toInt + (1) := by rw [exz143]; exact fb_addI (y := Int32.ofInt (1)) (by show -2147483648 ≤ xz81.toInt + (1); omega) (by show xz81.toInt + (1) < 2147483648; omega)
            refine lv_iinc (v := xz143) (lv' := [(2, .int xz143), (1, .int xz142), (0, .ref (qX 0))]) hx hb dX11_tolls_39 hl (k := 2) rfl exz143.symm (by decide) rfl (fun ls hl => ?_)
            refine lv_goto (tgt := 14) hx hb dX11_tolls_42 (by decide) ?_
            exact ih14 ls xz142 xz143 (by show (2147483647 - xz143.toInt).toNat < n9_14; omega) (by show 0 ≤ xz143.toInt; omega) (lv_sub hl [2, 1, 0] rfl)
          · skip
            have zz144 : ¬ xz81.toInt < (0 : Int) := fun h9 => cz110 (zi_lt.mpr h9)
            have zz145 : ¬ (7 : Int) ≤ xz81.toInt := fun h9 => cz111 (zi_le.mpr h9)
            have zz146 : xz81.toInt = (5 : Int) := zi_eq.mp cz112
            refine W.eq (g2 := F0 m 34 ls [.ref (sY 6 0), .int xz80]) rfl ?_
            refine va_get (D := (dC, dI)) (ci := 7) (v := .int ((vY 6) 6)) (C := RX7) (T := TX7) (N := 9) hx hb hts (fun w h => List.mem_cons_of_mem _ (List.mem_append_right _ (List.mem_append_right _ (List.mem_append_right _ (List.mem_append_right _ (List.mem_append_right _ (List.mem_append_left _ h))))))) hown hK hP 81 rfl rfl 7 (by decide) (hts (.fieldLink RX11 221 "SagMemory$State" "paid" "I") (wl_mem 11 rfl)) (fun _ h9 => h9) rfl dX11_tolls_34 ?_
            refine lv_iadd hx hb dX11_tolls_37 ?_
            refine lv_topi (fun xz147 exz147 => ?_)
            refine lv_istore_n (lv' := [(1, .int xz147), (0, .ref (qX 0)), (2, .int xz81)]) hx hb dX11_tolls_38 rfl hl (by decide) rfl (fun ls hl => ?_)
            obtain ⟨xz148, exz148⟩ : ∃ y : Int32, y = xz81 + Int32.ofInt (1) := ⟨_, rfl⟩
            have fxz148 : xz148.toInt = xz81.toInt + (1) := by rw [exz148]; exact fb_addI (y := Int32.ofInt (1)) (by show -2147483648 ≤ xz81.toInt + (1); omega) (by show xz81.toInt + (1) < 2147483648; omega)
            refine lv_iinc (v := xz148) (lv' := [(2, .int xz148), (1, .int xz147), (0, .ref (qX 0))]) hx hb dX11_tolls_39 hl (k := 2) rfl exz148.symm (by decide) rfl (fun ls hl => ?_)
            refine lv_goto (tgt := 14) hx hb dX11_tolls_42 (by decide) ?_
            exact ih14 ls xz147 xz148 (by show (2147483647 - xz148.toInt).toNat < n9_14; omega) (by show 0 ≤ xz148.toInt; omega) (lv_sub hl [2, 1, 0] rfl)
          · skip
            have zz149 : ¬ xz81.toInt < (0 : Int) := fun h9 => cz113 (zi_lt.mpr h9)
            have zz150 : ¬ (7 : Int) ≤ xz81.toInt := fun h9 => cz114 (zi_le.mpr h9)
            have zz151 : xz81.toInt = (6 : Int) := zi_eq.mp cz115
            refine W.eq (g2 := F0 m 34 ls [.ref (sY 7 0), .int xz80]) rfl ?_
            refine va_get (D := (dC, dI)) (ci := 7) (v := .int ((vY 7) 6)) (C := RX7) (T := TX7) (N := 9) hx hb hts (fun w h => List.mem_cons_of_mem _ (List.mem_append_right _ (List.mem_append_right _ (List.mem_append_right _ (List.mem_append_right _ (List.mem_append_right _ (List.mem_append_left _ h))))))) hown hK hP 92 rfl rfl 7 (by decide) (hts (.fieldLink RX11 221 "SagMemory$State" "paid" "I") (wl_mem 11 rfl)) (fun _ h9 => h9) rfl dX11_tolls_34 ?_
            refine lv_iadd hx hb dX11_tolls_37 ?_
            refine lv_topi (fun xz152 exz152 => ?_)
            refine lv_istore_n (lv' := [(1, .int xz152), (0, .ref (qX 0)), (2, .int xz81)]) hx hb dX11_tolls_38 rfl hl (by decide) rfl (fun ls hl => ?_)
            obtain ⟨xz153, exz153⟩ : ∃ y : Int32, y = xz81 + Int32.ofInt (1) := ⟨_, rfl⟩
            have fxz153 : xz153.toInt = xz81.toInt + (1) := by rw [exz153]; exact fb_addI (y := Int32.ofInt (1)) (by show -2147483648 ≤ xz81.toInt + (1); omega) (by show xz81.toInt + (1) < 2147483648; omega)
            refine lv_iinc (v := xz153) (lv' := [(2, .int xz153), (1, .int xz152), (0, .ref (qX 0))]) hx hb dX11_tolls_39 hl (k := 2) rfl exz153.symm (by decide) rfl (fun ls hl => ?_)
            refine lv_goto (tgt := 14) hx hb dX11_tolls_42 (by decide) ?_
            exact ih14 ls xz152 xz153 (by show (2147483647 - xz153.toInt).toNat < n9_14; omega) (by show 0 ≤ xz153.toInt; omega) (lv_sub hl [2, 1, 0] rfl)
    exact lp14_kz82 _ ls (0 : Int32) (0 : Int32) (Nat.lt_succ_self _) (by show 0 ≤ (0 : Int); omega) (lv_sub hl [2, 1, 0] rfl)
  · skip
    have zz154 : ¬ rz2.toInt = (0 : Int) := fun h9 => cz4 (zi_eq.mpr h9)
    refine lv_bipush (v := (-2)) hx hb dX11_tolls_7 (by decide) ?_
    rw [hQ]
    exact W.iret (v := (-2 : Int32)) hx hb hr (fun t ht hW => ⟨(-2 : Int32), rfl, trivial, ht⟩) (fun _ h => absurd h List.not_mem_nil) dX11_tolls_9
def wk_c_X11_wipes : List Cond := .code yX11_wipes cX11_wipes 2 (some .int) :: ([.fieldLink RX11 19 "SagMemory" "told" "LSagMemory$Valley;", .methodLink RX11 141 yX10_hasCart, .instanceMethod yX10_hasCart, .selects RX10 yX10_hasCart yX10_hasCart, .initialized RX10, .fieldLink RX11 45 "SagMemory" "story" "LSagMemory$Story;", .methodLink RX11 165 yX8_behind, .instanceMethod yX8_behind, .selects RX8 yX8_behind yX8_behind, .initialized RX8, .fieldLink RX11 224 "SagMemory$State" "wiped" "I"] ++ (wsX110 ++ (wk_c_X10_hasCart ++ (wk_c_X8_behind ++ (wsX70 ++ [])))))
theorem wkg_c_X11_wipes : wk_c_X11_wipes.all goodWord = true := by decide +kernel
set_option maxHeartbeats 4000000 in
set_option maxRecDepth 100000 in
theorem c_X11_wipes (l : Launch) (dC : Nat → ClassId) (dI : Nat → Nat → Nat) (k : Nat → ClassId) (qX : Nat → Nat) (tapeX : Nat) (actsX : Nat) (nowX : Nat) (trialX : Nat) (attemptX : Nat) (orderSearchX : Nat) (routeSearchX : Nat) (setSearchX : Nat) (probeX : Nat) (slot0X : Nat) (slot1X : Nat) (slot2X : Nat) (slot3X : Nat) (image0X : Nat) (image1X : Nat) (image2X : Nat) (aX : Nat → Nat → Int32) (qV : Nat → Nat) (vV : Nat → Int32) (bV : Nat → Int32) (cV : Nat → Int32) (wV : Nat → Int32) (aV : Nat → Nat → Int32) (eV : Nat → Nat → Int32) (qY : Nat → Nat) (sY : Nat → Nat → Nat) (planY : Nat) (vY : Nat → Nat → Int32) (nY : Nat → Nat → Int32) (aY : Nat → Nat → Nat → Int32) (p1 : Int32) (hbV : Rg 0 3 bV) (hcV : Rg 0 7 cV) (hwV : Rg 0 5 wV) (heV : RgA 0 99 eV) (hnY : ∀ t9, Rg 0 8 (nY t9)) : Met l yX11_wipes wk_c_X11_wipes ({ frames := 1, cells := 0, slots := 0, locals := 21 }) (va_Pc [.ref (qX 0), .int p1] (fun U => va_P (dC, dI) vwCl (List.flatten [(wSag qX k tapeX (qV 0) actsX nowX trialX (qY 0) attemptX orderSearchX routeSearchX setSearchX probeX slot0X slot1X slot2X slot3X image0X image1X image2X aX), (wValley qV k vV bV cV wV aV eV), (wStoO qY k (qV 0) planY (sY 0 0) (sY 1 0) (sY 2 0) (sY 3 0) (sY 4 0) (sY 5 0) (sY 6 0) (sY 7 0)), (wState (sY 0) k (vY 0) (nY 0) (aY 0)), (wState (sY 1) k (vY 1) (nY 1) (aY 1)), (wState (sY 2) k (vY 2) (nY 2) (aY 2)), (wState (sY 3) k (vY 3) (nY 3) (aY 3)), (wState (sY 4) k (vY 4) (nY 4) (aY 4)), (wState (sY 5) k (vY 5) (nY 5) (aY 5)), (wState (sY 6) k (vY 6) (nY 6) (aY 6)), (wState (sY 7) k (vY 7) (nY 7) (aY 7))]) U.heap ∧ va_K (dC, dI) vwCl (tK k) U)) (vp_Si (fun r : Int32 => True)) 0 0 (fun _ => False) := by
  refine Met.ofW (cc := cX11_wipes) (maxL := 2) (ret := (some .int)) (by decide) rfl ?_
  intro p e s m args below meth c s₁ B hml hv
  obtain ⟨rfl, hP, hK⟩ := hv
  have hx := B.exec
  have hb := B.bytes
  have hr := B.returns
  have hts := atoms_spec (ws := wk_c_X11_wipes) B.pre
  have hown : s.vm.findClass RX11 = some m.cls := findClass_of_methodNamed B.named
  have hlocks := B.notSynchronized
  have hP : va_P (dC, dI) vwCl (List.flatten [(wSag qX k tapeX (qV 0) actsX nowX trialX (qY 0) attemptX orderSearchX routeSearchX setSearchX probeX slot0X slot1X slot2X slot3X image0X image1X image2X aX), (wValley qV k vV bV cV wV aV eV), (wStoO qY k (qV 0) planY (sY 0 0) (sY 1 0) (sY 2 0) (sY 3 0) (sY 4 0) (sY 5 0) (sY 6 0) (sY 7 0)), (wState (sY 0) k (vY 0) (nY 0) (aY 0)), (wState (sY 1) k (vY 1) (nY 1) (aY 1)), (wState (sY 2) k (vY 2) (nY 2) (aY 2)), (wState (sY 3) k (vY 3) (nY 3) (aY 3)), (wState (sY 4) k (vY 4) (nY 4) (aY 4)), (wState (sY 5) k (vY 5) (nY 5) (aY 5)), (wState (sY 6) k (vY 6) (nY 6) (aY 6)), (wState (sY 7) k (vY 7) (nY 7) (aY 7))]) s.heap := hP
  have hl := lv_entry ([.ref (qX 0), .int p1]) (n := 2) (Nat.le_of_ble_eq_true rfl)
  rw [lg_entry_eq]
  generalize (lg_sl ([.ref (qX 0), .int p1]) ++ List.replicate (2 - (lg_sl ([.ref (qX 0), .int p1])).length) Slot.unset).toArray = ls at hl ⊢
  have hl : lv_has ls 2 [(0, .ref (qX 0)), (1, .int p1)] := hl
  refine w_gen (fun Q hQ => ?_)
  refine lv_aload_n hx hb dX11_wipes_0 rfl (lv_at hl 0 rfl) ?_
  refine va_get (D := (dC, dI)) (ci := 11) (v := .ref (qV 0)) (C := RX11) (T := TX11) (N := 15) hx hb hts (fun w h => List.mem_cons_of_mem _ (List.mem_append_right _ (List.mem_append_left _ h))) hown hK hP 0 rfl rfl 1 (by decide) (hts (.fieldLink RX11 19 "SagMemory" "told" "LSagMemory$Valley;") (wl_mem 0 rfl)) (fun _ h9 => h9) rfl dX11_wipes_1 ?_
  refine lv_iload_n hx hb dX11_wipes_4 rfl (lv_at hl 1 rfl) ?_
  have hPc := hP.sub (ws' := (List.flatten [(wValley qV k vV bV cV wV aV eV)])) [5, 6, 7, 8, 9, 10, 11, 12] rfl
  refine vp_callSi (va_Run.run (va_runV (As := [.int p1]) (rest := []) ⟨hx, hb, hml, hown, hts⟩ (c_X10_hasCart l dC dI k qV vV bV cV wV aV eV p1 hbV hcV hwV heV) (cwV 1 hts (gk_V (wl_mem 1 rfl) (wl_mem 2 rfl) (wl_mem 3 rfl) (wl_mem 4 rfl) (fun w h => List.mem_cons_of_mem _ (List.mem_append_right _ (List.mem_append_right _ (List.mem_append_left _ h)))) wkg_c_X10_hasCart) rfl rfl rfl (by decide +kernel) ⟨Nat.le_of_ble_eq_true rfl, Nat.le_of_ble_eq_true rfl⟩) ⟨fun a U g mk q => by obtain ⟨q0, qP, qK⟩ := q; exact ⟨q0, qP, va_K.moved (u := U) (U := U.calling g mk a) (Vm.Alike.refl U.vm) qK⟩, va_recv hK hPc (ci := 10) (q0 := 0) rfl rfl, fun U hU hW => ⟨rfl, by rw [hU]; exact hPc, va_K.moved hW.alike hK⟩⟩ rfl rfl hl.1 rfl (lv_room (Nat.le_of_ble_eq_true rfl)) dX11_wipes_5 ⟨Nat.le_of_ble_eq_true rfl, Nat.le_of_ble_eq_true rfl⟩)) (fun rz2 gz1 => ?_)
  clear hPc
  rcases gz1 with ⟨er, cz3⟩ | ⟨er, cz4, cz5⟩ | ⟨er, cz6, cz7⟩
  · obtain rfl := er.symm
    have bz8 := fb_rng p1
    have zz9 : p1.toInt < (0 : Int) := zi_lt.mp cz3
    refine lv_if_eq (tgt := 25) hx hb dX11_wipes_8 (by decide) (fun cz10 => ?_) (fun cz10 => ?_)
    · skip
      refine lv_bipush (v := (-2)) hx hb dX11_wipes_25 (by decide) ?_
      rw [hQ]
      exact W.iret (v := (-2 : Int32)) hx hb hr (fun t ht hW => ⟨(-2 : Int32), rfl, trivial, ht⟩) (fun _ h => absurd h List.not_mem_nil) dX11_wipes_27
    · skip
      exact absurd cz10 (by decide)
  · obtain rfl := er.symm
    have bz11 := fb_rng p1
    have zz12 : ¬ p1.toInt < (0 : Int) := fun h9 => cz4 (zi_lt.mpr h9)
    have bz13 := hcV 0
    have zz14 : (cV 0).toInt ≤ p1.toInt := zi_le.mp cz5
    refine lv_if_eq (tgt := 25) hx hb dX11_wipes_8 (by decide) (fun cz15 => ?_) (fun cz15 => ?_)
    · skip
      refine lv_bipush (v := (-2)) hx hb dX11_wipes_25 (by decide) ?_
      rw [hQ]
      exact W.iret (v := (-2 : Int32)) hx hb hr (fun t ht hW => ⟨(-2 : Int32), rfl, trivial, ht⟩) (fun _ h => absurd h List.not_mem_nil) dX11_wipes_27
    · skip
      exact absurd cz15 (by decide)
  · obtain rfl := er.symm
    have bz16 := fb_rng p1
    have zz17 : ¬ p1.toInt < (0 : Int) := fun h9 => cz6 (zi_lt.mpr h9)
    have bz18 := hcV 0
    have zz19 : ¬ (cV 0).toInt ≤ p1.toInt := fun h9 => cz7 (zi_le.mpr h9)
    refine lv_if_eq (tgt := 25) hx hb dX11_wipes_8 (by decide) (fun cz20 => ?_) (fun cz20 => ?_)
    · skip
      exact absurd cz20 (by decide)
    · skip
      refine lv_aload_n hx hb dX11_wipes_11 rfl (lv_at hl 0 rfl) ?_
      refine va_get (D := (dC, dI)) (ci := 11) (v := .ref (qY 0)) (C := RX11) (T := TX11) (N := 15) hx hb hts (fun w h => List.mem_cons_of_mem _ (List.mem_append_right _ (List.mem_append_left _ h))) hown hK hP 0 rfl rfl 5 (by decide) (hts (.fieldLink RX11 45 "SagMemory" "story" "LSagMemory$Story;") (wl_mem 5 rfl)) (fun _ h9 => h9) rfl dX11_wipes_12 ?_
      refine lv_iload_n hx hb dX11_wipes_15 rfl (lv_at hl 1 rfl) ?_
      have hPc : va_P (dC, dI) vwCl (List.flatten [(wStoO qY k (qV 0) planY (sY 0 0) (sY 1 0) (sY 2 0) (sY 3 0) (sY 4 0) (sY 5 0) (sY 6 0) (sY 7 0)), (wState (sY 0) k (vY 0) (nY 0) (aY 0)), (wState (sY 1) k (vY 1) (nY 1) (aY 1)), (wState (sY 2) k (vY 2) (nY 2) (aY 2)), (wState (sY 3) k (vY 3) (nY 3) (aY 3)), (wState (sY 4) k (vY 4) (nY 4) (aY 4)), (wState (sY 5) k (vY 5) (nY 5) (aY 5)), (wState (sY 6) k (vY 6) (nY 6) (aY 6)), (wState (sY 7) k (vY 7) (nY 7) (aY 7))]) s.heap := wc_subP0 hP [2, 3, 4, 5, 6, 7, 8, 9, 10] rfl
      refine va_csr (va_Run.run (va_runV (As := [.int p1]) (rest := []) ⟨hx, hb, hml, hown, hts⟩ (c_X8_behind l dC dI k qY sY (qV 0) planY vY nY aY p1 hnY) (cwV 1 hts (gk_V (wl_mem 6 rfl) (wl_mem 7 rfl) (wl_mem 8 rfl) (wl_mem 9 rfl) (fun w h => List.mem_cons_of_mem _ (List.mem_append_right _ (List.mem_append_right _ (List.mem_append_right _ (List.mem_append_left _ h))))) wkg_c_X8_behind) rfl rfl rfl (by decide +kernel) ⟨Nat.le_of_ble_eq_true rfl, Nat.le_of_ble_eq_true rfl⟩) ⟨fun a U g mk q => by obtain ⟨q0, qP, qK⟩ := q; exact ⟨q0, qP, va_K.moved (u := U) (U := U.calling g mk a) (Vm.Alike.refl U.vm) qK⟩, va_recv hK hPc (ci := 8) (q0 := 0) rfl rfl, fun U hU hW => ⟨rfl, by rw [hU]; exact hPc, va_K.moved hW.alike hK⟩⟩ rfl rfl hl.1 rfl (lv_room (Nat.le_of_ble_eq_true rfl)) dX11_wipes_16 ⟨Nat.le_of_ble_eq_true rfl, Nat.le_of_ble_eq_true rfl⟩)) (fun rz22 gz21 => ?_)
      clear hPc
      rcases gz21 with ⟨rfl, cz23⟩ | ⟨rfl, cz24, cz25⟩ | ⟨rfl, cz26, cz27, cz28⟩ | ⟨rfl, cz29, cz30, cz31⟩ | ⟨rfl, cz32, cz33, cz34⟩ | ⟨rfl, cz35, cz36, cz37⟩ | ⟨rfl, cz38, cz39, cz40⟩ | ⟨rfl, cz41, cz42, cz43⟩ | ⟨rfl, cz44, cz45, cz46⟩
      · skip
        have zz47 : p1.toInt < (0 : Int) := zi_lt.mp cz23
        omega
      · skip
        have zz48 : ¬ p1.toInt < (0 : Int) := fun h9 => cz24 (zi_lt.mpr h9)
        have zz49 : (7 : Int) ≤ p1.toInt := zi_le.mp cz25
        omega
      · skip
        have zz50 : ¬ p1.toInt < (0 : Int) := fun h9 => cz26 (zi_lt.mpr h9)
        have zz51 : ¬ (7 : Int) ≤ p1.toInt := fun h9 => cz27 (zi_le.mpr h9)
        have zz52 : p1.toInt = (0 : Int) := zi_eq.mp cz28
        refine W.eq (g2 := F0 m 19 ls [.ref (sY 1 0)]) rfl ?_
        refine va_get (D := (dC, dI)) (ci := 7) (v := .int ((vY 1) 7)) (C := RX7) (T := TX7) (N := 9) hx hb hts (fun w h => List.mem_cons_of_mem _ (List.mem_append_right _ (List.mem_append_right _ (List.mem_append_right _ (List.mem_append_right _ (List.mem_append_left _ h)))))) hown hK hP 26 rfl rfl 8 (by decide) (hts (.fieldLink RX11 224 "SagMemory$State" "wiped" "I") (wl_mem 10 rfl)) (fun _ h9 => h9) rfl dX11_wipes_19 ?_
        refine lv_goto (tgt := 27) hx hb dX11_wipes_22 (by decide) ?_
        rw [hQ]
        exact W.iret (v := ((vY 1) 7)) hx hb hr (fun t ht hW => ⟨((vY 1) 7), rfl, trivial, ht⟩) (fun _ h => absurd h List.not_mem_nil) dX11_wipes_27
      · skip
        have zz53 : ¬ p1.toInt < (0 : Int) := fun h9 => cz29 (zi_lt.mpr h9)
        have zz54 : ¬ (7 : Int) ≤ p1.toInt := fun h9 => cz30 (zi_le.mpr h9)
        have zz55 : p1.toInt = (1 : Int) := zi_eq.mp cz31
        refine W.eq (g2 := F0 m 19 ls [.ref (sY 2 0)]) rfl ?_
        refine va_get (D := (dC, dI)) (ci := 7) (v := .int ((vY 2) 7)) (C := RX7) (T := TX7) (N := 9) hx hb hts (fun w h => List.mem_cons_of_mem _ (List.mem_append_right _ (List.mem_append_right _ (List.mem_append_right _ (List.mem_append_right _ (List.mem_append_left _ h)))))) hown hK hP 37 rfl rfl 8 (by decide) (hts (.fieldLink RX11 224 "SagMemory$State" "wiped" "I") (wl_mem 10 rfl)) (fun _ h9 => h9) rfl dX11_wipes_19 ?_
        refine lv_goto (tgt := 27) hx hb dX11_wipes_22 (by decide) ?_
        rw [hQ]
        exact W.iret (v := ((vY 2) 7)) hx hb hr (fun t ht hW => ⟨((vY 2) 7), rfl, trivial, ht⟩) (fun _ h => absurd h List.not_mem_nil) dX11_wipes_27
      · skip
        have zz56 : ¬ p1.toInt < (0 : Int) := fun h9 => cz32 (zi_lt.mpr h9)
        have zz57 : ¬ (7 : Int) ≤ p1.toInt := fun h9 => cz33 (zi_le.mpr h9)
        have zz58 : p1.toInt = (2 : Int) := zi_eq.mp cz34
        refine W.eq (g2 := F0 m 19 ls [.ref (sY 3 0)]) rfl ?_
        refine va_get (D := (dC, dI)) (ci := 7) (v := .int ((vY 3) 7)) (C := RX7) (T := TX7) (N := 9) hx hb hts (fun w h => List.mem_cons_of_mem _ (List.mem_append_right _ (List.mem_append_right _ (List.mem_append_right _ (List.mem_append_right _ (List.mem_append_left _ h)))))) hown hK hP 48 rfl rfl 8 (by decide) (hts (.fieldLink RX11 224 "SagMemory$State" "wiped" "I") (wl_mem 10 rfl)) (fun _ h9 => h9) rfl dX11_wipes_19 ?_
        refine lv_goto (tgt := 27) hx hb dX11_wipes_22 (by decide) ?_
        rw [hQ]
        exact W.iret (v := ((vY 3) 7)) hx hb hr (fun t ht hW => ⟨((vY 3) 7), rfl, trivial, ht⟩) (fun _ h => absurd h List.not_mem_nil) dX11_wipes_27
      · skip
        have zz59 : ¬ p1.toInt < (0 : Int) := fun h9 => cz35 (zi_lt.mpr h9)
        have zz60 : ¬ (7 : Int) ≤ p1.toInt := fun h9 => cz36 (zi_le.mpr h9)
        have zz61 : p1.toInt = (3 : Int) := zi_eq.mp cz37
        refine W.eq (g2 := F0 m 19 ls [.ref (sY 4 0)]) rfl ?_
        refine va_get (D := (dC, dI)) (ci := 7) (v := .int ((vY 4) 7)) (C := RX7) (T := TX7) (N := 9) hx hb hts (fun w h => List.mem_cons_of_mem _ (List.mem_append_right _ (List.mem_append_right _ (List.mem_append_right _ (List.mem_append_right _ (List.mem_append_left _ h)))))) hown hK hP 59 rfl rfl 8 (by decide) (hts (.fieldLink RX11 224 "SagMemory$State" "wiped" "I") (wl_mem 10 rfl)) (fun _ h9 => h9) rfl dX11_wipes_19 ?_
        refine lv_goto (tgt := 27) hx hb dX11_wipes_22 (by decide) ?_
        rw [hQ]
        exact W.iret (v := ((vY 4) 7)) hx hb hr (fun t ht hW => ⟨((vY 4) 7), rfl, trivial, ht⟩) (fun _ h => absurd h List.not_mem_nil) dX11_wipes_27
      · skip
        have zz62 : ¬ p1.toInt < (0 : Int) := fun h9 => cz38 (zi_lt.mpr h9)
        have zz63 : ¬ (7 : Int) ≤ p1.toInt := fun h9 => cz39 (zi_le.mpr h9)
        have zz64 : p1.toInt = (4 : Int) := zi_eq.mp cz40
        refine W.eq (g2 := F0 m 19 ls [.ref (sY 5 0)]) rfl ?_
        refine va_get (D := (dC, dI)) (ci := 7) (v := .int ((vY 5) 7)) (C := RX7) (T := TX7) (N := 9) hx hb hts (fun w h => List.mem_cons_of_mem _ (List.mem_append_right _ (List.mem_append_right _ (List.mem_append_right _ (List.mem_append_right _ (List.mem_append_left _ h)))))) hown hK hP 70 rfl rfl 8 (by decide) (hts (.fieldLink RX11 224 "SagMemory$State" "wiped" "I") (wl_mem 10 rfl)) (fun _ h9 => h9) rfl dX11_wipes_19 ?_
        refine lv_goto (tgt := 27) hx hb dX11_wipes_22 (by decide) ?_
        rw [hQ]
        exact W.iret (v := ((vY 5) 7)) hx hb hr (fun t ht hW => ⟨((vY 5) 7), rfl, trivial, ht⟩) (fun _ h => absurd h List.not_mem_nil) dX11_wipes_27
      · skip
        have zz65 : ¬ p1.toInt < (0 : Int) := fun h9 => cz41 (zi_lt.mpr h9)
        have zz66 : ¬ (7 : Int) ≤ p1.toInt := fun h9 => cz42 (zi_le.mpr h9)
        have zz67 : p1.toInt = (5 : Int) := zi_eq.mp cz43
        refine W.eq (g2 := F0 m 19 ls [.ref (sY 6 0)]) rfl ?_
        refine va_get (D := (dC, dI)) (ci := 7) (v := .int ((vY 6) 7)) (C := RX7) (T := TX7) (N := 9) hx hb hts (fun w h => List.mem_cons_of_mem _ (List.mem_append_right _ (List.mem_append_right _ (List.mem_append_right _ (List.mem_append_right _ (List.mem_append_left _ h)))))) hown hK hP 81 rfl rfl 8 (by decide) (hts (.fieldLink RX11 224 "SagMemory$State" "wiped" "I") (wl_mem 10 rfl)) (fun _ h9 => h9) rfl dX11_wipes_19 ?_
        refine lv_goto (tgt := 27) hx hb dX11_wipes_22 (by decide) ?_
        rw [hQ]
        exact W.iret (v := ((vY 6) 7)) hx hb hr (fun t ht hW => ⟨((vY 6) 7), rfl, trivial, ht⟩) (fun _ h => absurd h List.not_mem_nil) dX11_wipes_27
      · skip
        have zz68 : ¬ p1.toInt < (0 : Int) := fun h9 => cz44 (zi_lt.mpr h9)
        have zz69 : ¬ (7 : Int) ≤ p1.toInt := fun h9 => cz45 (zi_le.mpr h9)
        have zz70 : p1.toInt = (6 : Int) := zi_eq.mp cz46
        refine W.eq (g2 := F0 m 19 ls [.ref (sY 7 0)]) rfl ?_
        refine va_get (D := (dC, dI)) (ci := 7) (v := .int ((vY 7) 7)) (C := RX7) (T := TX7) (N := 9) hx hb hts (fun w h => List.mem_cons_of_mem _ (List.mem_append_right _ (List.mem_append_right _ (List.mem_append_right _ (List.mem_append_right _ (List.mem_append_left _ h)))))) hown hK hP 92 rfl rfl 8 (by decide) (hts (.fieldLink RX11 224 "SagMemory$State" "wiped" "I") (wl_mem 10 rfl)) (fun _ h9 => h9) rfl dX11_wipes_19 ?_
        refine lv_goto (tgt := 27) hx hb dX11_wipes_22 (by decide) ?_
        rw [hQ]
        exact W.iret (v := ((vY 7) 7)) hx hb hr (fun t ht hW => ⟨((vY 7) 7), rfl, trivial, ht⟩) (fun _ h => absurd h List.not_mem_nil) dX11_wipes_27
def wk_c_X11_breaks : List Cond := .code yX11_breaks cX11_breaks 2 (some .int) :: ([.fieldLink RX11 19 "SagMemory" "told" "LSagMemory$Valley;", .methodLink RX11 131 yX10_hasBridge, .instanceMethod yX10_hasBridge, .selects RX10 yX10_hasBridge yX10_hasBridge, .initialized RX10, .methodLink RX11 227 yX11_firstBroken, .instanceMethod yX11_firstBroken, .selects RX11 yX11_firstBroken yX11_firstBroken, .initialized RX11] ++ (wsX110 ++ (wk_c_X10_hasBridge ++ (wk_c_X11_firstBroken ++ []))))
theorem wkg_c_X11_breaks : wk_c_X11_breaks.all goodWord = true := by decide +kernel
set_option maxHeartbeats 4000000 in
set_option maxRecDepth 100000 in
theorem c_X11_breaks (l : Launch) (dC : Nat → ClassId) (dI : Nat → Nat → Nat) (k : Nat → ClassId) (qX : Nat → Nat) (tapeX : Nat) (actsX : Nat) (nowX : Nat) (trialX : Nat) (attemptX : Nat) (orderSearchX : Nat) (routeSearchX : Nat) (setSearchX : Nat) (probeX : Nat) (slot0X : Nat) (slot1X : Nat) (slot2X : Nat) (slot3X : Nat) (image0X : Nat) (image1X : Nat) (image2X : Nat) (aX : Nat → Nat → Int32) (qV : Nat → Nat) (vV : Nat → Int32) (bV : Nat → Int32) (cV : Nat → Int32) (wV : Nat → Int32) (aV : Nat → Nat → Int32) (eV : Nat → Nat → Int32) (qY : Nat → Nat) (sY : Nat → Nat → Nat) (planY : Nat) (vY : Nat → Nat → Int32) (nY : Nat → Nat → Int32) (aY : Nat → Nat → Nat → Int32) (p1 : Int32) (hbV : Rg 0 3 bV) (hcV : Rg 0 7 cV) (hwV : Rg 0 5 wV) (heV : RgA 0 99 eV) (hnY : ∀ t9, Rg 0 8 (nY t9)) : Met l yX11_breaks wk_c_X11_breaks ({ frames := 2, cells := 0, slots := 0, locals := 43 }) (va_Pc [.ref (qX 0), .int p1] (fun U => va_P (dC, dI) vwCl (List.flatten [(wSag qX k tapeX (qV 0) actsX nowX trialX (qY 0) attemptX orderSearchX routeSearchX setSearchX probeX slot0X slot1X slot2X slot3X image0X image1X image2X aX), (wValley qV k vV bV cV wV aV eV), (wStoO qY k (qV 0) planY (sY 0 0) (sY 1 0) (sY 2 0) (sY 3 0) (sY 4 0) (sY 5 0) (sY 6 0) (sY 7 0)), (wState (sY 0) k (vY 0) (nY 0) (aY 0)), (wState (sY 1) k (vY 1) (nY 1) (aY 1)), (wState (sY 2) k (vY 2) (nY 2) (aY 2)), (wState (sY 3) k (vY 3) (nY 3) (aY 3)), (wState (sY 4) k (vY 4) (nY 4) (aY 4)), (wState (sY 5) k (vY 5) (nY 5) (aY 5)), (wState (sY 6) k (vY 6) (nY 6) (aY 6)), (wState (sY 7) k (vY 7) (nY 7) (aY 7))]) U.heap ∧ va_K (dC, dI) vwCl (tK k) U)) (vp_Si (fun r : Int32 => True)) 0 0 (fun _ => False) := by
  refine Met.ofW (cc := cX11_breaks) (maxL := 2) (ret := (some .int)) (by decide) rfl ?_
  intro p e s m args below meth c s₁ B hml hv
  obtain ⟨rfl, hP, hK⟩ := hv
  have hx := B.exec
  have hb := B.bytes
  have hr := B.returns
  have hts := atoms_spec (ws := wk_c_X11_breaks) B.pre
  have hown : s.vm.findClass RX11 = some m.cls := findClass_of_methodNamed B.named
  have hlocks := B.notSynchronized
  have hP : va_P (dC, dI) vwCl (List.flatten [(wSag qX k tapeX (qV 0) actsX nowX trialX (qY 0) attemptX orderSearchX routeSearchX setSearchX probeX slot0X slot1X slot2X slot3X image0X image1X image2X aX), (wValley qV k vV bV cV wV aV eV), (wStoO qY k (qV 0) planY (sY 0 0) (sY 1 0) (sY 2 0) (sY 3 0) (sY 4 0) (sY 5 0) (sY 6 0) (sY 7 0)), (wState (sY 0) k (vY 0) (nY 0) (aY 0)), (wState (sY 1) k (vY 1) (nY 1) (aY 1)), (wState (sY 2) k (vY 2) (nY 2) (aY 2)), (wState (sY 3) k (vY 3) (nY 3) (aY 3)), (wState (sY 4) k (vY 4) (nY 4) (aY 4)), (wState (sY 5) k (vY 5) (nY 5) (aY 5)), (wState (sY 6) k (vY 6) (nY 6) (aY 6)), (wState (sY 7) k (vY 7) (nY 7) (aY 7))]) s.heap := hP
  have hl := lv_entry ([.ref (qX 0), .int p1]) (n := 2) (Nat.le_of_ble_eq_true rfl)
  rw [lg_entry_eq]
  generalize (lg_sl ([.ref (qX 0), .int p1]) ++ List.replicate (2 - (lg_sl ([.ref (qX 0), .int p1])).length) Slot.unset).toArray = ls at hl ⊢
  have hl : lv_has ls 2 [(0, .ref (qX 0)), (1, .int p1)] := hl
  refine w_gen (fun Q hQ => ?_)
  refine lv_aload_n hx hb dX11_breaks_0 rfl (lv_at hl 0 rfl) ?_
  refine va_get (D := (dC, dI)) (ci := 11) (v := .ref (qV 0)) (C := RX11) (T := TX11) (N := 15) hx hb hts (fun w h => List.mem_cons_of_mem _ (List.mem_append_right _ (List.mem_append_left _ h))) hown hK hP 0 rfl rfl 1 (by decide) (hts (.fieldLink RX11 19 "SagMemory" "told" "LSagMemory$Valley;") (wl_mem 0 rfl)) (fun _ h9 => h9) rfl dX11_breaks_1 ?_
  refine lv_iload_n hx hb dX11_breaks_4 rfl (lv_at hl 1 rfl) ?_
  have hPc := hP.sub (ws' := (List.flatten [(wValley qV k vV bV cV wV aV eV)])) [5, 6, 7, 8, 9, 10, 11, 12] rfl
  refine vp_callSi (va_Run.run (va_runV (As := [.int p1]) (rest := []) ⟨hx, hb, hml, hown, hts⟩ (c_X10_hasBridge l dC dI k qV vV bV cV wV aV eV p1 hbV hcV hwV heV) (cwV 1 hts (gk_V (wl_mem 1 rfl) (wl_mem 2 rfl) (wl_mem 3 rfl) (wl_mem 4 rfl) (fun w h => List.mem_cons_of_mem _ (List.mem_append_right _ (List.mem_append_right _ (List.mem_append_left _ h)))) wkg_c_X10_hasBridge) rfl rfl rfl (by decide +kernel) ⟨Nat.le_of_ble_eq_true rfl, Nat.le_of_ble_eq_true rfl⟩) ⟨fun a U g mk q => by obtain ⟨q0, qP, qK⟩ := q; exact ⟨q0, qP, va_K.moved (u := U) (U := U.calling g mk a) (Vm.Alike.refl U.vm) qK⟩, va_recv hK hPc (ci := 10) (q0 := 0) rfl rfl, fun U hU hW => ⟨rfl, by rw [hU]; exact hPc, va_K.moved hW.alike hK⟩⟩ rfl rfl hl.1 rfl (lv_room (Nat.le_of_ble_eq_true rfl)) dX11_breaks_5 ⟨Nat.le_of_ble_eq_true rfl, Nat.le_of_ble_eq_true rfl⟩)) (fun rz2 gz1 => ?_)
  clear hPc
  rcases gz1 with ⟨er, cz3⟩ | ⟨er, cz4, cz5⟩ | ⟨er, cz6, cz7⟩
  · obtain rfl := er.symm
    have bz8 := fb_rng p1
    have zz9 : p1.toInt < (0 : Int) := zi_lt.mp cz3
    refine lv_if_eq (tgt := 21) hx hb dX11_breaks_8 (by decide) (fun cz10 => ?_) (fun cz10 => ?_)
    · skip
      refine lv_bipush (v := (-2)) hx hb dX11_breaks_21 (by decide) ?_
      rw [hQ]
      exact W.iret (v := (-2 : Int32)) hx hb hr (fun t ht hW => ⟨(-2 : Int32), rfl, trivial, ht⟩) (fun _ h => absurd h List.not_mem_nil) dX11_breaks_23
    · skip
      exact absurd cz10 (by decide)
  · obtain rfl := er.symm
    have bz11 := fb_rng p1
    have zz12 : ¬ p1.toInt < (0 : Int) := fun h9 => cz4 (zi_lt.mpr h9)
    have bz13 := hbV 0
    have zz14 : (bV 0).toInt ≤ p1.toInt := zi_le.mp cz5
    refine lv_if_eq (tgt := 21) hx hb dX11_breaks_8 (by decide) (fun cz15 => ?_) (fun cz15 => ?_)
    · skip
      refine lv_bipush (v := (-2)) hx hb dX11_breaks_21 (by decide) ?_
      rw [hQ]
      exact W.iret (v := (-2 : Int32)) hx hb hr (fun t ht hW => ⟨(-2 : Int32), rfl, trivial, ht⟩) (fun _ h => absurd h List.not_mem_nil) dX11_breaks_23
    · skip
      exact absurd cz15 (by decide)
  · obtain rfl := er.symm
    have bz16 := fb_rng p1
    have zz17 : ¬ p1.toInt < (0 : Int) := fun h9 => cz6 (zi_lt.mpr h9)
    have bz18 := hbV 0
    have zz19 : ¬ (bV 0).toInt ≤ p1.toInt := fun h9 => cz7 (zi_le.mpr h9)
    refine lv_if_eq (tgt := 21) hx hb dX11_breaks_8 (by decide) (fun cz20 => ?_) (fun cz20 => ?_)
    · skip
      exact absurd cz20 (by decide)
    · skip
      refine lv_aload_n hx hb dX11_breaks_11 rfl (lv_at hl 0 rfl) ?_
      refine lv_iconst (v := 1) hx hb dX11_breaks_12 (by decide) ?_
      refine lv_iload_n hx hb dX11_breaks_13 rfl (lv_at hl 1 rfl) ?_
      refine lv_ishl hx hb dX11_breaks_14 ?_
      refine lv_topi (fun xz21 exz21 => ?_)
      have hPc := hP
      refine vp_callSi (va_Run.run (va_runV (As := [.int xz21]) (rest := []) ⟨hx, hb, hml, hown, hts⟩ (c_X11_firstBroken l dC dI k qX tapeX actsX nowX trialX attemptX orderSearchX routeSearchX setSearchX probeX slot0X slot1X slot2X slot3X image0X image1X image2X aX qV vV bV cV wV aV eV qY sY planY vY nY aY xz21 hbV hcV hwV heV hnY) (cwV 1 hts (gk_V (wl_mem 5 rfl) (wl_mem 6 rfl) (wl_mem 7 rfl) (wl_mem 8 rfl) (fun w h => List.mem_cons_of_mem _ (List.mem_append_right _ (List.mem_append_right _ (List.mem_append_right _ (List.mem_append_left _ h))))) wkg_c_X11_firstBroken) rfl rfl rfl (by decide +kernel) ⟨Nat.le_of_ble_eq_true rfl, Nat.le_of_ble_eq_true rfl⟩) ⟨fun a U g mk q => by obtain ⟨q0, qP, qK⟩ := q; exact ⟨q0, qP, va_K.moved (u := U) (U := U.calling g mk a) (Vm.Alike.refl U.vm) qK⟩, va_recv hK hPc (ci := 11) (q0 := 0) rfl rfl, fun U hU hW => ⟨rfl, by rw [hU]; exact hPc, va_K.moved hW.alike hK⟩⟩ rfl rfl hl.1 rfl (lv_room (Nat.le_of_ble_eq_true rfl)) dX11_breaks_15 ⟨Nat.le_of_ble_eq_true rfl, Nat.le_of_ble_eq_true rfl⟩)) (fun rz23 gz22 => ?_)
      clear hPc
      refine lv_goto (tgt := 23) hx hb dX11_breaks_18 (by decide) ?_
      rw [hQ]
      exact W.iret (v := rz23) hx hb hr (fun t ht hW => ⟨rz23, rfl, trivial, ht⟩) (fun _ h => absurd h List.not_mem_nil) dX11_breaks_23
def wk_c_X11_fails : List Cond := .code yX11_fails cX11_fails 1 (some .int) :: ([.methodLink RX11 180 yX11_noValley, .instanceMethod yX11_noValley, .selects RX11 yX11_noValley yX11_noValley, .initialized RX11, .methodLink RX11 227 yX11_firstBroken, .instanceMethod yX11_firstBroken, .selects RX11 yX11_firstBroken yX11_firstBroken] ++ (wk_c_X11_noValley ++ (wk_c_X11_firstBroken ++ [])))
theorem wkg_c_X11_fails : wk_c_X11_fails.all goodWord = true := by decide +kernel
set_option maxHeartbeats 4000000 in
set_option maxRecDepth 100000 in
theorem c_X11_fails (l : Launch) (dC : Nat → ClassId) (dI : Nat → Nat → Nat) (k : Nat → ClassId) (qX : Nat → Nat) (tapeX : Nat) (actsX : Nat) (nowX : Nat) (trialX : Nat) (attemptX : Nat) (orderSearchX : Nat) (routeSearchX : Nat) (setSearchX : Nat) (probeX : Nat) (slot0X : Nat) (slot1X : Nat) (slot2X : Nat) (slot3X : Nat) (image0X : Nat) (image1X : Nat) (image2X : Nat) (aX : Nat → Nat → Int32) (qV : Nat → Nat) (vV : Nat → Int32) (bV : Nat → Int32) (cV : Nat → Int32) (wV : Nat → Int32) (aV : Nat → Nat → Int32) (eV : Nat → Nat → Int32) (qY : Nat → Nat) (sY : Nat → Nat → Nat) (planY : Nat) (vY : Nat → Nat → Int32) (nY : Nat → Nat → Int32) (aY : Nat → Nat → Nat → Int32) (hbV : Rg 0 3 bV) (hcV : Rg 0 7 cV) (hwV : Rg 0 5 wV) (heV : RgA 0 99 eV) (hnY : ∀ t9, Rg 0 8 (nY t9)) : Met l yX11_fails wk_c_X11_fails ({ frames := 2, cells := 0, slots := 0, locals := 43 }) (va_Pc [.ref (qX 0)] (fun U => va_P (dC, dI) vwCl (List.flatten [(wSag qX k tapeX (qV 0) actsX nowX trialX (qY 0) attemptX orderSearchX routeSearchX setSearchX probeX slot0X slot1X slot2X slot3X image0X image1X image2X aX), (wValley qV k vV bV cV wV aV eV), (wStoO qY k (qV 0) planY (sY 0 0) (sY 1 0) (sY 2 0) (sY 3 0) (sY 4 0) (sY 5 0) (sY 6 0) (sY 7 0)), (wState (sY 0) k (vY 0) (nY 0) (aY 0)), (wState (sY 1) k (vY 1) (nY 1) (aY 1)), (wState (sY 2) k (vY 2) (nY 2) (aY 2)), (wState (sY 3) k (vY 3) (nY 3) (aY 3)), (wState (sY 4) k (vY 4) (nY 4) (aY 4)), (wState (sY 5) k (vY 5) (nY 5) (aY 5)), (wState (sY 6) k (vY 6) (nY 6) (aY 6)), (wState (sY 7) k (vY 7) (nY 7) (aY 7))]) U.heap ∧ va_K (dC, dI) vwCl (tK k) U)) (vp_Si (fun r : Int32 => True)) 0 0 (fun _ => False) := by
  refine Met.ofW (cc := cX11_fails) (maxL := 1) (ret := (some .int)) (by decide) rfl ?_
  intro p e s m args below meth c s₁ B hml hv
  obtain ⟨rfl, hP, hK⟩ := hv
  have hx := B.exec
  have hb := B.bytes
  have hr := B.returns
  have hts := atoms_spec (ws := wk_c_X11_fails) B.pre
  have hown : s.vm.findClass RX11 = some m.cls := findClass_of_methodNamed B.named
  have hlocks := B.notSynchronized
  have hP : va_P (dC, dI) vwCl (List.flatten [(wSag qX k tapeX (qV 0) actsX nowX trialX (qY 0) attemptX orderSearchX routeSearchX setSearchX probeX slot0X slot1X slot2X slot3X image0X image1X image2X aX), (wValley qV k vV bV cV wV aV eV), (wStoO qY k (qV 0) planY (sY 0 0) (sY 1 0) (sY 2 0) (sY 3 0) (sY 4 0) (sY 5 0) (sY 6 0) (sY 7 0)), (wState (sY 0) k (vY 0) (nY 0) (aY 0)), (wState (sY 1) k (vY 1) (nY 1) (aY 1)), (wState (sY 2) k (vY 2) (nY 2) (aY 2)), (wState (sY 3) k (vY 3) (nY 3) (aY 3)), (wState (sY 4) k (vY 4) (nY 4) (aY 4)), (wState (sY 5) k (vY 5) (nY 5) (aY 5)), (wState (sY 6) k (vY 6) (nY 6) (aY 6)), (wState (sY 7) k (vY 7) (nY 7) (aY 7))]) s.heap := hP
  have hl := lv_entry ([.ref (qX 0)]) (n := 1) (Nat.le_of_ble_eq_true rfl)
  rw [lg_entry_eq]
  generalize (lg_sl ([.ref (qX 0)]) ++ List.replicate (1 - (lg_sl ([.ref (qX 0)])).length) Slot.unset).toArray = ls at hl ⊢
  have hl : lv_has ls 1 [(0, .ref (qX 0))] := hl
  refine w_gen (fun Q hQ => ?_)
  refine lv_aload_n hx hb dX11_fails_0 rfl (lv_at hl 0 rfl) ?_
  have hPc := hP.sub (ws' := (List.flatten [(wSag qX k tapeX (qV 0) actsX nowX trialX (qY 0) attemptX orderSearchX routeSearchX setSearchX probeX slot0X slot1X slot2X slot3X image0X image1X image2X aX), (wValley qV k vV bV cV wV aV eV)])) [0, 1, 2, 3, 4, 5, 6, 7, 8, 9, 10, 11, 12] rfl
  refine vp_callSi (va_Run.run (va_runV (As := []) (rest := []) ⟨hx, hb, hml, hown, hts⟩ (c_X11_noValley l dC dI k qX tapeX actsX nowX trialX (qY 0) attemptX orderSearchX routeSearchX setSearchX probeX slot0X slot1X slot2X slot3X image0X image1X image2X aX qV vV bV cV wV aV eV hbV hcV hwV heV) (cwV 0 hts (gk_V (wl_mem 0 rfl) (wl_mem 1 rfl) (wl_mem 2 rfl) (wl_mem 3 rfl) (fun w h => List.mem_cons_of_mem _ (List.mem_append_right _ (List.mem_append_left _ h))) wkg_c_X11_noValley) rfl rfl rfl (by decide +kernel) ⟨Nat.le_of_ble_eq_true rfl, Nat.le_of_ble_eq_true rfl⟩) ⟨fun a U g mk q => by obtain ⟨q0, qP, qK⟩ := q; exact ⟨q0, qP, va_K.moved (u := U) (U := U.calling g mk a) (Vm.Alike.refl U.vm) qK⟩, va_recv hK hPc (ci := 11) (q0 := 0) rfl rfl, fun U hU hW => ⟨rfl, by rw [hU]; exact hPc, va_K.moved hW.alike hK⟩⟩ rfl rfl hl.1 rfl (lv_room (Nat.le_of_ble_eq_true rfl)) dX11_fails_1 ⟨Nat.le_of_ble_eq_true rfl, Nat.le_of_ble_eq_true rfl⟩)) (fun rz2 gz1 => ?_)
  clear hPc
  have pz3 := gz1
  have pz3 : rz2.toInt = 0 ∨ rz2.toInt = 1 := pz3
  refine lv_if_eq (tgt := 12) hx hb dX11_fails_4 (by decide) (fun cz4 => ?_) (fun cz4 => ?_)
  · skip
    have zz5 : rz2.toInt = (0 : Int) := zi_eq.mp cz4
    refine lv_aload_n hx hb dX11_fails_12 rfl (lv_at hl 0 rfl) ?_
    refine lv_bipush (v := 7) hx hb dX11_fails_13 (by decide) ?_
    have hPc := hP
    refine vp_callSi (va_Run.run (va_runV (As := [.int 7]) (rest := []) ⟨hx, hb, hml, hown, hts⟩ (c_X11_firstBroken l dC dI k qX tapeX actsX nowX trialX attemptX orderSearchX routeSearchX setSearchX probeX slot0X slot1X slot2X slot3X image0X image1X image2X aX qV vV bV cV wV aV eV qY sY planY vY nY aY (7 : Int32) hbV hcV hwV heV hnY) (cwV 1 hts (gk_V (wl_mem 4 rfl) (wl_mem 5 rfl) (wl_mem 6 rfl) (wl_mem 3 rfl) (fun w h => List.mem_cons_of_mem _ (List.mem_append_right _ (List.mem_append_right _ (List.mem_append_left _ h)))) wkg_c_X11_firstBroken) rfl rfl rfl (by decide +kernel) ⟨Nat.le_of_ble_eq_true rfl, Nat.le_of_ble_eq_true rfl⟩) ⟨fun a U g mk q => by obtain ⟨q0, qP, qK⟩ := q; exact ⟨q0, qP, va_K.moved (u := U) (U := U.calling g mk a) (Vm.Alike.refl U.vm) qK⟩, va_recv hK hPc (ci := 11) (q0 := 0) rfl rfl, fun U hU hW => ⟨rfl, by rw [hU]; exact hPc, va_K.moved hW.alike hK⟩⟩ rfl rfl hl.1 rfl (lv_room (Nat.le_of_ble_eq_true rfl)) dX11_fails_15 ⟨Nat.le_of_ble_eq_true rfl, Nat.le_of_ble_eq_true rfl⟩)) (fun rz7 gz6 => ?_)
    clear hPc
    rw [hQ]
    exact W.iret (v := rz7) hx hb hr (fun t ht hW => ⟨rz7, rfl, trivial, ht⟩) (fun _ h => absurd h List.not_mem_nil) dX11_fails_18
  · skip
    have zz8 : ¬ rz2.toInt = (0 : Int) := fun h9 => cz4 (zi_eq.mpr h9)
    refine lv_bipush (v := (-2)) hx hb dX11_fails_7 (by decide) ?_
    refine lv_goto (tgt := 18) hx hb dX11_fails_9 (by decide) ?_
    rw [hQ]
    exact W.iret (v := (-2 : Int32)) hx hb hr (fun t ht hW => ⟨(-2 : Int32), rfl, trivial, ht⟩) (fun _ h => absurd h List.not_mem_nil) dX11_fails_18
def wk_c_X11_spare : List Cond := .code yX11_spare cX11_spare 2 (some .int) :: ([.fieldLink RX11 19 "SagMemory" "told" "LSagMemory$Valley;", .methodLink RX11 131 yX10_hasBridge, .instanceMethod yX10_hasBridge, .selects RX10 yX10_hasBridge yX10_hasBridge, .initialized RX10, .fieldLink RX11 135 "SagMemory$Valley" "holds" "[I", .fieldLink RX11 45 "SagMemory" "story" "LSagMemory$Story;", .methodLink RX11 183 yX8_atEnd, .instanceMethod yX8_atEnd, .selects RX8 yX8_atEnd yX8_atEnd, .initialized RX8, .fieldLink RX11 194 "SagMemory$State" "memories" "[LSagMemory$Memory;", .methodLink RX11 205 yX2_depth, .instanceMethod yX2_depth, .selects RX2 yX2_depth yX2_depth, .initialized RX2] ++ (wsX110 ++ (wk_c_X10_hasBridge ++ (wsX100 ++ (wk_c_X8_atEnd ++ (wsX70 ++ (wk_c_X2_depth ++ [])))))))
theorem wkg_c_X11_spare : wk_c_X11_spare.all goodWord = true := by decide +kernel
set_option maxHeartbeats 4000000 in
set_option maxRecDepth 100000 in
theorem c_X11_spare (l : Launch) (dC : Nat → ClassId) (dI : Nat → Nat → Nat) (k : Nat → ClassId) (qX : Nat → Nat) (tapeX : Nat) (actsX : Nat) (nowX : Nat) (trialX : Nat) (attemptX : Nat) (orderSearchX : Nat) (routeSearchX : Nat) (setSearchX : Nat) (probeX : Nat) (slot0X : Nat) (slot1X : Nat) (slot2X : Nat) (slot3X : Nat) (image0X : Nat) (image1X : Nat) (image2X : Nat) (aX : Nat → Nat → Int32) (qV : Nat → Nat) (vV : Nat → Int32) (bV : Nat → Int32) (cV : Nat → Int32) (wV : Nat → Int32) (aV : Nat → Nat → Int32) (eV : Nat → Nat → Int32) (qY : Nat → Nat) (sY : Nat → Nat → Nat) (planY : Nat) (vY : Nat → Nat → Int32) (nY : Nat → Nat → Int32) (aY : Nat → Nat → Nat → Int32) (p1 : Int32) (hbV : Rg 0 3 bV) (hcV : Rg 0 7 cV) (hwV : Rg 0 5 wV) (heV : RgA 0 99 eV) (hnY : ∀ t9, Rg 0 8 (nY t9)) : Met l yX11_spare wk_c_X11_spare ({ frames := 2, cells := 0, slots := 0, locals := 41 }) (va_Pc [.ref (qX 0), .int p1] (fun U => va_P (dC, dI) vwCl (List.flatten [(wSag qX k tapeX (qV 0) actsX nowX trialX (qY 0) attemptX orderSearchX routeSearchX setSearchX probeX slot0X slot1X slot2X slot3X image0X image1X image2X aX), (wValley qV k vV bV cV wV aV eV), (wStoO qY k (qV 0) planY (sY 0 0) (sY 1 0) (sY 2 0) (sY 3 0) (sY 4 0) (sY 5 0) (sY 6 0) (sY 7 0)), (wState (sY 0) k (vY 0) (nY 0) (aY 0)), (wState (sY 1) k (vY 1) (nY 1) (aY 1)), (wState (sY 2) k (vY 2) (nY 2) (aY 2)), (wState (sY 3) k (vY 3) (nY 3) (aY 3)), (wState (sY 4) k (vY 4) (nY 4) (aY 4)), (wState (sY 5) k (vY 5) (nY 5) (aY 5)), (wState (sY 6) k (vY 6) (nY 6) (aY 6)), (wState (sY 7) k (vY 7) (nY 7) (aY 7))]) U.heap ∧ va_K (dC, dI) vwCl (tK k) U)) (vp_Si (fun r : Int32 => True)) 0 0 (fun _ => False) := by
  refine Met.ofW (cc := cX11_spare) (maxL := 2) (ret := (some .int)) (by decide) rfl ?_
  intro p e s m args below meth c s₁ B hml hv
  obtain ⟨rfl, hP, hK⟩ := hv
  have hx := B.exec
  have hb := B.bytes
  have hr := B.returns
  have hts := atoms_spec (ws := wk_c_X11_spare) B.pre
  have hown : s.vm.findClass RX11 = some m.cls := findClass_of_methodNamed B.named
  have hlocks := B.notSynchronized
  have hP : va_P (dC, dI) vwCl (List.flatten [(wSag qX k tapeX (qV 0) actsX nowX trialX (qY 0) attemptX orderSearchX routeSearchX setSearchX probeX slot0X slot1X slot2X slot3X image0X image1X image2X aX), (wValley qV k vV bV cV wV aV eV), (wStoO qY k (qV 0) planY (sY 0 0) (sY 1 0) (sY 2 0) (sY 3 0) (sY 4 0) (sY 5 0) (sY 6 0) (sY 7 0)), (wState (sY 0) k (vY 0) (nY 0) (aY 0)), (wState (sY 1) k (vY 1) (nY 1) (aY 1)), (wState (sY 2) k (vY 2) (nY 2) (aY 2)), (wState (sY 3) k (vY 3) (nY 3) (aY 3)), (wState (sY 4) k (vY 4) (nY 4) (aY 4)), (wState (sY 5) k (vY 5) (nY 5) (aY 5)), (wState (sY 6) k (vY 6) (nY 6) (aY 6)), (wState (sY 7) k (vY 7) (nY 7) (aY 7))]) s.heap := hP
  have hl := lv_entry ([.ref (qX 0), .int p1]) (n := 2) (Nat.le_of_ble_eq_true rfl)
  rw [lg_entry_eq]
  generalize (lg_sl ([.ref (qX 0), .int p1]) ++ List.replicate (2 - (lg_sl ([.ref (qX 0), .int p1])).length) Slot.unset).toArray = ls at hl ⊢
  have hl : lv_has ls 2 [(0, .ref (qX 0)), (1, .int p1)] := hl
  refine w_gen (fun Q hQ => ?_)
  refine lv_aload_n hx hb dX11_spare_0 rfl (lv_at hl 0 rfl) ?_
  refine va_get (D := (dC, dI)) (ci := 11) (v := .ref (qV 0)) (C := RX11) (T := TX11) (N := 15) hx hb hts (fun w h => List.mem_cons_of_mem _ (List.mem_append_right _ (List.mem_append_left _ h))) hown hK hP 0 rfl rfl 1 (by decide) (hts (.fieldLink RX11 19 "SagMemory" "told" "LSagMemory$Valley;") (wl_mem 0 rfl)) (fun _ h9 => h9) rfl dX11_spare_1 ?_
  refine lv_iload_n hx hb dX11_spare_4 rfl (lv_at hl 1 rfl) ?_
  have hPc := hP.sub (ws' := (List.flatten [(wValley qV k vV bV cV wV aV eV)])) [5, 6, 7, 8, 9, 10, 11, 12] rfl
  refine vp_callSi (va_Run.run (va_runV (As := [.int p1]) (rest := []) ⟨hx, hb, hml, hown, hts⟩ (c_X10_hasBridge l dC dI k qV vV bV cV wV aV eV p1 hbV hcV hwV heV) (cwV 1 hts (gk_V (wl_mem 1 rfl) (wl_mem 2 rfl) (wl_mem 3 rfl) (wl_mem 4 rfl) (fun w h => List.mem_cons_of_mem _ (List.mem_append_right _ (List.mem_append_right _ (List.mem_append_left _ h)))) wkg_c_X10_hasBridge) rfl rfl rfl (by decide +kernel) ⟨Nat.le_of_ble_eq_true rfl, Nat.le_of_ble_eq_true rfl⟩) ⟨fun a U g mk q => by obtain ⟨q0, qP, qK⟩ := q; exact ⟨q0, qP, va_K.moved (u := U) (U := U.calling g mk a) (Vm.Alike.refl U.vm) qK⟩, va_recv hK hPc (ci := 10) (q0 := 0) rfl rfl, fun U hU hW => ⟨rfl, by rw [hU]; exact hPc, va_K.moved hW.alike hK⟩⟩ rfl rfl hl.1 rfl (lv_room (Nat.le_of_ble_eq_true rfl)) dX11_spare_5 ⟨Nat.le_of_ble_eq_true rfl, Nat.le_of_ble_eq_true rfl⟩)) (fun rz2 gz1 => ?_)
  clear hPc
  rcases gz1 with ⟨er, cz3⟩ | ⟨er, cz4, cz5⟩ | ⟨er, cz6, cz7⟩
  · obtain rfl := er.symm
    have bz8 := fb_rng p1
    have zz9 : p1.toInt < (0 : Int) := zi_lt.mp cz3
    refine lv_if_ne (tgt := 15) hx hb dX11_spare_8 (by decide) (fun cz10 => ?_) (fun cz10 => ?_)
    · skip
      exact absurd cz10 (by decide)
    · skip
      refine lv_sipush (v := (-1000)) hx hb dX11_spare_11 (by decide) ?_
      rw [hQ]
      exact W.iret (v := (-1000 : Int32)) hx hb hr (fun t ht hW => ⟨(-1000 : Int32), rfl, trivial, ht⟩) (fun _ h => absurd h List.not_mem_nil) dX11_spare_14
  · obtain rfl := er.symm
    have bz11 := fb_rng p1
    have zz12 : ¬ p1.toInt < (0 : Int) := fun h9 => cz4 (zi_lt.mpr h9)
    have bz13 := hbV 0
    have zz14 : (bV 0).toInt ≤ p1.toInt := zi_le.mp cz5
    refine lv_if_ne (tgt := 15) hx hb dX11_spare_8 (by decide) (fun cz15 => ?_) (fun cz15 => ?_)
    · skip
      exact absurd cz15 (by decide)
    · skip
      refine lv_sipush (v := (-1000)) hx hb dX11_spare_11 (by decide) ?_
      rw [hQ]
      exact W.iret (v := (-1000 : Int32)) hx hb hr (fun t ht hW => ⟨(-1000 : Int32), rfl, trivial, ht⟩) (fun _ h => absurd h List.not_mem_nil) dX11_spare_14
  · obtain rfl := er.symm
    have bz16 := fb_rng p1
    have zz17 : ¬ p1.toInt < (0 : Int) := fun h9 => cz6 (zi_lt.mpr h9)
    have bz18 := hbV 0
    have zz19 : ¬ (bV 0).toInt ≤ p1.toInt := fun h9 => cz7 (zi_le.mpr h9)
    refine lv_if_ne (tgt := 15) hx hb dX11_spare_8 (by decide) (fun cz20 => ?_) (fun cz20 => ?_)
    · skip
      refine lv_aload_n hx hb dX11_spare_15 rfl (lv_at hl 0 rfl) ?_
      refine va_get (D := (dC, dI)) (ci := 11) (v := .ref (qV 0)) (C := RX11) (T := TX11) (N := 15) hx hb hts (fun w h => List.mem_cons_of_mem _ (List.mem_append_right _ (List.mem_append_left _ h))) hown hK hP 0 rfl rfl 1 (by decide) (hts (.fieldLink RX11 19 "SagMemory" "told" "LSagMemory$Valley;") (wl_mem 0 rfl)) (fun _ h9 => h9) rfl dX11_spare_16 ?_
      refine va_get (D := (dC, dI)) (ci := 10) (v := .ref (qV 1)) (C := RX10) (T := TX10) (N := 16) hx hb hts (fun w h => List.mem_cons_of_mem _ (List.mem_append_right _ (List.mem_append_right _ (List.mem_append_right _ (List.mem_append_left _ h))))) hown hK hP 5 rfl rfl 0 (by decide) (hts (.fieldLink RX11 135 "SagMemory$Valley" "holds" "[I") (wl_mem 5 rfl)) (fun _ h9 => h9) rfl dX11_spare_19 ?_
      refine lv_iload_n hx hb dX11_spare_22 rfl (lv_at hl 1 rfl) ?_
      refine va_iald hx hb hK hP 6 0 rfl rfl (vp_in_iff.mpr ⟨by omega, by omega⟩) dX11_spare_23 ?_
      refine lv_topi (fun xz21 exz21 => ?_)
      refine lv_aload_n hx hb dX11_spare_24 rfl (lv_at hl 0 rfl) ?_
      refine va_get (D := (dC, dI)) (ci := 11) (v := .ref (qY 0)) (C := RX11) (T := TX11) (N := 15) hx hb hts (fun w h => List.mem_cons_of_mem _ (List.mem_append_right _ (List.mem_append_left _ h))) hown hK hP 0 rfl rfl 5 (by decide) (hts (.fieldLink RX11 45 "SagMemory" "story" "LSagMemory$Story;") (wl_mem 6 rfl)) (fun _ h9 => h9) rfl dX11_spare_25 ?_
      have hPc : va_P (dC, dI) vwCl (List.flatten [(wStoO qY k (qV 0) planY (sY 0 0) (sY 1 0) (sY 2 0) (sY 3 0) (sY 4 0) (sY 5 0) (sY 6 0) (sY 7 0)), (wState (sY 0) k (vY 0) (nY 0) (aY 0)), (wState (sY 1) k (vY 1) (nY 1) (aY 1)), (wState (sY 2) k (vY 2) (nY 2) (aY 2)), (wState (sY 3) k (vY 3) (nY 3) (aY 3)), (wState (sY 4) k (vY 4) (nY 4) (aY 4)), (wState (sY 5) k (vY 5) (nY 5) (aY 5)), (wState (sY 6) k (vY 6) (nY 6) (aY 6)), (wState (sY 7) k (vY 7) (nY 7) (aY 7)), (wValley qV k vV bV cV wV aV eV)]) s.heap := wc_subP0 hP [2, 3, 4, 5, 6, 7, 8, 9, 10, 1] rfl
      refine va_csr (va_Run.run (va_runV (As := []) (rest := [.int xz21]) ⟨hx, hb, hml, hown, hts⟩ (c_X8_atEnd l dC dI k qY sY planY vY nY aY qV vV bV cV wV aV eV hnY hbV hcV hwV heV) (cwV 0 hts (gk_V (wl_mem 7 rfl) (wl_mem 8 rfl) (wl_mem 9 rfl) (wl_mem 10 rfl) (fun w h => List.mem_cons_of_mem _ (List.mem_append_right _ (List.mem_append_right _ (List.mem_append_right _ (List.mem_append_right _ (List.mem_append_left _ h)))))) wkg_c_X8_atEnd) rfl rfl rfl (by decide +kernel) ⟨Nat.le_of_ble_eq_true rfl, Nat.le_of_ble_eq_true rfl⟩) ⟨fun a U g mk q => by obtain ⟨q0, qP, qK⟩ := q; exact ⟨q0, qP, va_K.moved (u := U) (U := U.calling g mk a) (Vm.Alike.refl U.vm) qK⟩, va_recv hK hPc (ci := 8) (q0 := 0) rfl rfl, fun U hU hW => ⟨rfl, by rw [hU]; exact hPc, va_K.moved hW.alike hK⟩⟩ rfl rfl hl.1 rfl (lv_room (Nat.le_of_ble_eq_true rfl)) dX11_spare_28 ⟨Nat.le_of_ble_eq_true rfl, Nat.le_of_ble_eq_true rfl⟩)) (fun rz23 gz22 => ?_)
      clear hPc
      rcases gz22 with rfl | rfl | rfl | rfl | rfl | rfl | rfl | rfl
      · skip
        refine W.eq (g2 := F0 m 31 ls [.ref (sY 0 0), .int xz21]) rfl ?_
        refine va_get (D := (dC, dI)) (ci := 7) (v := .ref (sY 0 1)) (C := RX7) (T := TX7) (N := 9) hx hb hts (fun w h => List.mem_cons_of_mem _ (List.mem_append_right _ (List.mem_append_right _ (List.mem_append_right _ (List.mem_append_right _ (List.mem_append_right _ (List.mem_append_left _ h))))))) hown hK hP 15 rfl rfl 0 (by decide) (hts (.fieldLink RX11 194 "SagMemory$State" "memories" "[LSagMemory$Memory;") (wl_mem 11 rfl)) (fun _ h9 => h9) rfl dX11_spare_31 ?_
        refine lv_iload_n hx hb dX11_spare_34 rfl (lv_at hl 1 rfl) ?_
        rcases (show p1 = 0 ∨ p1 = 1 ∨ p1 = 2 by simp only [zi_eq]; show p1.toInt = 0 ∨ p1.toInt = 1 ∨ p1.toInt = 2; omega) with cz24 | cz24 | cz24
        · skip
          have zz25 : p1.toInt = (0 : Int) := zi_eq.mp cz24
          refine W.eq (g2 := F0 m 35 ls [.int 0, .ref (sY 0 1), .int xz21]) (by rw [cz24]) ?_
          refine va_aldq hx hb hK hP 16 4 rfl rfl (by unfold vp_in; decide) dX11_spare_35 ?_
          refine W.eq (g2 := F0 m 36 ls [.ref (sY 0 2), .int xz21]) rfl ?_
          have hPc := hP.sub (ws' := (List.flatten [(wMem (fun i => sY 0 (i + 2)) k (nY 0) (aY 0))])) [17, 18, 19] rfl
          refine vp_callSi (va_Run.run (va_runV (As := []) (rest := [.int xz21]) ⟨hx, hb, hml, hown, hts⟩ (c_X2_depth l dC dI k (fun i => sY 0 (i + 2)) (nY 0) (aY 0) (hnY 0)) (cwV 0 hts (gk_V (wl_mem 12 rfl) (wl_mem 13 rfl) (wl_mem 14 rfl) (wl_mem 15 rfl) (fun w h => List.mem_cons_of_mem _ (List.mem_append_right _ (List.mem_append_right _ (List.mem_append_right _ (List.mem_append_right _ (List.mem_append_right _ (List.mem_append_right _ (List.mem_append_left _ h)))))))) wkg_c_X2_depth) rfl rfl rfl (by decide +kernel) ⟨Nat.le_of_ble_eq_true rfl, Nat.le_of_ble_eq_true rfl⟩) ⟨fun a U g mk q => by obtain ⟨q0, qP, qK⟩ := q; exact ⟨q0, qP, va_K.moved (u := U) (U := U.calling g mk a) (Vm.Alike.refl U.vm) qK⟩, va_recv hK hPc (ci := 2) (q0 := 0) rfl rfl, fun U hU hW => ⟨rfl, by rw [hU]; exact hPc, va_K.moved hW.alike hK⟩⟩ rfl rfl hl.1 rfl (lv_room (Nat.le_of_ble_eq_true rfl)) dX11_spare_36 ⟨Nat.le_of_ble_eq_true rfl, Nat.le_of_ble_eq_true rfl⟩)) (fun rz27 gz26 => ?_)
          clear hPc
          refine lv_isub hx hb dX11_spare_39 ?_
          refine lv_topi (fun xz28 exz28 => ?_)
          rw [hQ]
          exact W.iret (v := xz28) hx hb hr (fun t ht hW => ⟨xz28, rfl, trivial, ht⟩) (fun _ h => absurd h List.not_mem_nil) dX11_spare_40
        · skip
          have zz29 : p1.toInt = (1 : Int) := zi_eq.mp cz24
          refine W.eq (g2 := F0 m 35 ls [.int 1, .ref (sY 0 1), .int xz21]) (by rw [cz24]) ?_
          refine va_aldq hx hb hK hP 16 4 rfl rfl (by unfold vp_in; decide) dX11_spare_35 ?_
          refine W.eq (g2 := F0 m 36 ls [.ref (sY 0 5), .int xz21]) rfl ?_
          have hPc := hP.sub (ws' := (List.flatten [(wMem (fun i => sY 0 (i + 5)) k (fun i => (nY 0) (i + 1)) (fun i => (aY 0) (i + 2)))])) [20, 21, 22] rfl
          refine vp_callSi (va_Run.run (va_runV (As := []) (rest := [.int xz21]) ⟨hx, hb, hml, hown, hts⟩ (c_X2_depth l dC dI k (fun i => sY 0 (i + 5)) (fun i => (nY 0) (i + 1)) (fun i => (aY 0) (i + 2)) (fun i => (hnY 0) (i + 1))) (cwV 0 hts (gk_V (wl_mem 12 rfl) (wl_mem 13 rfl) (wl_mem 14 rfl) (wl_mem 15 rfl) (fun w h => List.mem_cons_of_mem _ (List.mem_append_right _ (List.mem_append_right _ (List.mem_append_right _ (List.mem_append_right _ (List.mem_append_right _ (List.mem_append_right _ (List.mem_append_left _ h)))))))) wkg_c_X2_depth) rfl rfl rfl (by decide +kernel) ⟨Nat.le_of_ble_eq_true rfl, Nat.le_of_ble_eq_true rfl⟩) ⟨fun a U g mk q => by obtain ⟨q0, qP, qK⟩ := q; exact ⟨q0, qP, va_K.moved (u := U) (U := U.calling g mk a) (Vm.Alike.refl U.vm) qK⟩, va_recv hK hPc (ci := 2) (q0 := 0) rfl rfl, fun U hU hW => ⟨rfl, by rw [hU]; exact hPc, va_K.moved hW.alike hK⟩⟩ rfl rfl hl.1 rfl (lv_room (Nat.le_of_ble_eq_true rfl)) dX11_spare_36 ⟨Nat.le_of_ble_eq_true rfl, Nat.le_of_ble_eq_true rfl⟩)) (fun rz31 gz30 => ?_)
          clear hPc
          refine lv_isub hx hb dX11_spare_39 ?_
          refine lv_topi (fun xz32 exz32 => ?_)
          rw [hQ]
          exact W.iret (v := xz32) hx hb hr (fun t ht hW => ⟨xz32, rfl, trivial, ht⟩) (fun _ h => absurd h List.not_mem_nil) dX11_spare_40
        · skip
          have zz33 : p1.toInt = (2 : Int) := zi_eq.mp cz24
          refine W.eq (g2 := F0 m 35 ls [.int 2, .ref (sY 0 1), .int xz21]) (by rw [cz24]) ?_
          refine va_aldq hx hb hK hP 16 4 rfl rfl (by unfold vp_in; decide) dX11_spare_35 ?_
          refine W.eq (g2 := F0 m 36 ls [.ref (sY 0 8), .int xz21]) rfl ?_
          have hPc := hP.sub (ws' := (List.flatten [(wMem (fun i => sY 0 (i + 8)) k (fun i => (nY 0) (i + 2)) (fun i => (aY 0) (i + 4)))])) [23, 24, 25] rfl
          refine vp_callSi (va_Run.run (va_runV (As := []) (rest := [.int xz21]) ⟨hx, hb, hml, hown, hts⟩ (c_X2_depth l dC dI k (fun i => sY 0 (i + 8)) (fun i => (nY 0) (i + 2)) (fun i => (aY 0) (i + 4)) (fun i => (hnY 0) (i + 2))) (cwV 0 hts (gk_V (wl_mem 12 rfl) (wl_mem 13 rfl) (wl_mem 14 rfl) (wl_mem 15 rfl) (fun w h => List.mem_cons_of_mem _ (List.mem_append_right _ (List.mem_append_right _ (List.mem_append_right _ (List.mem_append_right _ (List.mem_append_right _ (List.mem_append_right _ (List.mem_append_left _ h)))))))) wkg_c_X2_depth) rfl rfl rfl (by decide +kernel) ⟨Nat.le_of_ble_eq_true rfl, Nat.le_of_ble_eq_true rfl⟩) ⟨fun a U g mk q => by obtain ⟨q0, qP, qK⟩ := q; exact ⟨q0, qP, va_K.moved (u := U) (U := U.calling g mk a) (Vm.Alike.refl U.vm) qK⟩, va_recv hK hPc (ci := 2) (q0 := 0) rfl rfl, fun U hU hW => ⟨rfl, by rw [hU]; exact hPc, va_K.moved hW.alike hK⟩⟩ rfl rfl hl.1 rfl (lv_room (Nat.le_of_ble_eq_true rfl)) dX11_spare_36 ⟨Nat.le_of_ble_eq_true rfl, Nat.le_of_ble_eq_true rfl⟩)) (fun rz35 gz34 => ?_)
          clear hPc
          refine lv_isub hx hb dX11_spare_39 ?_
          refine lv_topi (fun xz36 exz36 => ?_)
          rw [hQ]
          exact W.iret (v := xz36) hx hb hr (fun t ht hW => ⟨xz36, rfl, trivial, ht⟩) (fun _ h => absurd h List.not_mem_nil) dX11_spare_40
      · skip
        refine W.eq (g2 := F0 m 31 ls [.ref (sY 1 0), .int xz21]) rfl ?_
        refine va_get (D := (dC, dI)) (ci := 7) (v := .ref (sY 1 1)) (C := RX7) (T := TX7) (N := 9) hx hb hts (fun w h => List.mem_cons_of_mem _ (List.mem_append_right _ (List.mem_append_right _ (List.mem_append_right _ (List.mem_append_right _ (List.mem_append_right _ (List.mem_append_left _ h))))))) hown hK hP 26 rfl rfl 0 (by decide) (hts (.fieldLink RX11 194 "SagMemory$State" "memories" "[LSagMemory$Memory;") (wl_mem 11 rfl)) (fun _ h9 => h9) rfl dX11_spare_31 ?_
        refine lv_iload_n hx hb dX11_spare_34 rfl (lv_at hl 1 rfl) ?_
        rcases (show p1 = 0 ∨ p1 = 1 ∨ p1 = 2 by simp only [zi_eq]; show p1.toInt = 0 ∨ p1.toInt = 1 ∨ p1.toInt = 2; omega) with cz37 | cz37 | cz37
        · skip
          have zz38 : p1.toInt = (0 : Int) := zi_eq.mp cz37
          refine W.eq (g2 := F0 m 35 ls [.int 0, .ref (sY 1 1), .int xz21]) (by rw [cz37]) ?_
          refine va_aldq hx hb hK hP 27 4 rfl rfl (by unfold vp_in; decide) dX11_spare_35 ?_
          refine W.eq (g2 := F0 m 36 ls [.ref (sY 1 2), .int xz21]) rfl ?_
          have hPc := hP.sub (ws' := (List.flatten [(wMem (fun i => sY 1 (i + 2)) k (nY 1) (aY 1))])) [28, 29, 30] rfl
          refine vp_callSi (va_Run.run (va_runV (As := []) (rest := [.int xz21]) ⟨hx, hb, hml, hown, hts⟩ (c_X2_depth l dC dI k (fun i => sY 1 (i + 2)) (nY 1) (aY 1) (hnY 1)) (cwV 0 hts (gk_V (wl_mem 12 rfl) (wl_mem 13 rfl) (wl_mem 14 rfl) (wl_mem 15 rfl) (fun w h => List.mem_cons_of_mem _ (List.mem_append_right _ (List.mem_append_right _ (List.mem_append_right _ (List.mem_append_right _ (List.mem_append_right _ (List.mem_append_right _ (List.mem_append_left _ h)))))))) wkg_c_X2_depth) rfl rfl rfl (by decide +kernel) ⟨Nat.le_of_ble_eq_true rfl, Nat.le_of_ble_eq_true rfl⟩) ⟨fun a U g mk q => by obtain ⟨q0, qP, qK⟩ := q; exact ⟨q0, qP, va_K.moved (u := U) (U := U.calling g mk a) (Vm.Alike.refl U.vm) qK⟩, va_recv hK hPc (ci := 2) (q0 := 0) rfl rfl, fun U hU hW => ⟨rfl, by rw [hU]; exact hPc, va_K.moved hW.alike hK⟩⟩ rfl rfl hl.1 rfl (lv_room (Nat.le_of_ble_eq_true rfl)) dX11_spare_36 ⟨Nat.le_of_ble_eq_true rfl, Nat.le_of_ble_eq_true rfl⟩)) (fun rz40 gz39 => ?_)
          clear hPc
          refine lv_isub hx hb dX11_spare_39 ?_
          refine lv_topi (fun xz41 exz41 => ?_)
          rw [hQ]
          exact W.iret (v := xz41) hx hb hr (fun t ht hW => ⟨xz41, rfl, trivial, ht⟩) (fun _ h => absurd h List.not_mem_nil) dX11_spare_40
        · skip
          have zz42 : p1.toInt = (1 : Int) := zi_eq.mp cz37
          refine W.eq (g2 := F0 m 35 ls [.int 1, .ref (sY 1 1), .int xz21]) (by rw [cz37]) ?_
          refine va_aldq hx hb hK hP 27 4 rfl rfl (by unfold vp_in; decide) dX11_spare_35 ?_
          refine W.eq (g2 := F0 m 36 ls [.ref (sY 1 5), .int xz21]) rfl ?_
          have hPc := hP.sub (ws' := (List.flatten [(wMem (fun i => sY 1 (i + 5)) k (fun i => (nY 1) (i + 1)) (fun i => (aY 1) (i + 2)))])) [31, 32, 33] rfl
          refine vp_callSi (va_Run.run (va_runV (As := []) (rest := [.int xz21]) ⟨hx, hb, hml, hown, hts⟩ (c_X2_depth l dC dI k (fun i => sY 1 (i + 5)) (fun i => (nY 1) (i + 1)) (fun i => (aY 1) (i + 2)) (fun i => (hnY 1) (i + 1))) (cwV 0 hts (gk_V (wl_mem 12 rfl) (wl_mem 13 rfl) (wl_mem 14 rfl) (wl_mem 15 rfl) (fun w h => List.mem_cons_of_mem _ (List.mem_append_right _ (List.mem_append_right _ (List.mem_append_right _ (List.mem_append_right _ (List.mem_append_right _ (List.mem_append_right _ (List.mem_append_left _ h)))))))) wkg_c_X2_depth) rfl rfl rfl (by decide +kernel) ⟨Nat.le_of_ble_eq_true rfl, Nat.le_of_ble_eq_true rfl⟩) ⟨fun a U g mk q => by obtain ⟨q0, qP, qK⟩ := q; exact ⟨q0, qP, va_K.moved (u := U) (U := U.calling g mk a) (Vm.Alike.refl U.vm) qK⟩, va_recv hK hPc (ci := 2) (q0 := 0) rfl rfl, fun U hU hW => ⟨rfl, by rw [hU]; exact hPc, va_K.moved hW.alike hK⟩⟩ rfl rfl hl.1 rfl (lv_room (Nat.le_of_ble_eq_true rfl)) dX11_spare_36 ⟨Nat.le_of_ble_eq_true rfl, Nat.le_of_ble_eq_true rfl⟩)) (fun rz44 gz43 => ?_)
          clear hPc
          refine lv_isub hx hb dX11_spare_39 ?_
          refine lv_topi (fun xz45 exz45 => ?_)
          rw [hQ]
          exact W.iret (v := xz45) hx hb hr (fun t ht hW => ⟨xz45, rfl, trivial, ht⟩) (fun _ h => absurd h List.not_mem_nil) dX11_spare_40
        · skip
          have zz46 : p1.toInt = (2 : Int) := zi_eq.mp cz37
          refine W.eq (g2 := F0 m 35 ls [.int 2, .ref (sY 1 1), .int xz21]) (by rw [cz37]) ?_
          refine va_aldq hx hb hK hP 27 4 rfl rfl (by unfold vp_in; decide) dX11_spare_35 ?_
          refine W.eq (g2 := F0 m 36 ls [.ref (sY 1 8), .int xz21]) rfl ?_
          have hPc := hP.sub (ws' := (List.flatten [(wMem (fun i => sY 1 (i + 8)) k (fun i => (nY 1) (i + 2)) (fun i => (aY 1) (i + 4)))])) [34, 35, 36] rfl
          refine vp_callSi (va_Run.run (va_runV (As := []) (rest := [.int xz21]) ⟨hx, hb, hml, hown, hts⟩ (c_X2_depth l dC dI k (fun i => sY 1 (i + 8)) (fun i => (nY 1) (i + 2)) (fun i => (aY 1) (i + 4)) (fun i => (hnY 1) (i + 2))) (cwV 0 hts (gk_V (wl_mem 12 rfl) (wl_mem 13 rfl) (wl_mem 14 rfl) (wl_mem 15 rfl) (fun w h => List.mem_cons_of_mem _ (List.mem_append_right _ (List.mem_append_right _ (List.mem_append_right _ (List.mem_append_right _ (List.mem_append_right _ (List.mem_append_right _ (List.mem_append_left _ h)))))))) wkg_c_X2_depth) rfl rfl rfl (by decide +kernel) ⟨Nat.le_of_ble_eq_true rfl, Nat.le_of_ble_eq_true rfl⟩) ⟨fun a U g mk q => by obtain ⟨q0, qP, qK⟩ := q; exact ⟨q0, qP, va_K.moved (u := U) (U := U.calling g mk a) (Vm.Alike.refl U.vm) qK⟩, va_recv hK hPc (ci := 2) (q0 := 0) rfl rfl, fun U hU hW => ⟨rfl, by rw [hU]; exact hPc, va_K.moved hW.alike hK⟩⟩ rfl rfl hl.1 rfl (lv_room (Nat.le_of_ble_eq_true rfl)) dX11_spare_36 ⟨Nat.le_of_ble_eq_true rfl, Nat.le_of_ble_eq_true rfl⟩)) (fun rz48 gz47 => ?_)
          clear hPc
          refine lv_isub hx hb dX11_spare_39 ?_
          refine lv_topi (fun xz49 exz49 => ?_)
          rw [hQ]
          exact W.iret (v := xz49) hx hb hr (fun t ht hW => ⟨xz49, rfl, trivial, ht⟩) (fun _ h => absurd h List.not_mem_nil) dX11_spare_40
      · skip
        refine W.eq (g2 := F0 m 31 ls [.ref (sY 2 0), .int xz21]) rfl ?_
        refine va_get (D := (dC, dI)) (ci := 7) (v := .ref (sY 2 1)) (C := RX7) (T := TX7) (N := 9) hx hb hts (fun w h => List.mem_cons_of_mem _ (List.mem_append_right _ (List.mem_append_right _ (List.mem_append_right _ (List.mem_append_right _ (List.mem_append_right _ (List.mem_append_left _ h))))))) hown hK hP 37 rfl rfl 0 (by decide) (hts (.fieldLink RX11 194 "SagMemory$State" "memories" "[LSagMemory$Memory;") (wl_mem 11 rfl)) (fun _ h9 => h9) rfl dX11_spare_31 ?_
        refine lv_iload_n hx hb dX11_spare_34 rfl (lv_at hl 1 rfl) ?_
        rcases (show p1 = 0 ∨ p1 = 1 ∨ p1 = 2 by simp only [zi_eq]; show p1.toInt = 0 ∨ p1.toInt = 1 ∨ p1.toInt = 2; omega) with cz50 | cz50 | cz50
        · skip
          have zz51 : p1.toInt = (0 : Int) := zi_eq.mp cz50
          refine W.eq (g2 := F0 m 35 ls [.int 0, .ref (sY 2 1), .int xz21]) (by rw [cz50]) ?_
          refine va_aldq hx hb hK hP 38 4 rfl rfl (by unfold vp_in; decide) dX11_spare_35 ?_
          refine W.eq (g2 := F0 m 36 ls [.ref (sY 2 2), .int xz21]) rfl ?_
          have hPc := hP.sub (ws' := (List.flatten [(wMem (fun i => sY 2 (i + 2)) k (nY 2) (aY 2))])) [39, 40, 41] rfl
          refine vp_callSi (va_Run.run (va_runV (As := []) (rest := [.int xz21]) ⟨hx, hb, hml, hown, hts⟩ (c_X2_depth l dC dI k (fun i => sY 2 (i + 2)) (nY 2) (aY 2) (hnY 2)) (cwV 0 hts (gk_V (wl_mem 12 rfl) (wl_mem 13 rfl) (wl_mem 14 rfl) (wl_mem 15 rfl) (fun w h => List.mem_cons_of_mem _ (List.mem_append_right _ (List.mem_append_right _ (List.mem_append_right _ (List.mem_append_right _ (List.mem_append_right _ (List.mem_append_right _ (List.mem_append_left _ h)))))))) wkg_c_X2_depth) rfl rfl rfl (by decide +kernel) ⟨Nat.le_of_ble_eq_true rfl, Nat.le_of_ble_eq_true rfl⟩) ⟨fun a U g mk q => by obtain ⟨q0, qP, qK⟩ := q; exact ⟨q0, qP, va_K.moved (u := U) (U := U.calling g mk a) (Vm.Alike.refl U.vm) qK⟩, va_recv hK hPc (ci := 2) (q0 := 0) rfl rfl, fun U hU hW => ⟨rfl, by rw [hU]; exact hPc, va_K.moved hW.alike hK⟩⟩ rfl rfl hl.1 rfl (lv_room (Nat.le_of_ble_eq_true rfl)) dX11_spare_36 ⟨Nat.le_of_ble_eq_true rfl, Nat.le_of_ble_eq_true rfl⟩)) (fun rz53 gz52 => ?_)
          clear hPc
          refine lv_isub hx hb dX11_spare_39 ?_
          refine lv_topi (fun xz54 exz54 => ?_)
          rw [hQ]
          exact W.iret (v := xz54) hx hb hr (fun t ht hW => ⟨xz54, rfl, trivial, ht⟩) (fun _ h => absurd h List.not_mem_nil) dX11_spare_40
        · skip
          have zz55 : p1.toInt = (1 : Int) := zi_eq.mp cz50
          refine W.eq (g2 := F0 m 35 ls [.int 1, .ref (sY 2 1), .int xz21]) (by rw [cz50]) ?_
          refine va_aldq hx hb hK hP 38 4 rfl rfl (by unfold vp_in; decide) dX11_spare_35 ?_
          refine W.eq (g2 := F0 m 36 ls [.ref (sY 2 5), .int xz21]) rfl ?_
          have hPc := hP.sub (ws' := (List.flatten [(wMem (fun i => sY 2 (i + 5)) k (fun i => (nY 2) (i + 1)) (fun i => (aY 2) (i + 2)))])) [42, 43, 44] rfl
          refine vp_callSi (va_Run.run (va_runV (As := []) (rest := [.int xz21]) ⟨hx, hb, hml, hown, hts⟩ (c_X2_depth l dC dI k (fun i => sY 2 (i + 5)) (fun i => (nY 2) (i + 1)) (fun i => (aY 2) (i + 2)) (fun i => (hnY 2) (i + 1))) (cwV 0 hts (gk_V (wl_mem 12 rfl) (wl_mem 13 rfl) (wl_mem 14 rfl) (wl_mem 15 rfl) (fun w h => List.mem_cons_of_mem _ (List.mem_append_right _ (List.mem_append_right _ (List.mem_append_right _ (List.mem_append_right _ (List.mem_append_right _ (List.mem_append_right _ (List.mem_append_left _ h)))))))) wkg_c_X2_depth) rfl rfl rfl (by decide +kernel) ⟨Nat.le_of_ble_eq_true rfl, Nat.le_of_ble_eq_true rfl⟩) ⟨fun a U g mk q => by obtain ⟨q0, qP, qK⟩ := q; exact ⟨q0, qP, va_K.moved (u := U) (U := U.calling g mk a) (Vm.Alike.refl U.vm) qK⟩, va_recv hK hPc (ci := 2) (q0 := 0) rfl rfl, fun U hU hW => ⟨rfl, by rw [hU]; exact hPc, va_K.moved hW.alike hK⟩⟩ rfl rfl hl.1 rfl (lv_room (Nat.le_of_ble_eq_true rfl)) dX11_spare_36 ⟨Nat.le_of_ble_eq_true rfl, Nat.le_of_ble_eq_true rfl⟩)) (fun rz57 gz56 => ?_)
          clear hPc
          refine lv_isub hx hb dX11_spare_39 ?_
          refine lv_topi (fun xz58 exz58 => ?_)
          rw [hQ]
          exact W.iret (v := xz58) hx hb hr (fun t ht hW => ⟨xz58, rfl, trivial, ht⟩) (fun _ h => absurd h List.not_mem_nil) dX11_spare_40
        · skip
          have zz59 : p1.toInt = (2 : Int) := zi_eq.mp cz50
          refine W.eq (g2 := F0 m 35 ls [.int 2, .ref (sY 2 1), .int xz21]) (by rw [cz50]) ?_
          refine va_aldq hx hb hK hP 38 4 rfl rfl (by unfold vp_in; decide) dX11_spare_35 ?_
          refine W.eq (g2 := F0 m 36 ls [.ref (sY 2 8), .int xz21]) rfl ?_
          have hPc := hP.sub (ws' := (List.flatten [(wMem (fun i => sY 2 (i + 8)) k (fun i => (nY 2) (i + 2)) (fun i => (aY 2) (i + 4)))])) [45, 46, 47] rfl
          refine vp_callSi (va_Run.run (va_runV (As := []) (rest := [.int xz21]) ⟨hx, hb, hml, hown, hts⟩ (c_X2_depth l dC dI k (fun i => sY 2 (i + 8)) (fun i => (nY 2) (i + 2)) (fun i => (aY 2) (i + 4)) (fun i => (hnY 2) (i + 2))) (cwV 0 hts (gk_V (wl_mem 12 rfl) (wl_mem 13 rfl) (wl_mem 14 rfl) (wl_mem 15 rfl) (fun w h => List.mem_cons_of_mem _ (List.mem_append_right _ (List.mem_append_right _ (List.mem_append_right _ (List.mem_append_right _ (List.mem_append_right _ (List.mem_append_right _ (List.mem_append_left _ h)))))))) wkg_c_X2_depth) rfl rfl rfl (by decide +kernel) ⟨Nat.le_of_ble_eq_true rfl, Nat.le_of_ble_eq_true rfl⟩) ⟨fun a U g mk q => by obtain ⟨q0, qP, qK⟩ := q; exact ⟨q0, qP, va_K.moved (u := U) (U := U.calling g mk a) (Vm.Alike.refl U.vm) qK⟩, va_recv hK hPc (ci := 2) (q0 := 0) rfl rfl, fun U hU hW => ⟨rfl, by rw [hU]; exact hPc, va_K.moved hW.alike hK⟩⟩ rfl rfl hl.1 rfl (lv_room (Nat.le_of_ble_eq_true rfl)) dX11_spare_36 ⟨Nat.le_of_ble_eq_true rfl, Nat.le_of_ble_eq_true rfl⟩)) (fun rz61 gz60 => ?_)
          clear hPc
          refine lv_isub hx hb dX11_spare_39 ?_
          refine lv_topi (fun xz62 exz62 => ?_)
          rw [hQ]
          exact W.iret (v := xz62) hx hb hr (fun t ht hW => ⟨xz62, rfl, trivial, ht⟩) (fun _ h => absurd h List.not_mem_nil) dX11_spare_40
      · skip
        refine W.eq (g2 := F0 m 31 ls [.ref (sY 3 0), .int xz21]) rfl ?_
        refine va_get (D := (dC, dI)) (ci := 7) (v := .ref (sY 3 1)) (C := RX7) (T := TX7) (N := 9) hx hb hts (fun w h => List.mem_cons_of_mem _ (List.mem_append_right _ (List.mem_append_right _ (List.mem_append_right _ (List.mem_append_right _ (List.mem_append_right _ (List.mem_append_left _ h))))))) hown hK hP 48 rfl rfl 0 (by decide) (hts (.fieldLink RX11 194 "SagMemory$State" "memories" "[LSagMemory$Memory;") (wl_mem 11 rfl)) (fun _ h9 => h9) rfl dX11_spare_31 ?_
        refine lv_iload_n hx hb dX11_spare_34 rfl (lv_at hl 1 rfl) ?_
        rcases (show p1 = 0 ∨ p1 = 1 ∨ p1 = 2 by simp only [zi_eq]; show p1.toInt = 0 ∨ p1.toInt = 1 ∨ p1.toInt = 2; omega) with cz63 | cz63 | cz63
        · skip
          have zz64 : p1.toInt = (0 : Int) := zi_eq.mp cz63
          refine W.eq (g2 := F0 m 35 ls [.int 0, .ref (sY 3 1), .int xz21]) (by rw [cz63]) ?_
          refine va_aldq hx hb hK hP 49 4 rfl rfl (by unfold vp_in; decide) dX11_spare_35 ?_
          refine W.eq (g2 := F0 m 36 ls [.ref (sY 3 2), .int xz21]) rfl ?_
          have hPc := hP.sub (ws' := (List.flatten [(wMem (fun i => sY 3 (i + 2)) k (nY 3) (aY 3))])) [50, 51, 52] rfl
          refine vp_callSi (va_Run.run (va_runV (As := []) (rest := [.int xz21]) ⟨hx, hb, hml, hown, hts⟩ (c_X2_depth l dC dI k (fun i => sY 3 (i + 2)) (nY 3) (aY 3) (hnY 3)) (cwV 0 hts (gk_V (wl_mem 12 rfl) (wl_mem 13 rfl) (wl_mem 14 rfl) (wl_mem 15 rfl) (fun w h => List.mem_cons_of_mem _ (List.mem_append_right _ (List.mem_append_right _ (List.mem_append_right _ (List.mem_append_right _ (List.mem_append_right _ (List.mem_append_right _ (List.mem_append_left _ h)))))))) wkg_c_X2_depth) rfl rfl rfl (by decide +kernel) ⟨Nat.le_of_ble_eq_true rfl, Nat.le_of_ble_eq_true rfl⟩) ⟨fun a U g mk q => by obtain ⟨q0, qP, qK⟩ := q; exact ⟨q0, qP, va_K.moved (u := U) (U := U.calling g mk a) (Vm.Alike.refl U.vm) qK⟩, va_recv hK hPc (ci := 2) (q0 := 0) rfl rfl, fun U hU hW => ⟨rfl, by rw [hU]; exact hPc, va_K.moved hW.alike hK⟩⟩ rfl rfl hl.1 rfl (lv_room (Nat.le_of_ble_eq_true rfl)) dX11_spare_36 ⟨Nat.le_of_ble_eq_true rfl, Nat.le_of_ble_eq_true rfl⟩)) (fun rz66 gz65 => ?_)
          clear hPc
          refine lv_isub hx hb dX11_spare_39 ?_
          refine lv_topi (fun xz67 exz67 => ?_)
          rw [hQ]
          exact W.iret (v := xz67) hx hb hr (fun t ht hW => ⟨xz67, rfl, trivial, ht⟩) (fun _ h => absurd h List.not_mem_nil) dX11_spare_40
        · skip
          have zz68 : p1.toInt = (1 : Int) := zi_eq.mp cz63
          refine W.eq (g2 := F0 m 35 ls [.int 1, .ref (sY 3 1), .int xz21]) (by rw [cz63]) ?_
          refine va_aldq hx hb hK hP 49 4 rfl rfl (by unfold vp_in; decide) dX11_spare_35 ?_
          refine W.eq (g2 := F0 m 36 ls [.ref (sY 3 5), .int xz21]) rfl ?_
          have hPc := hP.sub (ws' := (List.flatten [(wMem (fun i => sY 3 (i + 5)) k (fun i => (nY 3) (i + 1)) (fun i => (aY 3) (i + 2)))])) [53, 54, 55] rfl
          refine vp_callSi (va_Run.run (va_runV (As := []) (rest := [.int xz21]) ⟨hx, hb, hml, hown, hts⟩ (c_X2_depth l dC dI k (fun i => sY 3 (i + 5)) (fun i => (nY 3) (i + 1)) (fun i => (aY 3) (i + 2)) (fun i => (hnY 3) (i + 1))) (cwV 0 hts (gk_V (wl_mem 12 rfl) (wl_mem 13 rfl) (wl_mem 14 rfl) (wl_mem 15 rfl) (fun w h => List.mem_cons_of_mem _ (List.mem_append_right _ (List.mem_append_right _ (List.mem_append_right _ (List.mem_append_right _ (List.mem_append_right _ (List.mem_append_right _ (List.mem_append_left _ h)))))))) wkg_c_X2_depth) rfl rfl rfl (by decide +kernel) ⟨Nat.le_of_ble_eq_true rfl, Nat.le_of_ble_eq_true rfl⟩) ⟨fun a U g mk q => by obtain ⟨q0, qP, qK⟩ := q; exact ⟨q0, qP, va_K.moved (u := U) (U := U.calling g mk a) (Vm.Alike.refl U.vm) qK⟩, va_recv hK hPc (ci := 2) (q0 := 0) rfl rfl, fun U hU hW => ⟨rfl, by rw [hU]; exact hPc, va_K.moved hW.alike hK⟩⟩ rfl rfl hl.1 rfl (lv_room (Nat.le_of_ble_eq_true rfl)) dX11_spare_36 ⟨Nat.le_of_ble_eq_true rfl, Nat.le_of_ble_eq_true rfl⟩)) (fun rz70 gz69 => ?_)
          clear hPc
          refine lv_isub hx hb dX11_spare_39 ?_
          refine lv_topi (fun xz71 exz71 => ?_)
          rw [hQ]
          exact W.iret (v := xz71) hx hb hr (fun t ht hW => ⟨xz71, rfl, trivial, ht⟩) (fun _ h => absurd h List.not_mem_nil) dX11_spare_40
        · skip
          have zz72 : p1.toInt = (2 : Int) := zi_eq.mp cz63
          refine W.eq (g2 := F0 m 35 ls [.int 2, .ref (sY 3 1), .int xz21]) (by rw [cz63]) ?_
          refine va_aldq hx hb hK hP 49 4 rfl rfl (by unfold vp_in; decide) dX11_spare_35 ?_
          refine W.eq (g2 := F0 m 36 ls [.ref (sY 3 8), .int xz21]) rfl ?_
          have hPc := hP.sub (ws' := (List.flatten [(wMem (fun i => sY 3 (i + 8)) k (fun i => (nY 3) (i + 2)) (fun i => (aY 3) (i + 4)))])) [56, 57, 58] rfl
          refine vp_callSi (va_Run.run (va_runV (As := []) (rest := [.int xz21]) ⟨hx, hb, hml, hown, hts⟩ (c_X2_depth l dC dI k (fun i => sY 3 (i + 8)) (fun i => (nY 3) (i + 2)) (fun i => (aY 3) (i + 4)) (fun i => (hnY 3) (i + 2))) (cwV 0 hts (gk_V (wl_mem 12 rfl) (wl_mem 13 rfl) (wl_mem 14 rfl) (wl_mem 15 rfl) (fun w h => List.mem_cons_of_mem _ (List.mem_append_right _ (List.mem_append_right _ (List.mem_append_right _ (List.mem_append_right _ (List.mem_append_right _ (List.mem_append_right _ (List.mem_append_left _ h)))))))) wkg_c_X2_depth) rfl rfl rfl (by decide +kernel) ⟨Nat.le_of_ble_eq_true rfl, Nat.le_of_ble_eq_true rfl⟩) ⟨fun a U g mk q => by obtain ⟨q0, qP, qK⟩ := q; exact ⟨q0, qP, va_K.moved (u := U) (U := U.calling g mk a) (Vm.Alike.refl U.vm) qK⟩, va_recv hK hPc (ci := 2) (q0 := 0) rfl rfl, fun U hU hW => ⟨rfl, by rw [hU]; exact hPc, va_K.moved hW.alike hK⟩⟩ rfl rfl hl.1 rfl (lv_room (Nat.le_of_ble_eq_true rfl)) dX11_spare_36 ⟨Nat.le_of_ble_eq_true rfl, Nat.le_of_ble_eq_true rfl⟩)) (fun rz74 gz73 => ?_)
          clear hPc
          refine lv_isub hx hb dX11_spare_39 ?_
          refine lv_topi (fun xz75 exz75 => ?_)
          rw [hQ]
          exact W.iret (v := xz75) hx hb hr (fun t ht hW => ⟨xz75, rfl, trivial, ht⟩) (fun _ h => absurd h List.not_mem_nil) dX11_spare_40
      · skip
        refine W.eq (g2 := F0 m 31 ls [.ref (sY 4 0), .int xz21]) rfl ?_
        refine va_get (D := (dC, dI)) (ci := 7) (v := .ref (sY 4 1)) (C := RX7) (T := TX7) (N := 9) hx hb hts (fun w h => List.mem_cons_of_mem _ (List.mem_append_right _ (List.mem_append_right _ (List.mem_append_right _ (List.mem_append_right _ (List.mem_append_right _ (List.mem_append_left _ h))))))) hown hK hP 59 rfl rfl 0 (by decide) (hts (.fieldLink RX11 194 "SagMemory$State" "memories" "[LSagMemory$Memory;") (wl_mem 11 rfl)) (fun _ h9 => h9) rfl dX11_spare_31 ?_
        refine lv_iload_n hx hb dX11_spare_34 rfl (lv_at hl 1 rfl) ?_
        rcases (show p1 = 0 ∨ p1 = 1 ∨ p1 = 2 by simp only [zi_eq]; show p1.toInt = 0 ∨ p1.toInt = 1 ∨ p1.toInt = 2; omega) with cz76 | cz76 | cz76
        · skip
          have zz77 : p1.toInt = (0 : Int) := zi_eq.mp cz76
          refine W.eq (g2 := F0 m 35 ls [.int 0, .ref (sY 4 1), .int xz21]) (by rw [cz76]) ?_
          refine va_aldq hx hb hK hP 60 4 rfl rfl (by unfold vp_in; decide) dX11_spare_35 ?_
          refine W.eq (g2 := F0 m 36 ls [.ref (sY 4 2), .int xz21]) rfl ?_
          have hPc := hP.sub (ws' := (List.flatten [(wMem (fun i => sY 4 (i + 2)) k (nY 4) (aY 4))])) [61, 62, 63] rfl
          refine vp_callSi (va_Run.run (va_runV (As := []) (rest := [.int xz21]) ⟨hx, hb, hml, hown, hts⟩ (c_X2_depth l dC dI k (fun i => sY 4 (i + 2)) (nY 4) (aY 4) (hnY 4)) (cwV 0 hts (gk_V (wl_mem 12 rfl) (wl_mem 13 rfl) (wl_mem 14 rfl) (wl_mem 15 rfl) (fun w h => List.mem_cons_of_mem _ (List.mem_append_right _ (List.mem_append_right _ (List.mem_append_right _ (List.mem_append_right _ (List.mem_append_right _ (List.mem_append_right _ (List.mem_append_left _ h)))))))) wkg_c_X2_depth) rfl rfl rfl (by decide +kernel) ⟨Nat.le_of_ble_eq_true rfl, Nat.le_of_ble_eq_true rfl⟩) ⟨fun a U g mk q => by obtain ⟨q0, qP, qK⟩ := q; exact ⟨q0, qP, va_K.moved (u := U) (U := U.calling g mk a) (Vm.Alike.refl U.vm) qK⟩, va_recv hK hPc (ci := 2) (q0 := 0) rfl rfl, fun U hU hW => ⟨rfl, by rw [hU]; exact hPc, va_K.moved hW.alike hK⟩⟩ rfl rfl hl.1 rfl (lv_room (Nat.le_of_ble_eq_true rfl)) dX11_spare_36 ⟨Nat.le_of_ble_eq_true rfl, Nat.le_of_ble_eq_true rfl⟩)) (fun rz79 gz78 => ?_)
          clear hPc
          refine lv_isub hx hb dX11_spare_39 ?_
          refine lv_topi (fun xz80 exz80 => ?_)
          rw [hQ]
          exact W.iret (v := xz80) hx hb hr (fun t ht hW => ⟨xz80, rfl, trivial, ht⟩) (fun _ h => absurd h List.not_mem_nil) dX11_spare_40
        · skip
          have zz81 : p1.toInt = (1 : Int) := zi_eq.mp cz76
          refine W.eq (g2 := F0 m 35 ls [.int 1, .ref (sY 4 1), .int xz21]) (by rw [cz76]) ?_
          refine va_aldq hx hb hK hP 60 4 rfl rfl (by unfold vp_in; decide) dX11_spare_35 ?_
          refine W.eq (g2 := F0 m 36 ls [.ref (sY 4 5), .int xz21]) rfl ?_
          have hPc := hP.sub (ws' := (List.flatten [(wMem (fun i => sY 4 (i + 5)) k (fun i => (nY 4) (i + 1)) (fun i => (aY 4) (i + 2)))])) [64, 65, 66] rfl
          refine vp_callSi (va_Run.run (va_runV (As := []) (rest := [.int xz21]) ⟨hx, hb, hml, hown, hts⟩ (c_X2_depth l dC dI k (fun i => sY 4 (i + 5)) (fun i => (nY 4) (i + 1)) (fun i => (aY 4) (i + 2)) (fun i => (hnY 4) (i + 1))) (cwV 0 hts (gk_V (wl_mem 12 rfl) (wl_mem 13 rfl) (wl_mem 14 rfl) (wl_mem 15 rfl) (fun w h => List.mem_cons_of_mem _ (List.mem_append_right _ (List.mem_append_right _ (List.mem_append_right _ (List.mem_append_right _ (List.mem_append_right _ (List.mem_append_right _ (List.mem_append_left _ h)))))))) wkg_c_X2_depth) rfl rfl rfl (by decide +kernel) ⟨Nat.le_of_ble_eq_true rfl, Nat.le_of_ble_eq_true rfl⟩) ⟨fun a U g mk q => by obtain ⟨q0, qP, qK⟩ := q; exact ⟨q0, qP, va_K.moved (u := U) (U := U.calling g mk a) (Vm.Alike.refl U.vm) qK⟩, va_recv hK hPc (ci := 2) (q0 := 0) rfl rfl, fun U hU hW => ⟨rfl, by rw [hU]; exact hPc, va_K.moved hW.alike hK⟩⟩ rfl rfl hl.1 rfl (lv_room (Nat.le_of_ble_eq_true rfl)) dX11_spare_36 ⟨Nat.le_of_ble_eq_true rfl, Nat.le_of_ble_eq_true rfl⟩)) (fun rz83 gz82 => ?_)
          clear hPc
          refine lv_isub hx hb dX11_spare_39 ?_
          refine lv_topi (fun xz84 exz84 => ?_)
          rw [hQ]
          exact W.iret (v := xz84) hx hb hr (fun t ht hW => ⟨xz84, rfl, trivial, ht⟩) (fun _ h => absurd h List.not_mem_nil) dX11_spare_40
        · skip
          have zz85 : p1.toInt = (2 : Int) := zi_eq.mp cz76
          refine W.eq (g2 := F0 m 35 ls [.int 2, .ref (sY 4 1), .int xz21]) (by rw [cz76]) ?_
          refine va_aldq hx hb hK hP 60 4 rfl rfl (by unfold vp_in; decide) dX11_spare_35 ?_
          refine W.eq (g2 := F0 m 36 ls [.ref (sY 4 8), .int xz21]) rfl ?_
          have hPc := hP.sub (ws' := (List.flatten [(wMem (fun i => sY 4 (i + 8)) k (fun i => (nY 4) (i + 2)) (fun i => (aY 4) (i + 4)))])) [67, 68, 69] rfl
          refine vp_callSi (va_Run.run (va_runV (As := []) (rest := [.int xz21]) ⟨hx, hb, hml, hown, hts⟩ (c_X2_depth l dC dI k (fun i => sY 4 (i + 8)) (fun i => (nY 4) (i + 2)) (fun i => (aY 4) (i + 4)) (fun i => (hnY 4) (i + 2))) (cwV 0 hts (gk_V (wl_mem 12 rfl) (wl_mem 13 rfl) (wl_mem 14 rfl) (wl_mem 15 rfl) (fun w h => List.mem_cons_of_mem _ (List.mem_append_right _ (List.mem_append_right _ (List.mem_append_right _ (List.mem_append_right _ (List.mem_append_right _ (List.mem_append_right _ (List.mem_append_left _ h)))))))) wkg_c_X2_depth) rfl rfl rfl (by decide +kernel) ⟨Nat.le_of_ble_eq_true rfl, Nat.le_of_ble_eq_true rfl⟩) ⟨fun a U g mk q => by obtain ⟨q0, qP, qK⟩ := q; exact ⟨q0, qP, va_K.moved (u := U) (U := U.calling g mk a) (Vm.Alike.refl U.vm) qK⟩, va_recv hK hPc (ci := 2) (q0 := 0) rfl rfl, fun U hU hW => ⟨rfl, by rw [hU]; exact hPc, va_K.moved hW.alike hK⟩⟩ rfl rfl hl.1 rfl (lv_room (Nat.le_of_ble_eq_true rfl)) dX11_spare_36 ⟨Nat.le_of_ble_eq_true rfl, Nat.le_of_ble_eq_true rfl⟩)) (fun rz87 gz86 => ?_)
          clear hPc
          refine lv_isub hx hb dX11_spare_39 ?_
          refine lv_topi (fun xz88 exz88 => ?_)
          rw [hQ]
          exact W.iret (v := xz88) hx hb hr (fun t ht hW => ⟨xz88, rfl, trivial, ht⟩) (fun _ h => absurd h List.not_mem_nil) dX11_spare_40
      · skip
        refine W.eq (g2 := F0 m 31 ls [.ref (sY 5 0), .int xz21]) rfl ?_
        refine va_get (D := (dC, dI)) (ci := 7) (v := .ref (sY 5 1)) (C := RX7) (T := TX7) (N := 9) hx hb hts (fun w h => List.mem_cons_of_mem _ (List.mem_append_right _ (List.mem_append_right _ (List.mem_append_right _ (List.mem_append_right _ (List.mem_append_right _ (List.mem_append_left _ h))))))) hown hK hP 70 rfl rfl 0 (by decide) (hts (.fieldLink RX11 194 "SagMemory$State" "memories" "[LSagMemory$Memory;") (wl_mem 11 rfl)) (fun _ h9 => h9) rfl dX11_spare_31 ?_
        refine lv_iload_n hx hb dX11_spare_34 rfl (lv_at hl 1 rfl) ?_
        rcases (show p1 = 0 ∨ p1 = 1 ∨ p1 = 2 by simp only [zi_eq]; show p1.toInt = 0 ∨ p1.toInt = 1 ∨ p1.toInt = 2; omega) with cz89 | cz89 | cz89
        · skip
          have zz90 : p1.toInt = (0 : Int) := zi_eq.mp cz89
          refine W.eq (g2 := F0 m 35 ls [.int 0, .ref (sY 5 1), .int xz21]) (by rw [cz89]) ?_
          refine va_aldq hx hb hK hP 71 4 rfl rfl (by unfold vp_in; decide) dX11_spare_35 ?_
          refine W.eq (g2 := F0 m 36 ls [.ref (sY 5 2), .int xz21]) rfl ?_
          have hPc := hP.sub (ws' := (List.flatten [(wMem (fun i => sY 5 (i + 2)) k (nY 5) (aY 5))])) [72, 73, 74] rfl
          refine vp_callSi (va_Run.run (va_runV (As := []) (rest := [.int xz21]) ⟨hx, hb, hml, hown, hts⟩ (c_X2_depth l dC dI k (fun i => sY 5 (i + 2)) (nY 5) (aY 5) (hnY 5)) (cwV 0 hts (gk_V (wl_mem 12 rfl) (wl_mem 13 rfl) (wl_mem 14 rfl) (wl_mem 15 rfl) (fun w h => List.mem_cons_of_mem _ (List.mem_append_right _ (List.mem_append_right _ (List.mem_append_right _ (List.mem_append_right _ (List.mem_append_right _ (List.mem_append_right _ (List.mem_append_left _ h)))))))) wkg_c_X2_depth) rfl rfl rfl (by decide +kernel) ⟨Nat.le_of_ble_eq_true rfl, Nat.le_of_ble_eq_true rfl⟩) ⟨fun a U g mk q => by obtain ⟨q0, qP, qK⟩ := q; exact ⟨q0, qP, va_K.moved (u := U) (U := U.calling g mk a) (Vm.Alike.refl U.vm) qK⟩, va_recv hK hPc (ci := 2) (q0 := 0) rfl rfl, fun U hU hW => ⟨rfl, by rw [hU]; exact hPc, va_K.moved hW.alike hK⟩⟩ rfl rfl hl.1 rfl (lv_room (Nat.le_of_ble_eq_true rfl)) dX11_spare_36 ⟨Nat.le_of_ble_eq_true rfl, Nat.le_of_ble_eq_true rfl⟩)) (fun rz92 gz91 => ?_)
          clear hPc
          refine lv_isub hx hb dX11_spare_39 ?_
          refine lv_topi (fun xz93 exz93 => ?_)
          rw [hQ]
          exact W.iret (v := xz93) hx hb hr (fun t ht hW => ⟨xz93, rfl, trivial, ht⟩) (fun _ h => absurd h List.not_mem_nil) dX11_spare_40
        · skip
          have zz94 : p1.toInt = (1 : Int) := zi_eq.mp cz89
          refine W.eq (g2 := F0 m 35 ls [.int 1, .ref (sY 5 1), .int xz21]) (by rw [cz89]) ?_
          refine va_aldq hx hb hK hP 71 4 rfl rfl (by unfold vp_in; decide) dX11_spare_35 ?_
          refine W.eq (g2 := F0 m 36 ls [.ref (sY 5 5), .int xz21]) rfl ?_
          have hPc := hP.sub (ws' := (List.flatten [(wMem (fun i => sY 5 (i + 5)) k (fun i => (nY 5) (i + 1)) (fun i => (aY 5) (i + 2)))])) [75, 76, 77] rfl
          refine vp_callSi (va_Run.run (va_runV (As := []) (rest := [.int xz21]) ⟨hx, hb, hml, hown, hts⟩ (c_X2_depth l dC dI k (fun i => sY 5 (i + 5)) (fun i => (nY 5) (i + 1)) (fun i => (aY 5) (i + 2)) (fun i => (hnY 5) (i + 1))) (cwV 0 hts (gk_V (wl_mem 12 rfl) (wl_mem 13 rfl) (wl_mem 14 rfl) (wl_mem 15 rfl) (fun w h => List.mem_cons_of_mem _ (List.mem_append_right _ (List.mem_append_right _ (List.mem_append_right _ (List.mem_append_right _ (List.mem_append_right _ (List.mem_append_right _ (List.mem_append_left _ h)))))))) wkg_c_X2_depth) rfl rfl rfl (by decide +kernel) ⟨Nat.le_of_ble_eq_true rfl, Nat.le_of_ble_eq_true rfl⟩) ⟨fun a U g mk q => by obtain ⟨q0, qP, qK⟩ := q; exact ⟨q0, qP, va_K.moved (u := U) (U := U.calling g mk a) (Vm.Alike.refl U.vm) qK⟩, va_recv hK hPc (ci := 2) (q0 := 0) rfl rfl, fun U hU hW => ⟨rfl, by rw [hU]; exact hPc, va_K.moved hW.alike hK⟩⟩ rfl rfl hl.1 rfl (lv_room (Nat.le_of_ble_eq_true rfl)) dX11_spare_36 ⟨Nat.le_of_ble_eq_true rfl, Nat.le_of_ble_eq_true rfl⟩)) (fun rz96 gz95 => ?_)
          clear hPc
          refine lv_isub hx hb dX11_spare_39 ?_
          refine lv_topi (fun xz97 exz97 => ?_)
          rw [hQ]
          exact W.iret (v := xz97) hx hb hr (fun t ht hW => ⟨xz97, rfl, trivial, ht⟩) (fun _ h => absurd h List.not_mem_nil) dX11_spare_40
        · skip
          have zz98 : p1.toInt = (2 : Int) := zi_eq.mp cz89
          refine W.eq (g2 := F0 m 35 ls [.int 2, .ref (sY 5 1), .int xz21]) (by rw [cz89]) ?_
          refine va_aldq hx hb hK hP 71 4 rfl rfl (by unfold vp_in; decide) dX11_spare_35 ?_
          refine W.eq (g2 := F0 m 36 ls [.ref (sY 5 8), .int xz21]) rfl ?_
          have hPc := hP.sub (ws' := (List.flatten [(wMem (fun i => sY 5 (i + 8)) k (fun i => (nY 5) (i + 2)) (fun i => (aY 5) (i + 4)))])) [78, 79, 80] rfl
          refine vp_callSi (va_Run.run (va_runV (As := []) (rest := [.int xz21]) ⟨hx, hb, hml, hown, hts⟩ (c_X2_depth l dC dI k (fun i => sY 5 (i + 8)) (fun i => (nY 5) (i + 2)) (fun i => (aY 5) (i + 4)) (fun i => (hnY 5) (i + 2))) (cwV 0 hts (gk_V (wl_mem 12 rfl) (wl_mem 13 rfl) (wl_mem 14 rfl) (wl_mem 15 rfl) (fun w h => List.mem_cons_of_mem _ (List.mem_append_right _ (List.mem_append_right _ (List.mem_append_right _ (List.mem_append_right _ (List.mem_append_right _ (List.mem_append_right _ (List.mem_append_left _ h)))))))) wkg_c_X2_depth) rfl rfl rfl (by decide +kernel) ⟨Nat.le_of_ble_eq_true rfl, Nat.le_of_ble_eq_true rfl⟩) ⟨fun a U g mk q => by obtain ⟨q0, qP, qK⟩ := q; exact ⟨q0, qP, va_K.moved (u := U) (U := U.calling g mk a) (Vm.Alike.refl U.vm) qK⟩, va_recv hK hPc (ci := 2) (q0 := 0) rfl rfl, fun U hU hW => ⟨rfl, by rw [hU]; exact hPc, va_K.moved hW.alike hK⟩⟩ rfl rfl hl.1 rfl (lv_room (Nat.le_of_ble_eq_true rfl)) dX11_spare_36 ⟨Nat.le_of_ble_eq_true rfl, Nat.le_of_ble_eq_true rfl⟩)) (fun rz100 gz99 => ?_)
          clear hPc
          refine lv_isub hx hb dX11_spare_39 ?_
          refine lv_topi (fun xz101 exz101 => ?_)
          rw [hQ]
          exact W.iret (v := xz101) hx hb hr (fun t ht hW => ⟨xz101, rfl, trivial, ht⟩) (fun _ h => absurd h List.not_mem_nil) dX11_spare_40
      · skip
        refine W.eq (g2 := F0 m 31 ls [.ref (sY 6 0), .int xz21]) rfl ?_
        refine va_get (D := (dC, dI)) (ci := 7) (v := .ref (sY 6 1)) (C := RX7) (T := TX7) (N := 9) hx hb hts (fun w h => List.mem_cons_of_mem _ (List.mem_append_right _ (List.mem_append_right _ (List.mem_append_right _ (List.mem_append_right _ (List.mem_append_right _ (List.mem_append_left _ h))))))) hown hK hP 81 rfl rfl 0 (by decide) (hts (.fieldLink RX11 194 "SagMemory$State" "memories" "[LSagMemory$Memory;") (wl_mem 11 rfl)) (fun _ h9 => h9) rfl dX11_spare_31 ?_
        refine lv_iload_n hx hb dX11_spare_34 rfl (lv_at hl 1 rfl) ?_
        rcases (show p1 = 0 ∨ p1 = 1 ∨ p1 = 2 by simp only [zi_eq]; show p1.toInt = 0 ∨ p1.toInt = 1 ∨ p1.toInt = 2; omega) with cz102 | cz102 | cz102
        · skip
          have zz103 : p1.toInt = (0 : Int) := zi_eq.mp cz102
          refine W.eq (g2 := F0 m 35 ls [.int 0, .ref (sY 6 1), .int xz21]) (by rw [cz102]) ?_
          refine va_aldq hx hb hK hP 82 4 rfl rfl (by unfold vp_in; decide) dX11_spare_35 ?_
          refine W.eq (g2 := F0 m 36 ls [.ref (sY 6 2), .int xz21]) rfl ?_
          have hPc := hP.sub (ws' := (List.flatten [(wMem (fun i => sY 6 (i + 2)) k (nY 6) (aY 6))])) [83, 84, 85] rfl
          refine vp_callSi (va_Run.run (va_runV (As := []) (rest := [.int xz21]) ⟨hx, hb, hml, hown, hts⟩ (c_X2_depth l dC dI k (fun i => sY 6 (i + 2)) (nY 6) (aY 6) (hnY 6)) (cwV 0 hts (gk_V (wl_mem 12 rfl) (wl_mem 13 rfl) (wl_mem 14 rfl) (wl_mem 15 rfl) (fun w h => List.mem_cons_of_mem _ (List.mem_append_right _ (List.mem_append_right _ (List.mem_append_right _ (List.mem_append_right _ (List.mem_append_right _ (List.mem_append_right _ (List.mem_append_left _ h)))))))) wkg_c_X2_depth) rfl rfl rfl (by decide +kernel) ⟨Nat.le_of_ble_eq_true rfl, Nat.le_of_ble_eq_true rfl⟩) ⟨fun a U g mk q => by obtain ⟨q0, qP, qK⟩ := q; exact ⟨q0, qP, va_K.moved (u := U) (U := U.calling g mk a) (Vm.Alike.refl U.vm) qK⟩, va_recv hK hPc (ci := 2) (q0 := 0) rfl rfl, fun U hU hW => ⟨rfl, by rw [hU]; exact hPc, va_K.moved hW.alike hK⟩⟩ rfl rfl hl.1 rfl (lv_room (Nat.le_of_ble_eq_true rfl)) dX11_spare_36 ⟨Nat.le_of_ble_eq_true rfl, Nat.le_of_ble_eq_true rfl⟩)) (fun rz105 gz104 => ?_)
          clear hPc
          refine lv_isub hx hb dX11_spare_39 ?_
          refine lv_topi (fun xz106 exz106 => ?_)
          rw [hQ]
          exact W.iret (v := xz106) hx hb hr (fun t ht hW => ⟨xz106, rfl, trivial, ht⟩) (fun _ h => absurd h List.not_mem_nil) dX11_spare_40
        · skip
          have zz107 : p1.toInt = (1 : Int) := zi_eq.mp cz102
          refine W.eq (g2 := F0 m 35 ls [.int 1, .ref (sY 6 1), .int xz21]) (by rw [cz102]) ?_
          refine va_aldq hx hb hK hP 82 4 rfl rfl (by unfold vp_in; decide) dX11_spare_35 ?_
          refine W.eq (g2 := F0 m 36 ls [.ref (sY 6 5), .int xz21]) rfl ?_
          have hPc := hP.sub (ws' := (List.flatten [(wMem (fun i => sY 6 (i + 5)) k (fun i => (nY 6) (i + 1)) (fun i => (aY 6) (i + 2)))])) [86, 87, 88] rfl
          refine vp_callSi (va_Run.run (va_runV (As := []) (rest := [.int xz21]) ⟨hx, hb, hml, hown, hts⟩ (c_X2_depth l dC dI k (fun i => sY 6 (i + 5)) (fun i => (nY 6) (i + 1)) (fun i => (aY 6) (i + 2)) (fun i => (hnY 6) (i + 1))) (cwV 0 hts (gk_V (wl_mem 12 rfl) (wl_mem 13 rfl) (wl_mem 14 rfl) (wl_mem 15 rfl) (fun w h => List.mem_cons_of_mem _ (List.mem_append_right _ (List.mem_append_right _ (List.mem_append_right _ (List.mem_append_right _ (List.mem_append_right _ (List.mem_append_right _ (List.mem_append_left _ h)))))))) wkg_c_X2_depth) rfl rfl rfl (by decide +kernel) ⟨Nat.le_of_ble_eq_true rfl, Nat.le_of_ble_eq_true rfl⟩) ⟨fun a U g mk q => by obtain ⟨q0, qP, qK⟩ := q; exact ⟨q0, qP, va_K.moved (u := U) (U := U.calling g mk a) (Vm.Alike.refl U.vm) qK⟩, va_recv hK hPc (ci := 2) (q0 := 0) rfl rfl, fun U hU hW => ⟨rfl, by rw [hU]; exact hPc, va_K.moved hW.alike hK⟩⟩ rfl rfl hl.1 rfl (lv_room (Nat.le_of_ble_eq_true rfl)) dX11_spare_36 ⟨Nat.le_of_ble_eq_true rfl, Nat.le_of_ble_eq_true rfl⟩)) (fun rz109 gz108 => ?_)
          clear hPc
          refine lv_isub hx hb dX11_spare_39 ?_
          refine lv_topi (fun xz110 exz110 => ?_)
          rw [hQ]
          exact W.iret (v := xz110) hx hb hr (fun t ht hW => ⟨xz110, rfl, trivial, ht⟩) (fun _ h => absurd h List.not_mem_nil) dX11_spare_40
        · skip
          have zz111 : p1.toInt = (2 : Int) := zi_eq.mp cz102
          refine W.eq (g2 := F0 m 35 ls [.int 2, .ref (sY 6 1), .int xz21]) (by rw [cz102]) ?_
          refine va_aldq hx hb hK hP 82 4 rfl rfl (by unfold vp_in; decide) dX11_spare_35 ?_
          refine W.eq (g2 := F0 m 36 ls [.ref (sY 6 8), .int xz21]) rfl ?_
          have hPc := hP.sub (ws' := (List.flatten [(wMem (fun i => sY 6 (i + 8)) k (fun i => (nY 6) (i + 2)) (fun i => (aY 6) (i + 4)))])) [89, 90, 91] rfl
          refine vp_callSi (va_Run.run (va_runV (As := []) (rest := [.int xz21]) ⟨hx, hb, hml, hown, hts⟩ (c_X2_depth l dC dI k (fun i => sY 6 (i + 8)) (fun i => (nY 6) (i + 2)) (fun i => (aY 6) (i + 4)) (fun i => (hnY 6) (i + 2))) (cwV 0 hts (gk_V (wl_mem 12 rfl) (wl_mem 13 rfl) (wl_mem 14 rfl) (wl_mem 15 rfl) (fun w h => List.mem_cons_of_mem _ (List.mem_append_right _ (List.mem_append_right _ (List.mem_append_right _ (List.mem_append_right _ (List.mem_append_right _ (List.mem_append_right _ (List.mem_append_left _ h)))))))) wkg_c_X2_depth) rfl rfl rfl (by decide +kernel) ⟨Nat.le_of_ble_eq_true rfl, Nat.le_of_ble_eq_true rfl⟩) ⟨fun a U g mk q => by obtain ⟨q0, qP, qK⟩ := q; exact ⟨q0, qP, va_K.moved (u := U) (U := U.calling g mk a) (Vm.Alike.refl U.vm) qK⟩, va_recv hK hPc (ci := 2) (q0 := 0) rfl rfl, fun U hU hW => ⟨rfl, by rw [hU]; exact hPc, va_K.moved hW.alike hK⟩⟩ rfl rfl hl.1 rfl (lv_room (Nat.le_of_ble_eq_true rfl)) dX11_spare_36 ⟨Nat.le_of_ble_eq_true rfl, Nat.le_of_ble_eq_true rfl⟩)) (fun rz113 gz112 => ?_)
          clear hPc
          refine lv_isub hx hb dX11_spare_39 ?_
          refine lv_topi (fun xz114 exz114 => ?_)
          rw [hQ]
          exact W.iret (v := xz114) hx hb hr (fun t ht hW => ⟨xz114, rfl, trivial, ht⟩) (fun _ h => absurd h List.not_mem_nil) dX11_spare_40
      · skip
        refine W.eq (g2 := F0 m 31 ls [.ref (sY 7 0), .int xz21]) rfl ?_
        refine va_get (D := (dC, dI)) (ci := 7) (v := .ref (sY 7 1)) (C := RX7) (T := TX7) (N := 9) hx hb hts (fun w h => List.mem_cons_of_mem _ (List.mem_append_right _ (List.mem_append_right _ (List.mem_append_right _ (List.mem_append_right _ (List.mem_append_right _ (List.mem_append_left _ h))))))) hown hK hP 92 rfl rfl 0 (by decide) (hts (.fieldLink RX11 194 "SagMemory$State" "memories" "[LSagMemory$Memory;") (wl_mem 11 rfl)) (fun _ h9 => h9) rfl dX11_spare_31 ?_
        refine lv_iload_n hx hb dX11_spare_34 rfl (lv_at hl 1 rfl) ?_
        rcases (show p1 = 0 ∨ p1 = 1 ∨ p1 = 2 by simp only [zi_eq]; show p1.toInt = 0 ∨ p1.toInt = 1 ∨ p1.toInt = 2; omega) with cz115 | cz115 | cz115
        · skip
          have zz116 : p1.toInt = (0 : Int) := zi_eq.mp cz115
          refine W.eq (g2 := F0 m 35 ls [.int 0, .ref (sY 7 1), .int xz21]) (by rw [cz115]) ?_
          refine va_aldq hx hb hK hP 93 4 rfl rfl (by unfold vp_in; decide) dX11_spare_35 ?_
          refine W.eq (g2 := F0 m 36 ls [.ref (sY 7 2), .int xz21]) rfl ?_
          have hPc := hP.sub (ws' := (List.flatten [(wMem (fun i => sY 7 (i + 2)) k (nY 7) (aY 7))])) [94, 95, 96] rfl
          refine vp_callSi (va_Run.run (va_runV (As := []) (rest := [.int xz21]) ⟨hx, hb, hml, hown, hts⟩ (c_X2_depth l dC dI k (fun i => sY 7 (i + 2)) (nY 7) (aY 7) (hnY 7)) (cwV 0 hts (gk_V (wl_mem 12 rfl) (wl_mem 13 rfl) (wl_mem 14 rfl) (wl_mem 15 rfl) (fun w h => List.mem_cons_of_mem _ (List.mem_append_right _ (List.mem_append_right _ (List.mem_append_right _ (List.mem_append_right _ (List.mem_append_right _ (List.mem_append_right _ (List.mem_append_left _ h)))))))) wkg_c_X2_depth) rfl rfl rfl (by decide +kernel) ⟨Nat.le_of_ble_eq_true rfl, Nat.le_of_ble_eq_true rfl⟩) ⟨fun a U g mk q => by obtain ⟨q0, qP, qK⟩ := q; exact ⟨q0, qP, va_K.moved (u := U) (U := U.calling g mk a) (Vm.Alike.refl U.vm) qK⟩, va_recv hK hPc (ci := 2) (q0 := 0) rfl rfl, fun U hU hW => ⟨rfl, by rw [hU]; exact hPc, va_K.moved hW.alike hK⟩⟩ rfl rfl hl.1 rfl (lv_room (Nat.le_of_ble_eq_true rfl)) dX11_spare_36 ⟨Nat.le_of_ble_eq_true rfl, Nat.le_of_ble_eq_true rfl⟩)) (fun rz118 gz117 => ?_)
          clear hPc
          refine lv_isub hx hb dX11_spare_39 ?_
          refine lv_topi (fun xz119 exz119 => ?_)
          rw [hQ]
          exact W.iret (v := xz119) hx hb hr (fun t ht hW => ⟨xz119, rfl, trivial, ht⟩) (fun _ h => absurd h List.not_mem_nil) dX11_spare_40
        · skip
          have zz120 : p1.toInt = (1 : Int) := zi_eq.mp cz115
          refine W.eq (g2 := F0 m 35 ls [.int 1, .ref (sY 7 1), .int xz21]) (by rw [cz115]) ?_
          refine va_aldq hx hb hK hP 93 4 rfl rfl (by unfold vp_in; decide) dX11_spare_35 ?_
          refine W.eq (g2 := F0 m 36 ls [.ref (sY 7 5), .int xz21]) rfl ?_
          have hPc := hP.sub (ws' := (List.flatten [(wMem (fun i => sY 7 (i + 5)) k (fun i => (nY 7) (i + 1)) (fun i => (aY 7) (i + 2)))])) [97, 98, 99] rfl
          refine vp_callSi (va_Run.run (va_runV (As := []) (rest := [.int xz21]) ⟨hx, hb, hml, hown, hts⟩ (c_X2_depth l dC dI k (fun i => sY 7 (i + 5)) (fun i => (nY 7) (i + 1)) (fun i => (aY 7) (i + 2)) (fun i => (hnY 7) (i + 1))) (cwV 0 hts (gk_V (wl_mem 12 rfl) (wl_mem 13 rfl) (wl_mem 14 rfl) (wl_mem 15 rfl) (fun w h => List.mem_cons_of_mem _ (List.mem_append_right _ (List.mem_append_right _ (List.mem_append_right _ (List.mem_append_right _ (List.mem_append_right _ (List.mem_append_right _ (List.mem_append_left _ h)))))))) wkg_c_X2_depth) rfl rfl rfl (by decide +kernel) ⟨Nat.le_of_ble_eq_true rfl, Nat.le_of_ble_eq_true rfl⟩) ⟨fun a U g mk q => by obtain ⟨q0, qP, qK⟩ := q; exact ⟨q0, qP, va_K.moved (u := U) (U := U.calling g mk a) (Vm.Alike.refl U.vm) qK⟩, va_recv hK hPc (ci := 2) (q0 := 0) rfl rfl, fun U hU hW => ⟨rfl, by rw [hU]; exact hPc, va_K.moved hW.alike hK⟩⟩ rfl rfl hl.1 rfl (lv_room (Nat.le_of_ble_eq_true rfl)) dX11_spare_36 ⟨Nat.le_of_ble_eq_true rfl, Nat.le_of_ble_eq_true rfl⟩)) (fun rz122 gz121 => ?_)
          clear hPc
          refine lv_isub hx hb dX11_spare_39 ?_
          refine lv_topi (fun xz123 exz123 => ?_)
          rw [hQ]
          exact W.iret (v := xz123) hx hb hr (fun t ht hW => ⟨xz123, rfl, trivial, ht⟩) (fun _ h => absurd h List.not_mem_nil) dX11_spare_40
        · skip
          have zz124 : p1.toInt = (2 : Int) := zi_eq.mp cz115
          refine W.eq (g2 := F0 m 35 ls [.int 2, .ref (sY 7 1), .int xz21]) (by rw [cz115]) ?_
          refine va_aldq hx hb hK hP 93 4 rfl rfl (by unfold vp_in; decide) dX11_spare_35 ?_
          refine W.eq (g2 := F0 m 36 ls [.ref (sY 7 8), .int xz21]) rfl ?_
          have hPc := hP.sub (ws' := (List.flatten [(wMem (fun i => sY 7 (i + 8)) k (fun i => (nY 7) (i + 2)) (fun i => (aY 7) (i + 4)))])) [100, 101, 102] rfl
          refine vp_callSi (va_Run.run (va_runV (As := []) (rest := [.int xz21]) ⟨hx, hb, hml, hown, hts⟩ (c_X2_depth l dC dI k (fun i => sY 7 (i + 8)) (fun i => (nY 7) (i + 2)) (fun i => (aY 7) (i + 4)) (fun i => (hnY 7) (i + 2))) (cwV 0 hts (gk_V (wl_mem 12 rfl) (wl_mem 13 rfl) (wl_mem 14 rfl) (wl_mem 15 rfl) (fun w h => List.mem_cons_of_mem _ (List.mem_append_right _ (List.mem_append_right _ (List.mem_append_right _ (List.mem_append_right _ (List.mem_append_right _ (List.mem_append_right _ (List.mem_append_left _ h)))))))) wkg_c_X2_depth) rfl rfl rfl (by decide +kernel) ⟨Nat.le_of_ble_eq_true rfl, Nat.le_of_ble_eq_true rfl⟩) ⟨fun a U g mk q => by obtain ⟨q0, qP, qK⟩ := q; exact ⟨q0, qP, va_K.moved (u := U) (U := U.calling g mk a) (Vm.Alike.refl U.vm) qK⟩, va_recv hK hPc (ci := 2) (q0 := 0) rfl rfl, fun U hU hW => ⟨rfl, by rw [hU]; exact hPc, va_K.moved hW.alike hK⟩⟩ rfl rfl hl.1 rfl (lv_room (Nat.le_of_ble_eq_true rfl)) dX11_spare_36 ⟨Nat.le_of_ble_eq_true rfl, Nat.le_of_ble_eq_true rfl⟩)) (fun rz126 gz125 => ?_)
          clear hPc
          refine lv_isub hx hb dX11_spare_39 ?_
          refine lv_topi (fun xz127 exz127 => ?_)
          rw [hQ]
          exact W.iret (v := xz127) hx hb hr (fun t ht hW => ⟨xz127, rfl, trivial, ht⟩) (fun _ h => absurd h List.not_mem_nil) dX11_spare_40
    · skip
      exact absurd cz20 (by decide)
def wk_c_X11_kept : List Cond := .code yX11_kept cX11_kept 2 (some .int) :: ([.fieldLink RX11 19 "SagMemory" "told" "LSagMemory$Valley;", .methodLink RX11 131 yX10_hasBridge, .instanceMethod yX10_hasBridge, .selects RX10 yX10_hasBridge yX10_hasBridge, .initialized RX10, .fieldLink RX11 45 "SagMemory" "story" "LSagMemory$Story;", .methodLink RX11 183 yX8_atEnd, .instanceMethod yX8_atEnd, .selects RX8 yX8_atEnd yX8_atEnd, .initialized RX8, .fieldLink RX11 194 "SagMemory$State" "memories" "[LSagMemory$Memory;", .methodLink RX11 230 yX2_cartBits, .instanceMethod yX2_cartBits, .selects RX2 yX2_cartBits yX2_cartBits, .initialized RX2] ++ (wsX110 ++ (wk_c_X10_hasBridge ++ (wk_c_X8_atEnd ++ (wsX70 ++ (wk_c_X2_cartBits ++ []))))))
theorem wkg_c_X11_kept : wk_c_X11_kept.all goodWord = true := by decide +kernel
set_option maxHeartbeats 4000000 in
set_option maxRecDepth 100000 in
theorem c_X11_kept (l : Launch) (dC : Nat → ClassId) (dI : Nat → Nat → Nat) (k : Nat → ClassId) (qX : Nat → Nat) (tapeX : Nat) (actsX : Nat) (nowX : Nat) (trialX : Nat) (attemptX : Nat) (orderSearchX : Nat) (routeSearchX : Nat) (setSearchX : Nat) (probeX : Nat) (slot0X : Nat) (slot1X : Nat) (slot2X : Nat) (slot3X : Nat) (image0X : Nat) (image1X : Nat) (image2X : Nat) (aX : Nat → Nat → Int32) (qV : Nat → Nat) (vV : Nat → Int32) (bV : Nat → Int32) (cV : Nat → Int32) (wV : Nat → Int32) (aV : Nat → Nat → Int32) (eV : Nat → Nat → Int32) (qY : Nat → Nat) (sY : Nat → Nat → Nat) (planY : Nat) (vY : Nat → Nat → Int32) (nY : Nat → Nat → Int32) (aY : Nat → Nat → Nat → Int32) (p1 : Int32) (hbV : Rg 0 3 bV) (hcV : Rg 0 7 cV) (hwV : Rg 0 5 wV) (heV : RgA 0 99 eV) (hnY : ∀ t9, Rg 0 8 (nY t9)) : Met l yX11_kept wk_c_X11_kept ({ frames := 2, cells := 0, slots := 0, locals := 41 }) (va_Pc [.ref (qX 0), .int p1] (fun U => va_P (dC, dI) vwCl (List.flatten [(wSag qX k tapeX (qV 0) actsX nowX trialX (qY 0) attemptX orderSearchX routeSearchX setSearchX probeX slot0X slot1X slot2X slot3X image0X image1X image2X aX), (wValley qV k vV bV cV wV aV eV), (wStoO qY k (qV 0) planY (sY 0 0) (sY 1 0) (sY 2 0) (sY 3 0) (sY 4 0) (sY 5 0) (sY 6 0) (sY 7 0)), (wState (sY 0) k (vY 0) (nY 0) (aY 0)), (wState (sY 1) k (vY 1) (nY 1) (aY 1)), (wState (sY 2) k (vY 2) (nY 2) (aY 2)), (wState (sY 3) k (vY 3) (nY 3) (aY 3)), (wState (sY 4) k (vY 4) (nY 4) (aY 4)), (wState (sY 5) k (vY 5) (nY 5) (aY 5)), (wState (sY 6) k (vY 6) (nY 6) (aY 6)), (wState (sY 7) k (vY 7) (nY 7) (aY 7))]) U.heap ∧ va_K (dC, dI) vwCl (tK k) U)) (vp_Si (fun r : Int32 => True)) 0 0 (fun _ => False) := by
  refine Met.ofW (cc := cX11_kept) (maxL := 2) (ret := (some .int)) (by decide) rfl ?_
  intro p e s m args below meth c s₁ B hml hv
  obtain ⟨rfl, hP, hK⟩ := hv
  have hx := B.exec
  have hb := B.bytes
  have hr := B.returns
  have hts := atoms_spec (ws := wk_c_X11_kept) B.pre
  have hown : s.vm.findClass RX11 = some m.cls := findClass_of_methodNamed B.named
  have hlocks := B.notSynchronized
  have hP : va_P (dC, dI) vwCl (List.flatten [(wSag qX k tapeX (qV 0) actsX nowX trialX (qY 0) attemptX orderSearchX routeSearchX setSearchX probeX slot0X slot1X slot2X slot3X image0X image1X image2X aX), (wValley qV k vV bV cV wV aV eV), (wStoO qY k (qV 0) planY (sY 0 0) (sY 1 0) (sY 2 0) (sY 3 0) (sY 4 0) (sY 5 0) (sY 6 0) (sY 7 0)), (wState (sY 0) k (vY 0) (nY 0) (aY 0)), (wState (sY 1) k (vY 1) (nY 1) (aY 1)), (wState (sY 2) k (vY 2) (nY 2) (aY 2)), (wState (sY 3) k (vY 3) (nY 3) (aY 3)), (wState (sY 4) k (vY 4) (nY 4) (aY 4)), (wState (sY 5) k (vY 5) (nY 5) (aY 5)), (wState (sY 6) k (vY 6) (nY 6) (aY 6)), (wState (sY 7) k (vY 7) (nY 7) (aY 7))]) s.heap := hP
  have hl := lv_entry ([.ref (qX 0), .int p1]) (n := 2) (Nat.le_of_ble_eq_true rfl)
  rw [lg_entry_eq]
  generalize (lg_sl ([.ref (qX 0), .int p1]) ++ List.replicate (2 - (lg_sl ([.ref (qX 0), .int p1])).length) Slot.unset).toArray = ls at hl ⊢
  have hl : lv_has ls 2 [(0, .ref (qX 0)), (1, .int p1)] := hl
  refine w_gen (fun Q hQ => ?_)
  refine lv_aload_n hx hb dX11_kept_0 rfl (lv_at hl 0 rfl) ?_
  refine va_get (D := (dC, dI)) (ci := 11) (v := .ref (qV 0)) (C := RX11) (T := TX11) (N := 15) hx hb hts (fun w h => List.mem_cons_of_mem _ (List.mem_append_right _ (List.mem_append_left _ h))) hown hK hP 0 rfl rfl 1 (by decide) (hts (.fieldLink RX11 19 "SagMemory" "told" "LSagMemory$Valley;") (wl_mem 0 rfl)) (fun _ h9 => h9) rfl dX11_kept_1 ?_
  refine lv_iload_n hx hb dX11_kept_4 rfl (lv_at hl 1 rfl) ?_
  have hPc := hP.sub (ws' := (List.flatten [(wValley qV k vV bV cV wV aV eV)])) [5, 6, 7, 8, 9, 10, 11, 12] rfl
  refine vp_callSi (va_Run.run (va_runV (As := [.int p1]) (rest := []) ⟨hx, hb, hml, hown, hts⟩ (c_X10_hasBridge l dC dI k qV vV bV cV wV aV eV p1 hbV hcV hwV heV) (cwV 1 hts (gk_V (wl_mem 1 rfl) (wl_mem 2 rfl) (wl_mem 3 rfl) (wl_mem 4 rfl) (fun w h => List.mem_cons_of_mem _ (List.mem_append_right _ (List.mem_append_right _ (List.mem_append_left _ h)))) wkg_c_X10_hasBridge) rfl rfl rfl (by decide +kernel) ⟨Nat.le_of_ble_eq_true rfl, Nat.le_of_ble_eq_true rfl⟩) ⟨fun a U g mk q => by obtain ⟨q0, qP, qK⟩ := q; exact ⟨q0, qP, va_K.moved (u := U) (U := U.calling g mk a) (Vm.Alike.refl U.vm) qK⟩, va_recv hK hPc (ci := 10) (q0 := 0) rfl rfl, fun U hU hW => ⟨rfl, by rw [hU]; exact hPc, va_K.moved hW.alike hK⟩⟩ rfl rfl hl.1 rfl (lv_room (Nat.le_of_ble_eq_true rfl)) dX11_kept_5 ⟨Nat.le_of_ble_eq_true rfl, Nat.le_of_ble_eq_true rfl⟩)) (fun rz2 gz1 => ?_)
  clear hPc
  rcases gz1 with ⟨er, cz3⟩ | ⟨er, cz4, cz5⟩ | ⟨er, cz6, cz7⟩
  · obtain rfl := er.symm
    have bz8 := fb_rng p1
    have zz9 : p1.toInt < (0 : Int) := zi_lt.mp cz3
    refine lv_if_eq (tgt := 29) hx hb dX11_kept_8 (by decide) (fun cz10 => ?_) (fun cz10 => ?_)
    · skip
      refine lv_bipush (v := (-2)) hx hb dX11_kept_29 (by decide) ?_
      rw [hQ]
      exact W.iret (v := (-2 : Int32)) hx hb hr (fun t ht hW => ⟨(-2 : Int32), rfl, trivial, ht⟩) (fun _ h => absurd h List.not_mem_nil) dX11_kept_31
    · skip
      exact absurd cz10 (by decide)
  · obtain rfl := er.symm
    have bz11 := fb_rng p1
    have zz12 : ¬ p1.toInt < (0 : Int) := fun h9 => cz4 (zi_lt.mpr h9)
    have bz13 := hbV 0
    have zz14 : (bV 0).toInt ≤ p1.toInt := zi_le.mp cz5
    refine lv_if_eq (tgt := 29) hx hb dX11_kept_8 (by decide) (fun cz15 => ?_) (fun cz15 => ?_)
    · skip
      refine lv_bipush (v := (-2)) hx hb dX11_kept_29 (by decide) ?_
      rw [hQ]
      exact W.iret (v := (-2 : Int32)) hx hb hr (fun t ht hW => ⟨(-2 : Int32), rfl, trivial, ht⟩) (fun _ h => absurd h List.not_mem_nil) dX11_kept_31
    · skip
      exact absurd cz15 (by decide)
  · obtain rfl := er.symm
    have bz16 := fb_rng p1
    have zz17 : ¬ p1.toInt < (0 : Int) := fun h9 => cz6 (zi_lt.mpr h9)
    have bz18 := hbV 0
    have zz19 : ¬ (bV 0).toInt ≤ p1.toInt := fun h9 => cz7 (zi_le.mpr h9)
    refine lv_if_eq (tgt := 29) hx hb dX11_kept_8 (by decide) (fun cz20 => ?_) (fun cz20 => ?_)
    · skip
      exact absurd cz20 (by decide)
    · skip
      refine lv_aload_n hx hb dX11_kept_11 rfl (lv_at hl 0 rfl) ?_
      refine va_get (D := (dC, dI)) (ci := 11) (v := .ref (qY 0)) (C := RX11) (T := TX11) (N := 15) hx hb hts (fun w h => List.mem_cons_of_mem _ (List.mem_append_right _ (List.mem_append_left _ h))) hown hK hP 0 rfl rfl 5 (by decide) (hts (.fieldLink RX11 45 "SagMemory" "story" "LSagMemory$Story;") (wl_mem 5 rfl)) (fun _ h9 => h9) rfl dX11_kept_12 ?_
      have hPc : va_P (dC, dI) vwCl (List.flatten [(wStoO qY k (qV 0) planY (sY 0 0) (sY 1 0) (sY 2 0) (sY 3 0) (sY 4 0) (sY 5 0) (sY 6 0) (sY 7 0)), (wState (sY 0) k (vY 0) (nY 0) (aY 0)), (wState (sY 1) k (vY 1) (nY 1) (aY 1)), (wState (sY 2) k (vY 2) (nY 2) (aY 2)), (wState (sY 3) k (vY 3) (nY 3) (aY 3)), (wState (sY 4) k (vY 4) (nY 4) (aY 4)), (wState (sY 5) k (vY 5) (nY 5) (aY 5)), (wState (sY 6) k (vY 6) (nY 6) (aY 6)), (wState (sY 7) k (vY 7) (nY 7) (aY 7)), (wValley qV k vV bV cV wV aV eV)]) s.heap := wc_subP0 hP [2, 3, 4, 5, 6, 7, 8, 9, 10, 1] rfl
      refine va_csr (va_Run.run (va_runV (As := []) (rest := []) ⟨hx, hb, hml, hown, hts⟩ (c_X8_atEnd l dC dI k qY sY planY vY nY aY qV vV bV cV wV aV eV hnY hbV hcV hwV heV) (cwV 0 hts (gk_V (wl_mem 6 rfl) (wl_mem 7 rfl) (wl_mem 8 rfl) (wl_mem 9 rfl) (fun w h => List.mem_cons_of_mem _ (List.mem_append_right _ (List.mem_append_right _ (List.mem_append_right _ (List.mem_append_left _ h))))) wkg_c_X8_atEnd) rfl rfl rfl (by decide +kernel) ⟨Nat.le_of_ble_eq_true rfl, Nat.le_of_ble_eq_true rfl⟩) ⟨fun a U g mk q => by obtain ⟨q0, qP, qK⟩ := q; exact ⟨q0, qP, va_K.moved (u := U) (U := U.calling g mk a) (Vm.Alike.refl U.vm) qK⟩, va_recv hK hPc (ci := 8) (q0 := 0) rfl rfl, fun U hU hW => ⟨rfl, by rw [hU]; exact hPc, va_K.moved hW.alike hK⟩⟩ rfl rfl hl.1 rfl (lv_room (Nat.le_of_ble_eq_true rfl)) dX11_kept_15 ⟨Nat.le_of_ble_eq_true rfl, Nat.le_of_ble_eq_true rfl⟩)) (fun rz22 gz21 => ?_)
      clear hPc
      rcases gz21 with rfl | rfl | rfl | rfl | rfl | rfl | rfl | rfl
      · skip
        refine W.eq (g2 := F0 m 18 ls [.ref (sY 0 0)]) rfl ?_
        refine va_get (D := (dC, dI)) (ci := 7) (v := .ref (sY 0 1)) (C := RX7) (T := TX7) (N := 9) hx hb hts (fun w h => List.mem_cons_of_mem _ (List.mem_append_right _ (List.mem_append_right _ (List.mem_append_right _ (List.mem_append_right _ (List.mem_append_left _ h)))))) hown hK hP 15 rfl rfl 0 (by decide) (hts (.fieldLink RX11 194 "SagMemory$State" "memories" "[LSagMemory$Memory;") (wl_mem 10 rfl)) (fun _ h9 => h9) rfl dX11_kept_18 ?_
        refine lv_iload_n hx hb dX11_kept_21 rfl (lv_at hl 1 rfl) ?_
        rcases (show p1 = 0 ∨ p1 = 1 ∨ p1 = 2 by simp only [zi_eq]; show p1.toInt = 0 ∨ p1.toInt = 1 ∨ p1.toInt = 2; omega) with cz23 | cz23 | cz23
        · skip
          have zz24 : p1.toInt = (0 : Int) := zi_eq.mp cz23
          refine W.eq (g2 := F0 m 22 ls [.int 0, .ref (sY 0 1)]) (by rw [cz23]) ?_
          refine va_aldq hx hb hK hP 16 4 rfl rfl (by unfold vp_in; decide) dX11_kept_22 ?_
          refine W.eq (g2 := F0 m 23 ls [.ref (sY 0 2)]) rfl ?_
          have hPc := hP.sub (ws' := (List.flatten [(wMem (fun i => sY 0 (i + 2)) k (nY 0) (aY 0))])) [17, 18, 19] rfl
          refine vp_callSi (va_Run.run (va_runV (As := []) (rest := []) ⟨hx, hb, hml, hown, hts⟩ (c_X2_cartBits l dC dI k (fun i => sY 0 (i + 2)) (nY 0) (aY 0) (hnY 0)) (cwV 0 hts (gk_V (wl_mem 11 rfl) (wl_mem 12 rfl) (wl_mem 13 rfl) (wl_mem 14 rfl) (fun w h => List.mem_cons_of_mem _ (List.mem_append_right _ (List.mem_append_right _ (List.mem_append_right _ (List.mem_append_right _ (List.mem_append_right _ (List.mem_append_left _ h))))))) wkg_c_X2_cartBits) rfl rfl rfl (by decide +kernel) ⟨Nat.le_of_ble_eq_true rfl, Nat.le_of_ble_eq_true rfl⟩) ⟨fun a U g mk q => by obtain ⟨q0, qP, qK⟩ := q; exact ⟨q0, qP, va_K.moved (u := U) (U := U.calling g mk a) (Vm.Alike.refl U.vm) qK⟩, va_recv hK hPc (ci := 2) (q0 := 0) rfl rfl, fun U hU hW => ⟨rfl, by rw [hU]; exact hPc, va_K.moved hW.alike hK⟩⟩ rfl rfl hl.1 rfl (lv_room (Nat.le_of_ble_eq_true rfl)) dX11_kept_23 ⟨Nat.le_of_ble_eq_true rfl, Nat.le_of_ble_eq_true rfl⟩)) (fun rz26 gz25 => ?_)
          clear hPc
          refine lv_goto (tgt := 31) hx hb dX11_kept_26 (by decide) ?_
          rw [hQ]
          exact W.iret (v := rz26) hx hb hr (fun t ht hW => ⟨rz26, rfl, trivial, ht⟩) (fun _ h => absurd h List.not_mem_nil) dX11_kept_31
        · skip
          have zz27 : p1.toInt = (1 : Int) := zi_eq.mp cz23
          refine W.eq (g2 := F0 m 22 ls [.int 1, .ref (sY 0 1)]) (by rw [cz23]) ?_
          refine va_aldq hx hb hK hP 16 4 rfl rfl (by unfold vp_in; decide) dX11_kept_22 ?_
          refine W.eq (g2 := F0 m 23 ls [.ref (sY 0 5)]) rfl ?_
          have hPc := hP.sub (ws' := (List.flatten [(wMem (fun i => sY 0 (i + 5)) k (fun i => (nY 0) (i + 1)) (fun i => (aY 0) (i + 2)))])) [20, 21, 22] rfl
          refine vp_callSi (va_Run.run (va_runV (As := []) (rest := []) ⟨hx, hb, hml, hown, hts⟩ (c_X2_cartBits l dC dI k (fun i => sY 0 (i + 5)) (fun i => (nY 0) (i + 1)) (fun i => (aY 0) (i + 2)) (fun i => (hnY 0) (i + 1))) (cwV 0 hts (gk_V (wl_mem 11 rfl) (wl_mem 12 rfl) (wl_mem 13 rfl) (wl_mem 14 rfl) (fun w h => List.mem_cons_of_mem _ (List.mem_append_right _ (List.mem_append_right _ (List.mem_append_right _ (List.mem_append_right _ (List.mem_append_right _ (List.mem_append_left _ h))))))) wkg_c_X2_cartBits) rfl rfl rfl (by decide +kernel) ⟨Nat.le_of_ble_eq_true rfl, Nat.le_of_ble_eq_true rfl⟩) ⟨fun a U g mk q => by obtain ⟨q0, qP, qK⟩ := q; exact ⟨q0, qP, va_K.moved (u := U) (U := U.calling g mk a) (Vm.Alike.refl U.vm) qK⟩, va_recv hK hPc (ci := 2) (q0 := 0) rfl rfl, fun U hU hW => ⟨rfl, by rw [hU]; exact hPc, va_K.moved hW.alike hK⟩⟩ rfl rfl hl.1 rfl (lv_room (Nat.le_of_ble_eq_true rfl)) dX11_kept_23 ⟨Nat.le_of_ble_eq_true rfl, Nat.le_of_ble_eq_true rfl⟩)) (fun rz29 gz28 => ?_)
          clear hPc
          refine lv_goto (tgt := 31) hx hb dX11_kept_26 (by decide) ?_
          rw [hQ]
          exact W.iret (v := rz29) hx hb hr (fun t ht hW => ⟨rz29, rfl, trivial, ht⟩) (fun _ h => absurd h List.not_mem_nil) dX11_kept_31
        · skip
          have zz30 : p1.toInt = (2 : Int) := zi_eq.mp cz23
          refine W.eq (g2 := F0 m 22 ls [.int 2, .ref (sY 0 1)]) (by rw [cz23]) ?_
          refine va_aldq hx hb hK hP 16 4 rfl rfl (by unfold vp_in; decide) dX11_kept_22 ?_
          refine W.eq (g2 := F0 m 23 ls [.ref (sY 0 8)]) rfl ?_
          have hPc := hP.sub (ws' := (List.flatten [(wMem (fun i => sY 0 (i + 8)) k (fun i => (nY 0) (i + 2)) (fun i => (aY 0) (i + 4)))])) [23, 24, 25] rfl
          refine vp_callSi (va_Run.run (va_runV (As := []) (rest := []) ⟨hx, hb, hml, hown, hts⟩ (c_X2_cartBits l dC dI k (fun i => sY 0 (i + 8)) (fun i => (nY 0) (i + 2)) (fun i => (aY 0) (i + 4)) (fun i => (hnY 0) (i + 2))) (cwV 0 hts (gk_V (wl_mem 11 rfl) (wl_mem 12 rfl) (wl_mem 13 rfl) (wl_mem 14 rfl) (fun w h => List.mem_cons_of_mem _ (List.mem_append_right _ (List.mem_append_right _ (List.mem_append_right _ (List.mem_append_right _ (List.mem_append_right _ (List.mem_append_left _ h))))))) wkg_c_X2_cartBits) rfl rfl rfl (by decide +kernel) ⟨Nat.le_of_ble_eq_true rfl, Nat.le_of_ble_eq_true rfl⟩) ⟨fun a U g mk q => by obtain ⟨q0, qP, qK⟩ := q; exact ⟨q0, qP, va_K.moved (u := U) (U := U.calling g mk a) (Vm.Alike.refl U.vm) qK⟩, va_recv hK hPc (ci := 2) (q0 := 0) rfl rfl, fun U hU hW => ⟨rfl, by rw [hU]; exact hPc, va_K.moved hW.alike hK⟩⟩ rfl rfl hl.1 rfl (lv_room (Nat.le_of_ble_eq_true rfl)) dX11_kept_23 ⟨Nat.le_of_ble_eq_true rfl, Nat.le_of_ble_eq_true rfl⟩)) (fun rz32 gz31 => ?_)
          clear hPc
          refine lv_goto (tgt := 31) hx hb dX11_kept_26 (by decide) ?_
          rw [hQ]
          exact W.iret (v := rz32) hx hb hr (fun t ht hW => ⟨rz32, rfl, trivial, ht⟩) (fun _ h => absurd h List.not_mem_nil) dX11_kept_31
      · skip
        refine W.eq (g2 := F0 m 18 ls [.ref (sY 1 0)]) rfl ?_
        refine va_get (D := (dC, dI)) (ci := 7) (v := .ref (sY 1 1)) (C := RX7) (T := TX7) (N := 9) hx hb hts (fun w h => List.mem_cons_of_mem _ (List.mem_append_right _ (List.mem_append_right _ (List.mem_append_right _ (List.mem_append_right _ (List.mem_append_left _ h)))))) hown hK hP 26 rfl rfl 0 (by decide) (hts (.fieldLink RX11 194 "SagMemory$State" "memories" "[LSagMemory$Memory;") (wl_mem 10 rfl)) (fun _ h9 => h9) rfl dX11_kept_18 ?_
        refine lv_iload_n hx hb dX11_kept_21 rfl (lv_at hl 1 rfl) ?_
        rcases (show p1 = 0 ∨ p1 = 1 ∨ p1 = 2 by simp only [zi_eq]; show p1.toInt = 0 ∨ p1.toInt = 1 ∨ p1.toInt = 2; omega) with cz33 | cz33 | cz33
        · skip
          have zz34 : p1.toInt = (0 : Int) := zi_eq.mp cz33
          refine W.eq (g2 := F0 m 22 ls [.int 0, .ref (sY 1 1)]) (by rw [cz33]) ?_
          refine va_aldq hx hb hK hP 27 4 rfl rfl (by unfold vp_in; decide) dX11_kept_22 ?_
          refine W.eq (g2 := F0 m 23 ls [.ref (sY 1 2)]) rfl ?_
          have hPc := hP.sub (ws' := (List.flatten [(wMem (fun i => sY 1 (i + 2)) k (nY 1) (aY 1))])) [28, 29, 30] rfl
          refine vp_callSi (va_Run.run (va_runV (As := []) (rest := []) ⟨hx, hb, hml, hown, hts⟩ (c_X2_cartBits l dC dI k (fun i => sY 1 (i + 2)) (nY 1) (aY 1) (hnY 1)) (cwV 0 hts (gk_V (wl_mem 11 rfl) (wl_mem 12 rfl) (wl_mem 13 rfl) (wl_mem 14 rfl) (fun w h => List.mem_cons_of_mem _ (List.mem_append_right _ (List.mem_append_right _ (List.mem_append_right _ (List.mem_append_right _ (List.mem_append_right _ (List.mem_append_left _ h))))))) wkg_c_X2_cartBits) rfl rfl rfl (by decide +kernel) ⟨Nat.le_of_ble_eq_true rfl, Nat.le_of_ble_eq_true rfl⟩) ⟨fun a U g mk q => by obtain ⟨q0, qP, qK⟩ := q; exact ⟨q0, qP, va_K.moved (u := U) (U := U.calling g mk a) (Vm.Alike.refl U.vm) qK⟩, va_recv hK hPc (ci := 2) (q0 := 0) rfl rfl, fun U hU hW => ⟨rfl, by rw [hU]; exact hPc, va_K.moved hW.alike hK⟩⟩ rfl rfl hl.1 rfl (lv_room (Nat.le_of_ble_eq_true rfl)) dX11_kept_23 ⟨Nat.le_of_ble_eq_true rfl, Nat.le_of_ble_eq_true rfl⟩)) (fun rz36 gz35 => ?_)
          clear hPc
          refine lv_goto (tgt := 31) hx hb dX11_kept_26 (by decide) ?_
          rw [hQ]
          exact W.iret (v := rz36) hx hb hr (fun t ht hW => ⟨rz36, rfl, trivial, ht⟩) (fun _ h => absurd h List.not_mem_nil) dX11_kept_31
        · skip
          have zz37 : p1.toInt = (1 : Int) := zi_eq.mp cz33
          refine W.eq (g2 := F0 m 22 ls [.int 1, .ref (sY 1 1)]) (by rw [cz33]) ?_
          refine va_aldq hx hb hK hP 27 4 rfl rfl (by unfold vp_in; decide) dX11_kept_22 ?_
          refine W.eq (g2 := F0 m 23 ls [.ref (sY 1 5)]) rfl ?_
          have hPc := hP.sub (ws' := (List.flatten [(wMem (fun i => sY 1 (i + 5)) k (fun i => (nY 1) (i + 1)) (fun i => (aY 1) (i + 2)))])) [31, 32, 33] rfl
          refine vp_callSi (va_Run.run (va_runV (As := []) (rest := []) ⟨hx, hb, hml, hown, hts⟩ (c_X2_cartBits l dC dI k (fun i => sY 1 (i + 5)) (fun i => (nY 1) (i + 1)) (fun i => (aY 1) (i + 2)) (fun i => (hnY 1) (i + 1))) (cwV 0 hts (gk_V (wl_mem 11 rfl) (wl_mem 12 rfl) (wl_mem 13 rfl) (wl_mem 14 rfl) (fun w h => List.mem_cons_of_mem _ (List.mem_append_right _ (List.mem_append_right _ (List.mem_append_right _ (List.mem_append_right _ (List.mem_append_right _ (List.mem_append_left _ h))))))) wkg_c_X2_cartBits) rfl rfl rfl (by decide +kernel) ⟨Nat.le_of_ble_eq_true rfl, Nat.le_of_ble_eq_true rfl⟩) ⟨fun a U g mk q => by obtain ⟨q0, qP, qK⟩ := q; exact ⟨q0, qP, va_K.moved (u := U) (U := U.calling g mk a) (Vm.Alike.refl U.vm) qK⟩, va_recv hK hPc (ci := 2) (q0 := 0) rfl rfl, fun U hU hW => ⟨rfl, by rw [hU]; exact hPc, va_K.moved hW.alike hK⟩⟩ rfl rfl hl.1 rfl (lv_room (Nat.le_of_ble_eq_true rfl)) dX11_kept_23 ⟨Nat.le_of_ble_eq_true rfl, Nat.le_of_ble_eq_true rfl⟩)) (fun rz39 gz38 => ?_)
          clear hPc
          refine lv_goto (tgt := 31) hx hb dX11_kept_26 (by decide) ?_
          rw [hQ]
          exact W.iret (v := rz39) hx hb hr (fun t ht hW => ⟨rz39, rfl, trivial, ht⟩) (fun _ h => absurd h List.not_mem_nil) dX11_kept_31
        · skip
          have zz40 : p1.toInt = (2 : Int) := zi_eq.mp cz33
          refine W.eq (g2 := F0 m 22 ls [.int 2, .ref (sY 1 1)]) (by rw [cz33]) ?_
          refine va_aldq hx hb hK hP 27 4 rfl rfl (by unfold vp_in; decide) dX11_kept_22 ?_
          refine W.eq (g2 := F0 m 23 ls [.ref (sY 1 8)]) rfl ?_
          have hPc := hP.sub (ws' := (List.flatten [(wMem (fun i => sY 1 (i + 8)) k (fun i => (nY 1) (i + 2)) (fun i => (aY 1) (i + 4)))])) [34, 35, 36] rfl
          refine vp_callSi (va_Run.run (va_runV (As := []) (rest := []) ⟨hx, hb, hml, hown, hts⟩ (c_X2_cartBits l dC dI k (fun i => sY 1 (i + 8)) (fun i => (nY 1) (i + 2)) (fun i => (aY 1) (i + 4)) (fun i => (hnY 1) (i + 2))) (cwV 0 hts (gk_V (wl_mem 11 rfl) (wl_mem 12 rfl) (wl_mem 13 rfl) (wl_mem 14 rfl) (fun w h => List.mem_cons_of_mem _ (List.mem_append_right _ (List.mem_append_right _ (List.mem_append_right _ (List.mem_append_right _ (List.mem_append_right _ (List.mem_append_left _ h))))))) wkg_c_X2_cartBits) rfl rfl rfl (by decide +kernel) ⟨Nat.le_of_ble_eq_true rfl, Nat.le_of_ble_eq_true rfl⟩) ⟨fun a U g mk q => by obtain ⟨q0, qP, qK⟩ := q; exact ⟨q0, qP, va_K.moved (u := U) (U := U.calling g mk a) (Vm.Alike.refl U.vm) qK⟩, va_recv hK hPc (ci := 2) (q0 := 0) rfl rfl, fun U hU hW => ⟨rfl, by rw [hU]; exact hPc, va_K.moved hW.alike hK⟩⟩ rfl rfl hl.1 rfl (lv_room (Nat.le_of_ble_eq_true rfl)) dX11_kept_23 ⟨Nat.le_of_ble_eq_true rfl, Nat.le_of_ble_eq_true rfl⟩)) (fun rz42 gz41 => ?_)
          clear hPc
          refine lv_goto (tgt := 31) hx hb dX11_kept_26 (by decide) ?_
          rw [hQ]
          exact W.iret (v := rz42) hx hb hr (fun t ht hW => ⟨rz42, rfl, trivial, ht⟩) (fun _ h => absurd h List.not_mem_nil) dX11_kept_31
      · skip
        refine W.eq (g2 := F0 m 18 ls [.ref (sY 2 0)]) rfl ?_
        refine va_get (D := (dC, dI)) (ci := 7) (v := .ref (sY 2 1)) (C := RX7) (T := TX7) (N := 9) hx hb hts (fun w h => List.mem_cons_of_mem _ (List.mem_append_right _ (List.mem_append_right _ (List.mem_append_right _ (List.mem_append_right _ (List.mem_append_left _ h)))))) hown hK hP 37 rfl rfl 0 (by decide) (hts (.fieldLink RX11 194 "SagMemory$State" "memories" "[LSagMemory$Memory;") (wl_mem 10 rfl)) (fun _ h9 => h9) rfl dX11_kept_18 ?_
        refine lv_iload_n hx hb dX11_kept_21 rfl (lv_at hl 1 rfl) ?_
        rcases (show p1 = 0 ∨ p1 = 1 ∨ p1 = 2 by simp only [zi_eq]; show p1.toInt = 0 ∨ p1.toInt = 1 ∨ p1.toInt = 2; omega) with cz43 | cz43 | cz43
        · skip
          have zz44 : p1.toInt = (0 : Int) := zi_eq.mp cz43
          refine W.eq (g2 := F0 m 22 ls [.int 0, .ref (sY 2 1)]) (by rw [cz43]) ?_
          refine va_aldq hx hb hK hP 38 4 rfl rfl (by unfold vp_in; decide) dX11_kept_22 ?_
          refine W.eq (g2 := F0 m 23 ls [.ref (sY 2 2)]) rfl ?_
          have hPc := hP.sub (ws' := (List.flatten [(wMem (fun i => sY 2 (i + 2)) k (nY 2) (aY 2))])) [39, 40, 41] rfl
          refine vp_callSi (va_Run.run (va_runV (As := []) (rest := []) ⟨hx, hb, hml, hown, hts⟩ (c_X2_cartBits l dC dI k (fun i => sY 2 (i + 2)) (nY 2) (aY 2) (hnY 2)) (cwV 0 hts (gk_V (wl_mem 11 rfl) (wl_mem 12 rfl) (wl_mem 13 rfl) (wl_mem 14 rfl) (fun w h => List.mem_cons_of_mem _ (List.mem_append_right _ (List.mem_append_right _ (List.mem_append_right _ (List.mem_append_right _ (List.mem_append_right _ (List.mem_append_left _ h))))))) wkg_c_X2_cartBits) rfl rfl rfl (by decide +kernel) ⟨Nat.le_of_ble_eq_true rfl, Nat.le_of_ble_eq_true rfl⟩) ⟨fun a U g mk q => by obtain ⟨q0, qP, qK⟩ := q; exact ⟨q0, qP, va_K.moved (u := U) (U := U.calling g mk a) (Vm.Alike.refl U.vm) qK⟩, va_recv hK hPc (ci := 2) (q0 := 0) rfl rfl, fun U hU hW => ⟨rfl, by rw [hU]; exact hPc, va_K.moved hW.alike hK⟩⟩ rfl rfl hl.1 rfl (lv_room (Nat.le_of_ble_eq_true rfl)) dX11_kept_23 ⟨Nat.le_of_ble_eq_true rfl, Nat.le_of_ble_eq_true rfl⟩)) (fun rz46 gz45 => ?_)
          clear hPc
          refine lv_goto (tgt := 31) hx hb dX11_kept_26 (by decide) ?_
          rw [hQ]
          exact W.iret (v := rz46) hx hb hr (fun t ht hW => ⟨rz46, rfl, trivial, ht⟩) (fun _ h => absurd h List.not_mem_nil) dX11_kept_31
        · skip
          have zz47 : p1.toInt = (1 : Int) := zi_eq.mp cz43
          refine W.eq (g2 := F0 m 22 ls [.int 1, .ref (sY 2 1)]) (by rw [cz43]) ?_
          refine va_aldq hx hb hK hP 38 4 rfl rfl (by unfold vp_in; decide) dX11_kept_22 ?_
          refine W.eq (g2 := F0 m 23 ls [.ref (sY 2 5)]) rfl ?_
          have hPc := hP.sub (ws' := (List.flatten [(wMem (fun i => sY 2 (i + 5)) k (fun i => (nY 2) (i + 1)) (fun i => (aY 2) (i + 2)))])) [42, 43, 44] rfl
          refine vp_callSi (va_Run.run (va_runV (As := []) (rest := []) ⟨hx, hb, hml, hown, hts⟩ (c_X2_cartBits l dC dI k (fun i => sY 2 (i + 5)) (fun i => (nY 2) (i + 1)) (fun i => (aY 2) (i + 2)) (fun i => (hnY 2) (i + 1))) (cwV 0 hts (gk_V (wl_mem 11 rfl) (wl_mem 12 rfl) (wl_mem 13 rfl) (wl_mem 14 rfl) (fun w h => List.mem_cons_of_mem _ (List.mem_append_right _ (List.mem_append_right _ (List.mem_append_right _ (List.mem_append_right _ (List.mem_append_right _ (List.mem_append_left _ h))))))) wkg_c_X2_cartBits) rfl rfl rfl (by decide +kernel) ⟨Nat.le_of_ble_eq_true rfl, Nat.le_of_ble_eq_true rfl⟩) ⟨fun a U g mk q => by obtain ⟨q0, qP, qK⟩ := q; exact ⟨q0, qP, va_K.moved (u := U) (U := U.calling g mk a) (Vm.Alike.refl U.vm) qK⟩, va_recv hK hPc (ci := 2) (q0 := 0) rfl rfl, fun U hU hW => ⟨rfl, by rw [hU]; exact hPc, va_K.moved hW.alike hK⟩⟩ rfl rfl hl.1 rfl (lv_room (Nat.le_of_ble_eq_true rfl)) dX11_kept_23 ⟨Nat.le_of_ble_eq_true rfl, Nat.le_of_ble_eq_true rfl⟩)) (fun rz49 gz48 => ?_)
          clear hPc
          refine lv_goto (tgt := 31) hx hb dX11_kept_26 (by decide) ?_
          rw [hQ]
          exact W.iret (v := rz49) hx hb hr (fun t ht hW => ⟨rz49, rfl, trivial, ht⟩) (fun _ h => absurd h List.not_mem_nil) dX11_kept_31
        · skip
          have zz50 : p1.toInt = (2 : Int) := zi_eq.mp cz43
          refine W.eq (g2 := F0 m 22 ls [.int 2, .ref (sY 2 1)]) (by rw [cz43]) ?_
          refine va_aldq hx hb hK hP 38 4 rfl rfl (by unfold vp_in; decide) dX11_kept_22 ?_
          refine W.eq (g2 := F0 m 23 ls [.ref (sY 2 8)]) rfl ?_
          have hPc := hP.sub (ws' := (List.flatten [(wMem (fun i => sY 2 (i + 8)) k (fun i => (nY 2) (i + 2)) (fun i => (aY 2) (i + 4)))])) [45, 46, 47] rfl
          refine vp_callSi (va_Run.run (va_runV (As := []) (rest := []) ⟨hx, hb, hml, hown, hts⟩ (c_X2_cartBits l dC dI k (fun i => sY 2 (i + 8)) (fun i => (nY 2) (i + 2)) (fun i => (aY 2) (i + 4)) (fun i => (hnY 2) (i + 2))) (cwV 0 hts (gk_V (wl_mem 11 rfl) (wl_mem 12 rfl) (wl_mem 13 rfl) (wl_mem 14 rfl) (fun w h => List.mem_cons_of_mem _ (List.mem_append_right _ (List.mem_append_right _ (List.mem_append_right _ (List.mem_append_right _ (List.mem_append_right _ (List.mem_append_left _ h))))))) wkg_c_X2_cartBits) rfl rfl rfl (by decide +kernel) ⟨Nat.le_of_ble_eq_true rfl, Nat.le_of_ble_eq_true rfl⟩) ⟨fun a U g mk q => by obtain ⟨q0, qP, qK⟩ := q; exact ⟨q0, qP, va_K.moved (u := U) (U := U.calling g mk a) (Vm.Alike.refl U.vm) qK⟩, va_recv hK hPc (ci := 2) (q0 := 0) rfl rfl, fun U hU hW => ⟨rfl, by rw [hU]; exact hPc, va_K.moved hW.alike hK⟩⟩ rfl rfl hl.1 rfl (lv_room (Nat.le_of_ble_eq_true rfl)) dX11_kept_23 ⟨Nat.le_of_ble_eq_true rfl, Nat.le_of_ble_eq_true rfl⟩)) (fun rz52 gz51 => ?_)
          clear hPc
          refine lv_goto (tgt := 31) hx hb dX11_kept_26 (by decide) ?_
          rw [hQ]
          exact W.iret (v := rz52) hx hb hr (fun t ht hW => ⟨rz52, rfl, trivial, ht⟩) (fun _ h => absurd h List.not_mem_nil) dX11_kept_31
      · skip
        refine W.eq (g2 := F0 m 18 ls [.ref (sY 3 0)]) rfl ?_
        refine va_get (D := (dC, dI)) (ci := 7) (v := .ref (sY 3 1)) (C := RX7) (T := TX7) (N := 9) hx hb hts (fun w h => List.mem_cons_of_mem _ (List.mem_append_right _ (List.mem_append_right _ (List.mem_append_right _ (List.mem_append_right _ (List.mem_append_left _ h)))))) hown hK hP 48 rfl rfl 0 (by decide) (hts (.fieldLink RX11 194 "SagMemory$State" "memories" "[LSagMemory$Memory;") (wl_mem 10 rfl)) (fun _ h9 => h9) rfl dX11_kept_18 ?_
        refine lv_iload_n hx hb dX11_kept_21 rfl (lv_at hl 1 rfl) ?_
        rcases (show p1 = 0 ∨ p1 = 1 ∨ p1 = 2 by simp only [zi_eq]; show p1.toInt = 0 ∨ p1.toInt = 1 ∨ p1.toInt = 2; omega) with cz53 | cz53 | cz53
        · skip
          have zz54 : p1.toInt = (0 : Int) := zi_eq.mp cz53
          refine W.eq (g2 := F0 m 22 ls [.int 0, .ref (sY 3 1)]) (by rw [cz53]) ?_
          refine va_aldq hx hb hK hP 49 4 rfl rfl (by unfold vp_in; decide) dX11_kept_22 ?_
          refine W.eq (g2 := F0 m 23 ls [.ref (sY 3 2)]) rfl ?_
          have hPc := hP.sub (ws' := (List.flatten [(wMem (fun i => sY 3 (i + 2)) k (nY 3) (aY 3))])) [50, 51, 52] rfl
          refine vp_callSi (va_Run.run (va_runV (As := []) (rest := []) ⟨hx, hb, hml, hown, hts⟩ (c_X2_cartBits l dC dI k (fun i => sY 3 (i + 2)) (nY 3) (aY 3) (hnY 3)) (cwV 0 hts (gk_V (wl_mem 11 rfl) (wl_mem 12 rfl) (wl_mem 13 rfl) (wl_mem 14 rfl) (fun w h => List.mem_cons_of_mem _ (List.mem_append_right _ (List.mem_append_right _ (List.mem_append_right _ (List.mem_append_right _ (List.mem_append_right _ (List.mem_append_left _ h))))))) wkg_c_X2_cartBits) rfl rfl rfl (by decide +kernel) ⟨Nat.le_of_ble_eq_true rfl, Nat.le_of_ble_eq_true rfl⟩) ⟨fun a U g mk q => by obtain ⟨q0, qP, qK⟩ := q; exact ⟨q0, qP, va_K.moved (u := U) (U := U.calling g mk a) (Vm.Alike.refl U.vm) qK⟩, va_recv hK hPc (ci := 2) (q0 := 0) rfl rfl, fun U hU hW => ⟨rfl, by rw [hU]; exact hPc, va_K.moved hW.alike hK⟩⟩ rfl rfl hl.1 rfl (lv_room (Nat.le_of_ble_eq_true rfl)) dX11_kept_23 ⟨Nat.le_of_ble_eq_true rfl, Nat.le_of_ble_eq_true rfl⟩)) (fun rz56 gz55 => ?_)
          clear hPc
          refine lv_goto (tgt := 31) hx hb dX11_kept_26 (by decide) ?_
          rw [hQ]
          exact W.iret (v := rz56) hx hb hr (fun t ht hW => ⟨rz56, rfl, trivial, ht⟩) (fun _ h => absurd h List.not_mem_nil) dX11_kept_31
        · skip
          have zz57 : p1.toInt = (1 : Int) := zi_eq.mp cz53
          refine W.eq (g2 := F0 m 22 ls [.int 1, .ref (sY 3 1)]) (by rw [cz53]) ?_
          refine va_aldq hx hb hK hP 49 4 rfl rfl (by unfold vp_in; decide) dX11_kept_22 ?_
          refine W.eq (g2 := F0 m 23 ls [.ref (sY 3 5)]) rfl ?_
          have hPc := hP.sub (ws' := (List.flatten [(wMem (fun i => sY 3 (i + 5)) k (fun i => (nY 3) (i + 1)) (fun i => (aY 3) (i + 2)))])) [53, 54, 55] rfl
          refine vp_callSi (va_Run.run (va_runV (As := []) (rest := []) ⟨hx, hb, hml, hown, hts⟩ (c_X2_cartBits l dC dI k (fun i => sY 3 (i + 5)) (fun i => (nY 3) (i + 1)) (fun i => (aY 3) (i + 2)) (fun i => (hnY 3) (i + 1))) (cwV 0 hts (gk_V (wl_mem 11 rfl) (wl_mem 12 rfl) (wl_mem 13 rfl) (wl_mem 14 rfl) (fun w h => List.mem_cons_of_mem _ (List.mem_append_right _ (List.mem_append_right _ (List.mem_append_right _ (List.mem_append_right _ (List.mem_append_right _ (List.mem_append_left _ h))))))) wkg_c_X2_cartBits) rfl rfl rfl (by decide +kernel) ⟨Nat.le_of_ble_eq_true rfl, Nat.le_of_ble_eq_true rfl⟩) ⟨fun a U g mk q => by obtain ⟨q0, qP, qK⟩ := q; exact ⟨q0, qP, va_K.moved (u := U) (U := U.calling g mk a) (Vm.Alike.refl U.vm) qK⟩, va_recv hK hPc (ci := 2) (q0 := 0) rfl rfl, fun U hU hW => ⟨rfl, by rw [hU]; exact hPc, va_K.moved hW.alike hK⟩⟩ rfl rfl hl.1 rfl (lv_room (Nat.le_of_ble_eq_true rfl)) dX11_kept_23 ⟨Nat.le_of_ble_eq_true rfl, Nat.le_of_ble_eq_true rfl⟩)) (fun rz59 gz58 => ?_)
          clear hPc
          refine lv_goto (tgt := 31) hx hb dX11_kept_26 (by decide) ?_
          rw [hQ]
          exact W.iret (v := rz59) hx hb hr (fun t ht hW => ⟨rz59, rfl, trivial, ht⟩) (fun _ h => absurd h List.not_mem_nil) dX11_kept_31
        · skip
          have zz60 : p1.toInt = (2 : Int) := zi_eq.mp cz53
          refine W.eq (g2 := F0 m 22 ls [.int 2, .ref (sY 3 1)]) (by rw [cz53]) ?_
          refine va_aldq hx hb hK hP 49 4 rfl rfl (by unfold vp_in; decide) dX11_kept_22 ?_
          refine W.eq (g2 := F0 m 23 ls [.ref (sY 3 8)]) rfl ?_
          have hPc := hP.sub (ws' := (List.flatten [(wMem (fun i => sY 3 (i + 8)) k (fun i => (nY 3) (i + 2)) (fun i => (aY 3) (i + 4)))])) [56, 57, 58] rfl
          refine vp_callSi (va_Run.run (va_runV (As := []) (rest := []) ⟨hx, hb, hml, hown, hts⟩ (c_X2_cartBits l dC dI k (fun i => sY 3 (i + 8)) (fun i => (nY 3) (i + 2)) (fun i => (aY 3) (i + 4)) (fun i => (hnY 3) (i + 2))) (cwV 0 hts (gk_V (wl_mem 11 rfl) (wl_mem 12 rfl) (wl_mem 13 rfl) (wl_mem 14 rfl) (fun w h => List.mem_cons_of_mem _ (List.mem_append_right _ (List.mem_append_right _ (List.mem_append_right _ (List.mem_append_right _ (List.mem_append_right _ (List.mem_append_left _ h))))))) wkg_c_X2_cartBits) rfl rfl rfl (by decide +kernel) ⟨Nat.le_of_ble_eq_true rfl, Nat.le_of_ble_eq_true rfl⟩) ⟨fun a U g mk q => by obtain ⟨q0, qP, qK⟩ := q; exact ⟨q0, qP, va_K.moved (u := U) (U := U.calling g mk a) (Vm.Alike.refl U.vm) qK⟩, va_recv hK hPc (ci := 2) (q0 := 0) rfl rfl, fun U hU hW => ⟨rfl, by rw [hU]; exact hPc, va_K.moved hW.alike hK⟩⟩ rfl rfl hl.1 rfl (lv_room (Nat.le_of_ble_eq_true rfl)) dX11_kept_23 ⟨Nat.le_of_ble_eq_true rfl, Nat.le_of_ble_eq_true rfl⟩)) (fun rz62 gz61 => ?_)
          clear hPc
          refine lv_goto (tgt := 31) hx hb dX11_kept_26 (by decide) ?_
          rw [hQ]
          exact W.iret (v := rz62) hx hb hr (fun t ht hW => ⟨rz62, rfl, trivial, ht⟩) (fun _ h => absurd h List.not_mem_nil) dX11_kept_31
      · skip
        refine W.eq (g2 := F0 m 18 ls [.ref (sY 4 0)]) rfl ?_
        refine va_get (D := (dC, dI)) (ci := 7) (v := .ref (sY 4 1)) (C := RX7) (T := TX7) (N := 9) hx hb hts (fun w h => List.mem_cons_of_mem _ (List.mem_append_right _ (List.mem_append_right _ (List.mem_append_right _ (List.mem_append_right _ (List.mem_append_left _ h)))))) hown hK hP 59 rfl rfl 0 (by decide) (hts (.fieldLink RX11 194 "SagMemory$State" "memories" "[LSagMemory$Memory;") (wl_mem 10 rfl)) (fun _ h9 => h9) rfl dX11_kept_18 ?_
        refine lv_iload_n hx hb dX11_kept_21 rfl (lv_at hl 1 rfl) ?_
        rcases (show p1 = 0 ∨ p1 = 1 ∨ p1 = 2 by simp only [zi_eq]; show p1.toInt = 0 ∨ p1.toInt = 1 ∨ p1.toInt = 2; omega) with cz63 | cz63 | cz63
        · skip
          have zz64 : p1.toInt = (0 : Int) := zi_eq.mp cz63
          refine W.eq (g2 := F0 m 22 ls [.int 0, .ref (sY 4 1)]) (by rw [cz63]) ?_
          refine va_aldq hx hb hK hP 60 4 rfl rfl (by unfold vp_in; decide) dX11_kept_22 ?_
          refine W.eq (g2 := F0 m 23 ls [.ref (sY 4 2)]) rfl ?_
          have hPc := hP.sub (ws' := (List.flatten [(wMem (fun i => sY 4 (i + 2)) k (nY 4) (aY 4))])) [61, 62, 63] rfl
          refine vp_callSi (va_Run.run (va_runV (As := []) (rest := []) ⟨hx, hb, hml, hown, hts⟩ (c_X2_cartBits l dC dI k (fun i => sY 4 (i + 2)) (nY 4) (aY 4) (hnY 4)) (cwV 0 hts (gk_V (wl_mem 11 rfl) (wl_mem 12 rfl) (wl_mem 13 rfl) (wl_mem 14 rfl) (fun w h => List.mem_cons_of_mem _ (List.mem_append_right _ (List.mem_append_right _ (List.mem_append_right _ (List.mem_append_right _ (List.mem_append_right _ (List.mem_append_left _ h))))))) wkg_c_X2_cartBits) rfl rfl rfl (by decide +kernel) ⟨Nat.le_of_ble_eq_true rfl, Nat.le_of_ble_eq_true rfl⟩) ⟨fun a U g mk q => by obtain ⟨q0, qP, qK⟩ := q; exact ⟨q0, qP, va_K.moved (u := U) (U := U.calling g mk a) (Vm.Alike.refl U.vm) qK⟩, va_recv hK hPc (ci := 2) (q0 := 0) rfl rfl, fun U hU hW => ⟨rfl, by rw [hU]; exact hPc, va_K.moved hW.alike hK⟩⟩ rfl rfl hl.1 rfl (lv_room (Nat.le_of_ble_eq_true rfl)) dX11_kept_23 ⟨Nat.le_of_ble_eq_true rfl, Nat.le_of_ble_eq_true rfl⟩)) (fun rz66 gz65 => ?_)
          clear hPc
          refine lv_goto (tgt := 31) hx hb dX11_kept_26 (by decide) ?_
          rw [hQ]
          exact W.iret (v := rz66) hx hb hr (fun t ht hW => ⟨rz66, rfl, trivial, ht⟩) (fun _ h => absurd h List.not_mem_nil) dX11_kept_31
        · skip
          have zz67 : p1.toInt = (1 : Int) := zi_eq.mp cz63
          refine W.eq (g2 := F0 m 22 ls [.int 1, .ref (sY 4 1)]) (by rw [cz63]) ?_
          refine va_aldq hx hb hK hP 60 4 rfl rfl (by unfold vp_in; decide) dX11_kept_22 ?_
          refine W.eq (g2 := F0 m 23 ls [.ref (sY 4 5)]) rfl ?_
          have hPc := hP.sub (ws' := (List.flatten [(wMem (fun i => sY 4 (i + 5)) k (fun i => (nY 4) (i + 1)) (fun i => (aY 4) (i + 2)))])) [64, 65, 66] rfl
          refine vp_callSi (va_Run.run (va_runV (As := []) (rest := []) ⟨hx, hb, hml, hown, hts⟩ (c_X2_cartBits l dC dI k (fun i => sY 4 (i + 5)) (fun i => (nY 4) (i + 1)) (fun i => (aY 4) (i + 2)) (fun i => (hnY 4) (i + 1))) (cwV 0 hts (gk_V (wl_mem 11 rfl) (wl_mem 12 rfl) (wl_mem 13 rfl) (wl_mem 14 rfl) (fun w h => List.mem_cons_of_mem _ (List.mem_append_right _ (List.mem_append_right _ (List.mem_append_right _ (List.mem_append_right _ (List.mem_append_right _ (List.mem_append_left _ h))))))) wkg_c_X2_cartBits) rfl rfl rfl (by decide +kernel) ⟨Nat.le_of_ble_eq_true rfl, Nat.le_of_ble_eq_true rfl⟩) ⟨fun a U g mk q => by obtain ⟨q0, qP, qK⟩ := q; exact ⟨q0, qP, va_K.moved (u := U) (U := U.calling g mk a) (Vm.Alike.refl U.vm) qK⟩, va_recv hK hPc (ci := 2) (q0 := 0) rfl rfl, fun U hU hW => ⟨rfl, by rw [hU]; exact hPc, va_K.moved hW.alike hK⟩⟩ rfl rfl hl.1 rfl (lv_room (Nat.le_of_ble_eq_true rfl)) dX11_kept_23 ⟨Nat.le_of_ble_eq_true rfl, Nat.le_of_ble_eq_true rfl⟩)) (fun rz69 gz68 => ?_)
          clear hPc
          refine lv_goto (tgt := 31) hx hb dX11_kept_26 (by decide) ?_
          rw [hQ]
          exact W.iret (v := rz69) hx hb hr (fun t ht hW => ⟨rz69, rfl, trivial, ht⟩) (fun _ h => absurd h List.not_mem_nil) dX11_kept_31
        · skip
          have zz70 : p1.toInt = (2 : Int) := zi_eq.mp cz63
          refine W.eq (g2 := F0 m 22 ls [.int 2, .ref (sY 4 1)]) (by rw [cz63]) ?_
          refine va_aldq hx hb hK hP 60 4 rfl rfl (by unfold vp_in; decide) dX11_kept_22 ?_
          refine W.eq (g2 := F0 m 23 ls [.ref (sY 4 8)]) rfl ?_
          have hPc := hP.sub (ws' := (List.flatten [(wMem (fun i => sY 4 (i + 8)) k (fun i => (nY 4) (i + 2)) (fun i => (aY 4) (i + 4)))])) [67, 68, 69] rfl
          refine vp_callSi (va_Run.run (va_runV (As := []) (rest := []) ⟨hx, hb, hml, hown, hts⟩ (c_X2_cartBits l dC dI k (fun i => sY 4 (i + 8)) (fun i => (nY 4) (i + 2)) (fun i => (aY 4) (i + 4)) (fun i => (hnY 4) (i + 2))) (cwV 0 hts (gk_V (wl_mem 11 rfl) (wl_mem 12 rfl) (wl_mem 13 rfl) (wl_mem 14 rfl) (fun w h => List.mem_cons_of_mem _ (List.mem_append_right _ (List.mem_append_right _ (List.mem_append_right _ (List.mem_append_right _ (List.mem_append_right _ (List.mem_append_left _ h))))))) wkg_c_X2_cartBits) rfl rfl rfl (by decide +kernel) ⟨Nat.le_of_ble_eq_true rfl, Nat.le_of_ble_eq_true rfl⟩) ⟨fun a U g mk q => by obtain ⟨q0, qP, qK⟩ := q; exact ⟨q0, qP, va_K.moved (u := U) (U := U.calling g mk a) (Vm.Alike.refl U.vm) qK⟩, va_recv hK hPc (ci := 2) (q0 := 0) rfl rfl, fun U hU hW => ⟨rfl, by rw [hU]; exact hPc, va_K.moved hW.alike hK⟩⟩ rfl rfl hl.1 rfl (lv_room (Nat.le_of_ble_eq_true rfl)) dX11_kept_23 ⟨Nat.le_of_ble_eq_true rfl, Nat.le_of_ble_eq_true rfl⟩)) (fun rz72 gz71 => ?_)
          clear hPc
          refine lv_goto (tgt := 31) hx hb dX11_kept_26 (by decide) ?_
          rw [hQ]
          exact W.iret (v := rz72) hx hb hr (fun t ht hW => ⟨rz72, rfl, trivial, ht⟩) (fun _ h => absurd h List.not_mem_nil) dX11_kept_31
      · skip
        refine W.eq (g2 := F0 m 18 ls [.ref (sY 5 0)]) rfl ?_
        refine va_get (D := (dC, dI)) (ci := 7) (v := .ref (sY 5 1)) (C := RX7) (T := TX7) (N := 9) hx hb hts (fun w h => List.mem_cons_of_mem _ (List.mem_append_right _ (List.mem_append_right _ (List.mem_append_right _ (List.mem_append_right _ (List.mem_append_left _ h)))))) hown hK hP 70 rfl rfl 0 (by decide) (hts (.fieldLink RX11 194 "SagMemory$State" "memories" "[LSagMemory$Memory;") (wl_mem 10 rfl)) (fun _ h9 => h9) rfl dX11_kept_18 ?_
        refine lv_iload_n hx hb dX11_kept_21 rfl (lv_at hl 1 rfl) ?_
        rcases (show p1 = 0 ∨ p1 = 1 ∨ p1 = 2 by simp only [zi_eq]; show p1.toInt = 0 ∨ p1.toInt = 1 ∨ p1.toInt = 2; omega) with cz73 | cz73 | cz73
        · skip
          have zz74 : p1.toInt = (0 : Int) := zi_eq.mp cz73
          refine W.eq (g2 := F0 m 22 ls [.int 0, .ref (sY 5 1)]) (by rw [cz73]) ?_
          refine va_aldq hx hb hK hP 71 4 rfl rfl (by unfold vp_in; decide) dX11_kept_22 ?_
          refine W.eq (g2 := F0 m 23 ls [.ref (sY 5 2)]) rfl ?_
          have hPc := hP.sub (ws' := (List.flatten [(wMem (fun i => sY 5 (i + 2)) k (nY 5) (aY 5))])) [72, 73, 74] rfl
          refine vp_callSi (va_Run.run (va_runV (As := []) (rest := []) ⟨hx, hb, hml, hown, hts⟩ (c_X2_cartBits l dC dI k (fun i => sY 5 (i + 2)) (nY 5) (aY 5) (hnY 5)) (cwV 0 hts (gk_V (wl_mem 11 rfl) (wl_mem 12 rfl) (wl_mem 13 rfl) (wl_mem 14 rfl) (fun w h => List.mem_cons_of_mem _ (List.mem_append_right _ (List.mem_append_right _ (List.mem_append_right _ (List.mem_append_right _ (List.mem_append_right _ (List.mem_append_left _ h))))))) wkg_c_X2_cartBits) rfl rfl rfl (by decide +kernel) ⟨Nat.le_of_ble_eq_true rfl, Nat.le_of_ble_eq_true rfl⟩) ⟨fun a U g mk q => by obtain ⟨q0, qP, qK⟩ := q; exact ⟨q0, qP, va_K.moved (u := U) (U := U.calling g mk a) (Vm.Alike.refl U.vm) qK⟩, va_recv hK hPc (ci := 2) (q0 := 0) rfl rfl, fun U hU hW => ⟨rfl, by rw [hU]; exact hPc, va_K.moved hW.alike hK⟩⟩ rfl rfl hl.1 rfl (lv_room (Nat.le_of_ble_eq_true rfl)) dX11_kept_23 ⟨Nat.le_of_ble_eq_true rfl, Nat.le_of_ble_eq_true rfl⟩)) (fun rz76 gz75 => ?_)
          clear hPc
          refine lv_goto (tgt := 31) hx hb dX11_kept_26 (by decide) ?_
          rw [hQ]
          exact W.iret (v := rz76) hx hb hr (fun t ht hW => ⟨rz76, rfl, trivial, ht⟩) (fun _ h => absurd h List.not_mem_nil) dX11_kept_31
        · skip
          have zz77 : p1.toInt = (1 : Int) := zi_eq.mp cz73
          refine W.eq (g2 := F0 m 22 ls [.int 1, .ref (sY 5 1)]) (by rw [cz73]) ?_
          refine va_aldq hx hb hK hP 71 4 rfl rfl (by unfold vp_in; decide) dX11_kept_22 ?_
          refine W.eq (g2 := F0 m 23 ls [.ref (sY 5 5)]) rfl ?_
          have hPc := hP.sub (ws' := (List.flatten [(wMem (fun i => sY 5 (i + 5)) k (fun i => (nY 5) (i + 1)) (fun i => (aY 5) (i + 2)))])) [75, 76, 77] rfl
          refine vp_callSi (va_Run.run (va_runV (As := []) (rest := []) ⟨hx, hb, hml, hown, hts⟩ (c_X2_cartBits l dC dI k (fun i => sY 5 (i + 5)) (fun i => (nY 5) (i + 1)) (fun i => (aY 5) (i + 2)) (fun i => (hnY 5) (i + 1))) (cwV 0 hts (gk_V (wl_mem 11 rfl) (wl_mem 12 rfl) (wl_mem 13 rfl) (wl_mem 14 rfl) (fun w h => List.mem_cons_of_mem _ (List.mem_append_right _ (List.mem_append_right _ (List.mem_append_right _ (List.mem_append_right _ (List.mem_append_right _ (List.mem_append_left _ h))))))) wkg_c_X2_cartBits) rfl rfl rfl (by decide +kernel) ⟨Nat.le_of_ble_eq_true rfl, Nat.le_of_ble_eq_true rfl⟩) ⟨fun a U g mk q => by obtain ⟨q0, qP, qK⟩ := q; exact ⟨q0, qP, va_K.moved (u := U) (U := U.calling g mk a) (Vm.Alike.refl U.vm) qK⟩, va_recv hK hPc (ci := 2) (q0 := 0) rfl rfl, fun U hU hW => ⟨rfl, by rw [hU]; exact hPc, va_K.moved hW.alike hK⟩⟩ rfl rfl hl.1 rfl (lv_room (Nat.le_of_ble_eq_true rfl)) dX11_kept_23 ⟨Nat.le_of_ble_eq_true rfl, Nat.le_of_ble_eq_true rfl⟩)) (fun rz79 gz78 => ?_)
          clear hPc
          refine lv_goto (tgt := 31) hx hb dX11_kept_26 (by decide) ?_
          rw [hQ]
          exact W.iret (v := rz79) hx hb hr (fun t ht hW => ⟨rz79, rfl, trivial, ht⟩) (fun _ h => absurd h List.not_mem_nil) dX11_kept_31
        · skip
          have zz80 : p1.toInt = (2 : Int) := zi_eq.mp cz73
          refine W.eq (g2 := F0 m 22 ls [.int 2, .ref (sY 5 1)]) (by rw [cz73]) ?_
          refine va_aldq hx hb hK hP 71 4 rfl rfl (by unfold vp_in; decide) dX11_kept_22 ?_
          refine W.eq (g2 := F0 m 23 ls [.ref (sY 5 8)]) rfl ?_
          have hPc := hP.sub (ws' := (List.flatten [(wMem (fun i => sY 5 (i + 8)) k (fun i => (nY 5) (i + 2)) (fun i => (aY 5) (i + 4)))])) [78, 79, 80] rfl
          refine vp_callSi (va_Run.run (va_runV (As := []) (rest := []) ⟨hx, hb, hml, hown, hts⟩ (c_X2_cartBits l dC dI k (fun i => sY 5 (i + 8)) (fun i => (nY 5) (i + 2)) (fun i => (aY 5) (i + 4)) (fun i => (hnY 5) (i + 2))) (cwV 0 hts (gk_V (wl_mem 11 rfl) (wl_mem 12 rfl) (wl_mem 13 rfl) (wl_mem 14 rfl) (fun w h => List.mem_cons_of_mem _ (List.mem_append_right _ (List.mem_append_right _ (List.mem_append_right _ (List.mem_append_right _ (List.mem_append_right _ (List.mem_append_left _ h))))))) wkg_c_X2_cartBits) rfl rfl rfl (by decide +kernel) ⟨Nat.le_of_ble_eq_true rfl, Nat.le_of_ble_eq_true rfl⟩) ⟨fun a U g mk q => by obtain ⟨q0, qP, qK⟩ := q; exact ⟨q0, qP, va_K.moved (u := U) (U := U.calling g mk a) (Vm.Alike.refl U.vm) qK⟩, va_recv hK hPc (ci := 2) (q0 := 0) rfl rfl, fun U hU hW => ⟨rfl, by rw [hU]; exact hPc, va_K.moved hW.alike hK⟩⟩ rfl rfl hl.1 rfl (lv_room (Nat.le_of_ble_eq_true rfl)) dX11_kept_23 ⟨Nat.le_of_ble_eq_true rfl, Nat.le_of_ble_eq_true rfl⟩)) (fun rz82 gz81 => ?_)
          clear hPc
          refine lv_goto (tgt := 31) hx hb dX11_kept_26 (by decide) ?_
          rw [hQ]
          exact W.iret (v := rz82) hx hb hr (fun t ht hW => ⟨rz82, rfl, trivial, ht⟩) (fun _ h => absurd h List.not_mem_nil) dX11_kept_31
      · skip
        refine W.eq (g2 := F0 m 18 ls [.ref (sY 6 0)]) rfl ?_
        refine va_get (D := (dC, dI)) (ci := 7) (v := .ref (sY 6 1)) (C := RX7) (T := TX7) (N := 9) hx hb hts (fun w h => List.mem_cons_of_mem _ (List.mem_append_right _ (List.mem_append_right _ (List.mem_append_right _ (List.mem_append_right _ (List.mem_append_left _ h)))))) hown hK hP 81 rfl rfl 0 (by decide) (hts (.fieldLink RX11 194 "SagMemory$State" "memories" "[LSagMemory$Memory;") (wl_mem 10 rfl)) (fun _ h9 => h9) rfl dX11_kept_18 ?_
        refine lv_iload_n hx hb dX11_kept_21 rfl (lv_at hl 1 rfl) ?_
        rcases (show p1 = 0 ∨ p1 = 1 ∨ p1 = 2 by simp only [zi_eq]; show p1.toInt = 0 ∨ p1.toInt = 1 ∨ p1.toInt = 2; omega) with cz83 | cz83 | cz83
        · skip
          have zz84 : p1.toInt = (0 : Int) := zi_eq.mp cz83
          refine W.eq (g2 := F0 m 22 ls [.int 0, .ref (sY 6 1)]) (by rw [cz83]) ?_
          refine va_aldq hx hb hK hP 82 4 rfl rfl (by unfold vp_in; decide) dX11_kept_22 ?_
          refine W.eq (g2 := F0 m 23 ls [.ref (sY 6 2)]) rfl ?_
          have hPc := hP.sub (ws' := (List.flatten [(wMem (fun i => sY 6 (i + 2)) k (nY 6) (aY 6))])) [83, 84, 85] rfl
          refine vp_callSi (va_Run.run (va_runV (As := []) (rest := []) ⟨hx, hb, hml, hown, hts⟩ (c_X2_cartBits l dC dI k (fun i => sY 6 (i + 2)) (nY 6) (aY 6) (hnY 6)) (cwV 0 hts (gk_V (wl_mem 11 rfl) (wl_mem 12 rfl) (wl_mem 13 rfl) (wl_mem 14 rfl) (fun w h => List.mem_cons_of_mem _ (List.mem_append_right _ (List.mem_append_right _ (List.mem_append_right _ (List.mem_append_right _ (List.mem_append_right _ (List.mem_append_left _ h))))))) wkg_c_X2_cartBits) rfl rfl rfl (by decide +kernel) ⟨Nat.le_of_ble_eq_true rfl, Nat.le_of_ble_eq_true rfl⟩) ⟨fun a U g mk q => by obtain ⟨q0, qP, qK⟩ := q; exact ⟨q0, qP, va_K.moved (u := U) (U := U.calling g mk a) (Vm.Alike.refl U.vm) qK⟩, va_recv hK hPc (ci := 2) (q0 := 0) rfl rfl, fun U hU hW => ⟨rfl, by rw [hU]; exact hPc, va_K.moved hW.alike hK⟩⟩ rfl rfl hl.1 rfl (lv_room (Nat.le_of_ble_eq_true rfl)) dX11_kept_23 ⟨Nat.le_of_ble_eq_true rfl, Nat.le_of_ble_eq_true rfl⟩)) (fun rz86 gz85 => ?_)
          clear hPc
          refine lv_goto (tgt := 31) hx hb dX11_kept_26 (by decide) ?_
          rw [hQ]
          exact W.iret (v := rz86) hx hb hr (fun t ht hW => ⟨rz86, rfl, trivial, ht⟩) (fun _ h => absurd h List.not_mem_nil) dX11_kept_31
        · skip
          have zz87 : p1.toInt = (1 : Int) := zi_eq.mp cz83
          refine W.eq (g2 := F0 m 22 ls [.int 1, .ref (sY 6 1)]) (by rw [cz83]) ?_
          refine va_aldq hx hb hK hP 82 4 rfl rfl (by unfold vp_in; decide) dX11_kept_22 ?_
          refine W.eq (g2 := F0 m 23 ls [.ref (sY 6 5)]) rfl ?_
          have hPc := hP.sub (ws' := (List.flatten [(wMem (fun i => sY 6 (i + 5)) k (fun i => (nY 6) (i + 1)) (fun i => (aY 6) (i + 2)))])) [86, 87, 88] rfl
          refine vp_callSi (va_Run.run (va_runV (As := []) (rest := []) ⟨hx, hb, hml, hown, hts⟩ (c_X2_cartBits l dC dI k (fun i => sY 6 (i + 5)) (fun i => (nY 6) (i + 1)) (fun i => (aY 6) (i + 2)) (fun i => (hnY 6) (i + 1))) (cwV 0 hts (gk_V (wl_mem 11 rfl) (wl_mem 12 rfl) (wl_mem 13 rfl) (wl_mem 14 rfl) (fun w h => List.mem_cons_of_mem _ (List.mem_append_right _ (List.mem_append_right _ (List.mem_append_right _ (List.mem_append_right _ (List.mem_append_right _ (List.mem_append_left _ h))))))) wkg_c_X2_cartBits) rfl rfl rfl (by decide +kernel) ⟨Nat.le_of_ble_eq_true rfl, Nat.le_of_ble_eq_true rfl⟩) ⟨fun a U g mk q => by obtain ⟨q0, qP, qK⟩ := q; exact ⟨q0, qP, va_K.moved (u := U) (U := U.calling g mk a) (Vm.Alike.refl U.vm) qK⟩, va_recv hK hPc (ci := 2) (q0 := 0) rfl rfl, fun U hU hW => ⟨rfl, by rw [hU]; exact hPc, va_K.moved hW.alike hK⟩⟩ rfl rfl hl.1 rfl (lv_room (Nat.le_of_ble_eq_true rfl)) dX11_kept_23 ⟨Nat.le_of_ble_eq_true rfl, Nat.le_of_ble_eq_true rfl⟩)) (fun rz89 gz88 => ?_)
          clear hPc
          refine lv_goto (tgt := 31) hx hb dX11_kept_26 (by decide) ?_
          rw [hQ]
          exact W.iret (v := rz89) hx hb hr (fun t ht hW => ⟨rz89, rfl, trivial, ht⟩) (fun _ h => absurd h List.not_mem_nil) dX11_kept_31
        · skip
          have zz90 : p1.toInt = (2 : Int) := zi_eq.mp cz83
          refine W.eq (g2 := F0 m 22 ls [.int 2, .ref (sY 6 1)]) (by rw [cz83]) ?_
          refine va_aldq hx hb hK hP 82 4 rfl rfl (by unfold vp_in; decide) dX11_kept_22 ?_
          refine W.eq (g2 := F0 m 23 ls [.ref (sY 6 8)]) rfl ?_
          have hPc := hP.sub (ws' := (List.flatten [(wMem (fun i => sY 6 (i + 8)) k (fun i => (nY 6) (i + 2)) (fun i => (aY 6) (i + 4)))])) [89, 90, 91] rfl
          refine vp_callSi (va_Run.run (va_runV (As := []) (rest := []) ⟨hx, hb, hml, hown, hts⟩ (c_X2_cartBits l dC dI k (fun i => sY 6 (i + 8)) (fun i => (nY 6) (i + 2)) (fun i => (aY 6) (i + 4)) (fun i => (hnY 6) (i + 2))) (cwV 0 hts (gk_V (wl_mem 11 rfl) (wl_mem 12 rfl) (wl_mem 13 rfl) (wl_mem 14 rfl) (fun w h => List.mem_cons_of_mem _ (List.mem_append_right _ (List.mem_append_right _ (List.mem_append_right _ (List.mem_append_right _ (List.mem_append_right _ (List.mem_append_left _ h))))))) wkg_c_X2_cartBits) rfl rfl rfl (by decide +kernel) ⟨Nat.le_of_ble_eq_true rfl, Nat.le_of_ble_eq_true rfl⟩) ⟨fun a U g mk q => by obtain ⟨q0, qP, qK⟩ := q; exact ⟨q0, qP, va_K.moved (u := U) (U := U.calling g mk a) (Vm.Alike.refl U.vm) qK⟩, va_recv hK hPc (ci := 2) (q0 := 0) rfl rfl, fun U hU hW => ⟨rfl, by rw [hU]; exact hPc, va_K.moved hW.alike hK⟩⟩ rfl rfl hl.1 rfl (lv_room (Nat.le_of_ble_eq_true rfl)) dX11_kept_23 ⟨Nat.le_of_ble_eq_true rfl, Nat.le_of_ble_eq_true rfl⟩)) (fun rz92 gz91 => ?_)
          clear hPc
          refine lv_goto (tgt := 31) hx hb dX11_kept_26 (by decide) ?_
          rw [hQ]
          exact W.iret (v := rz92) hx hb hr (fun t ht hW => ⟨rz92, rfl, trivial, ht⟩) (fun _ h => absurd h List.not_mem_nil) dX11_kept_31
      · skip
        refine W.eq (g2 := F0 m 18 ls [.ref (sY 7 0)]) rfl ?_
        refine va_get (D := (dC, dI)) (ci := 7) (v := .ref (sY 7 1)) (C := RX7) (T := TX7) (N := 9) hx hb hts (fun w h => List.mem_cons_of_mem _ (List.mem_append_right _ (List.mem_append_right _ (List.mem_append_right _ (List.mem_append_right _ (List.mem_append_left _ h)))))) hown hK hP 92 rfl rfl 0 (by decide) (hts (.fieldLink RX11 194 "SagMemory$State" "memories" "[LSagMemory$Memory;") (wl_mem 10 rfl)) (fun _ h9 => h9) rfl dX11_kept_18 ?_
        refine lv_iload_n hx hb dX11_kept_21 rfl (lv_at hl 1 rfl) ?_
        rcases (show p1 = 0 ∨ p1 = 1 ∨ p1 = 2 by simp only [zi_eq]; show p1.toInt = 0 ∨ p1.toInt = 1 ∨ p1.toInt = 2; omega) with cz93 | cz93 | cz93
        · skip
          have zz94 : p1.toInt = (0 : Int) := zi_eq.mp cz93
          refine W.eq (g2 := F0 m 22 ls [.int 0, .ref (sY 7 1)]) (by rw [cz93]) ?_
          refine va_aldq hx hb hK hP 93 4 rfl rfl (by unfold vp_in; decide) dX11_kept_22 ?_
          refine W.eq (g2 := F0 m 23 ls [.ref (sY 7 2)]) rfl ?_
          have hPc := hP.sub (ws' := (List.flatten [(wMem (fun i => sY 7 (i + 2)) k (nY 7) (aY 7))])) [94, 95, 96] rfl
          refine vp_callSi (va_Run.run (va_runV (As := []) (rest := []) ⟨hx, hb, hml, hown, hts⟩ (c_X2_cartBits l dC dI k (fun i => sY 7 (i + 2)) (nY 7) (aY 7) (hnY 7)) (cwV 0 hts (gk_V (wl_mem 11 rfl) (wl_mem 12 rfl) (wl_mem 13 rfl) (wl_mem 14 rfl) (fun w h => List.mem_cons_of_mem _ (List.mem_append_right _ (List.mem_append_right _ (List.mem_append_right _ (List.mem_append_right _ (List.mem_append_right _ (List.mem_append_left _ h))))))) wkg_c_X2_cartBits) rfl rfl rfl (by decide +kernel) ⟨Nat.le_of_ble_eq_true rfl, Nat.le_of_ble_eq_true rfl⟩) ⟨fun a U g mk q => by obtain ⟨q0, qP, qK⟩ := q; exact ⟨q0, qP, va_K.moved (u := U) (U := U.calling g mk a) (Vm.Alike.refl U.vm) qK⟩, va_recv hK hPc (ci := 2) (q0 := 0) rfl rfl, fun U hU hW => ⟨rfl, by rw [hU]; exact hPc, va_K.moved hW.alike hK⟩⟩ rfl rfl hl.1 rfl (lv_room (Nat.le_of_ble_eq_true rfl)) dX11_kept_23 ⟨Nat.le_of_ble_eq_true rfl, Nat.le_of_ble_eq_true rfl⟩)) (fun rz96 gz95 => ?_)
          clear hPc
          refine lv_goto (tgt := 31) hx hb dX11_kept_26 (by decide) ?_
          rw [hQ]
          exact W.iret (v := rz96) hx hb hr (fun t ht hW => ⟨rz96, rfl, trivial, ht⟩) (fun _ h => absurd h List.not_mem_nil) dX11_kept_31
        · skip
          have zz97 : p1.toInt = (1 : Int) := zi_eq.mp cz93
          refine W.eq (g2 := F0 m 22 ls [.int 1, .ref (sY 7 1)]) (by rw [cz93]) ?_
          refine va_aldq hx hb hK hP 93 4 rfl rfl (by unfold vp_in; decide) dX11_kept_22 ?_
          refine W.eq (g2 := F0 m 23 ls [.ref (sY 7 5)]) rfl ?_
          have hPc := hP.sub (ws' := (List.flatten [(wMem (fun i => sY 7 (i + 5)) k (fun i => (nY 7) (i + 1)) (fun i => (aY 7) (i + 2)))])) [97, 98, 99] rfl
          refine vp_callSi (va_Run.run (va_runV (As := []) (rest := []) ⟨hx, hb, hml, hown, hts⟩ (c_X2_cartBits l dC dI k (fun i => sY 7 (i + 5)) (fun i => (nY 7) (i + 1)) (fun i => (aY 7) (i + 2)) (fun i => (hnY 7) (i + 1))) (cwV 0 hts (gk_V (wl_mem 11 rfl) (wl_mem 12 rfl) (wl_mem 13 rfl) (wl_mem 14 rfl) (fun w h => List.mem_cons_of_mem _ (List.mem_append_right _ (List.mem_append_right _ (List.mem_append_right _ (List.mem_append_right _ (List.mem_append_right _ (List.mem_append_left _ h))))))) wkg_c_X2_cartBits) rfl rfl rfl (by decide +kernel) ⟨Nat.le_of_ble_eq_true rfl, Nat.le_of_ble_eq_true rfl⟩) ⟨fun a U g mk q => by obtain ⟨q0, qP, qK⟩ := q; exact ⟨q0, qP, va_K.moved (u := U) (U := U.calling g mk a) (Vm.Alike.refl U.vm) qK⟩, va_recv hK hPc (ci := 2) (q0 := 0) rfl rfl, fun U hU hW => ⟨rfl, by rw [hU]; exact hPc, va_K.moved hW.alike hK⟩⟩ rfl rfl hl.1 rfl (lv_room (Nat.le_of_ble_eq_true rfl)) dX11_kept_23 ⟨Nat.le_of_ble_eq_true rfl, Nat.le_of_ble_eq_true rfl⟩)) (fun rz99 gz98 => ?_)
          clear hPc
          refine lv_goto (tgt := 31) hx hb dX11_kept_26 (by decide) ?_
          rw [hQ]
          exact W.iret (v := rz99) hx hb hr (fun t ht hW => ⟨rz99, rfl, trivial, ht⟩) (fun _ h => absurd h List.not_mem_nil) dX11_kept_31
        · skip
          have zz100 : p1.toInt = (2 : Int) := zi_eq.mp cz93
          refine W.eq (g2 := F0 m 22 ls [.int 2, .ref (sY 7 1)]) (by rw [cz93]) ?_
          refine va_aldq hx hb hK hP 93 4 rfl rfl (by unfold vp_in; decide) dX11_kept_22 ?_
          refine W.eq (g2 := F0 m 23 ls [.ref (sY 7 8)]) rfl ?_
          have hPc := hP.sub (ws' := (List.flatten [(wMem (fun i => sY 7 (i + 8)) k (fun i => (nY 7) (i + 2)) (fun i => (aY 7) (i + 4)))])) [100, 101, 102] rfl
          refine vp_callSi (va_Run.run (va_runV (As := []) (rest := []) ⟨hx, hb, hml, hown, hts⟩ (c_X2_cartBits l dC dI k (fun i => sY 7 (i + 8)) (fun i => (nY 7) (i + 2)) (fun i => (aY 7) (i + 4)) (fun i => (hnY 7) (i + 2))) (cwV 0 hts (gk_V (wl_mem 11 rfl) (wl_mem 12 rfl) (wl_mem 13 rfl) (wl_mem 14 rfl) (fun w h => List.mem_cons_of_mem _ (List.mem_append_right _ (List.mem_append_right _ (List.mem_append_right _ (List.mem_append_right _ (List.mem_append_right _ (List.mem_append_left _ h))))))) wkg_c_X2_cartBits) rfl rfl rfl (by decide +kernel) ⟨Nat.le_of_ble_eq_true rfl, Nat.le_of_ble_eq_true rfl⟩) ⟨fun a U g mk q => by obtain ⟨q0, qP, qK⟩ := q; exact ⟨q0, qP, va_K.moved (u := U) (U := U.calling g mk a) (Vm.Alike.refl U.vm) qK⟩, va_recv hK hPc (ci := 2) (q0 := 0) rfl rfl, fun U hU hW => ⟨rfl, by rw [hU]; exact hPc, va_K.moved hW.alike hK⟩⟩ rfl rfl hl.1 rfl (lv_room (Nat.le_of_ble_eq_true rfl)) dX11_kept_23 ⟨Nat.le_of_ble_eq_true rfl, Nat.le_of_ble_eq_true rfl⟩)) (fun rz102 gz101 => ?_)
          clear hPc
          refine lv_goto (tgt := 31) hx hb dX11_kept_26 (by decide) ?_
          rw [hQ]
          exact W.iret (v := rz102) hx hb hr (fun t ht hW => ⟨rz102, rfl, trivial, ht⟩) (fun _ h => absurd h List.not_mem_nil) dX11_kept_31
