def wk_c_X11_most : List Cond := .code yX11_most cX11_most 5 (some .int) :: ([.methodLink RX11 190 yX11_hasBoth, .instanceMethod yX11_hasBoth, .selects RX11 yX11_hasBoth yX11_hasBoth, .initialized RX11, .fieldLink RX11 45 "SagMemory" "story" "LSagMemory$Story;", .methodLink RX11 165 yX8_behind, .instanceMethod yX8_behind, .selects RX8 yX8_behind yX8_behind, .initialized RX8, .methodLink RX11 240 yX7_isBroken, .instanceMethod yX7_isBroken, .selects RX7 yX7_isBroken yX7_isBroken, .initialized RX7, .fieldLink RX11 194 "SagMemory$State" "memories" "[LSagMemory$Memory;", .methodLink RX11 236 yX11_depthWith, .instanceMethod yX11_depthWith, .selects RX11 yX11_depthWith yX11_depthWith, .fieldLink RX11 19 "SagMemory" "told" "LSagMemory$Valley;", .fieldLink RX11 135 "SagMemory$Valley" "holds" "[I"] ++ (wk_c_X11_hasBoth ++ (wsX110 ++ (wk_c_X8_behind ++ (wk_c_X7_isBroken ++ (wsX70 ++ (wk_c_X11_depthWith ++ (wsX100 ++ []))))))))
theorem wkg_c_X11_most : wk_c_X11_most.all goodWord = true := by decide +kernel
set_option maxHeartbeats 4000000 in
set_option maxRecDepth 100000 in
theorem c_X11_most (l : Launch) (dC : Nat → ClassId) (dI : Nat → Nat → Nat) (k : Nat → ClassId) (sz : Nat) (qX : Nat → Nat) (tapeX : Nat) (actsX : Nat) (nowX : Nat) (trialX : Nat) (attemptX : Nat) (orderSearchX : Nat) (routeSearchX : Nat) (setSearchX : Nat) (slot0X : Nat) (slot1X : Nat) (slot2X : Nat) (slot3X : Nat) (image0X : Nat) (image1X : Nat) (image2X : Nat) (aX : Nat → Nat → Int32) (qV : Nat → Nat) (vV : Nat → Int32) (bV : Nat → Int32) (cV : Nat → Int32) (wV : Nat → Int32) (aV : Nat → Nat → Int32) (eV : Nat → Nat → Int32) (qY : Nat → Nat) (sY : Nat → Nat → Nat) (planY : Nat) (vY : Nat → Nat → Int32) (nY : Nat → Nat → Int32) (aY : Nat → Nat → Nat → Int32) (qM : Nat → Nat) (nM : Nat → Int32) (aM : Nat → Nat → Int32) (p1 : Int32) (p2 : Int32) (hbV : Rg 0 3 bV) (hcV : Rg 0 7 cV) (hwV : Rg 0 5 wV) (heV : RgA 0 99 eV) (hnY : ∀ t9, Rg 0 8 (nY t9)) (hnM : Rg 0 8 nM) : Met l yX11_most wk_c_X11_most ({ frames := 2, cells := 0, slots := 0, locals := 49 }) (va_Pc [.ref (qX 0), .int p1, .int p2] (fun U => U.heap.size = sz ∧ va_P (dC, dI) vwCl (List.flatten [(wMem qM k nM aM)] ++ List.flatten [(wSag qX k tapeX (qV 0) actsX nowX trialX (qY 0) attemptX orderSearchX routeSearchX setSearchX (qM 0) slot0X slot1X slot2X slot3X image0X image1X image2X aX), (wValley qV k vV bV cV wV aV eV), (wStoO qY k (qV 0) planY (sY 0 0) (sY 1 0) (sY 2 0) (sY 3 0) (sY 4 0) (sY 5 0) (sY 6 0) (sY 7 0)), (wState (sY 0) k (vY 0) (nY 0) (aY 0)), (wState (sY 1) k (vY 1) (nY 1) (aY 1)), (wState (sY 2) k (vY 2) (nY 2) (aY 2)), (wState (sY 3) k (vY 3) (nY 3) (aY 3)), (wState (sY 4) k (vY 4) (nY 4) (aY 4)), (wState (sY 5) k (vY 5) (nY 5) (aY 5)), (wState (sY 6) k (vY 6) (nY 6) (aY 6)), (wState (sY 7) k (vY 7) (nY 7) (aY 7))]) U.heap ∧ va_K (dC, dI) vwCl (tK k) U ∧ va_D (fun _ => True) (List.flatten [(wMem qM k nM aM)] ++ List.flatten [(wSag qX k tapeX (qV 0) actsX nowX trialX (qY 0) attemptX orderSearchX routeSearchX setSearchX (qM 0) slot0X slot1X slot2X slot3X image0X image1X image2X aX), (wValley qV k vV bV cV wV aV eV), (wStoO qY k (qV 0) planY (sY 0 0) (sY 1 0) (sY 2 0) (sY 3 0) (sY 4 0) (sY 5 0) (sY 6 0) (sY 7 0)), (wState (sY 0) k (vY 0) (nY 0) (aY 0)), (wState (sY 1) k (vY 1) (nY 1) (aY 1)), (wState (sY 2) k (vY 2) (nY 2) (aY 2)), (wState (sY 3) k (vY 3) (nY 3) (aY 3)), (wState (sY 4) k (vY 4) (nY 4) (aY 4)), (wState (sY 5) k (vY 5) (nY 5) (aY 5)), (wState (sY 6) k (vY 6) (nY 6) (aY 6)), (wState (sY 7) k (vY 7) (nY 7) (aY 7))]))) (va_Qi (fun (r : Int32) (_ : Unit) => True) (fun (_ : Unit) (t : State) => ∃ (nM' : Nat → Int32) (aM' : Nat → Nat → Int32), Rg 0 8 nM' ∧ va_P (dC, dI) vwCl (List.flatten [(wMem qM k nM' aM')] ++ List.flatten [(wSag qX k tapeX (qV 0) actsX nowX trialX (qY 0) attemptX orderSearchX routeSearchX setSearchX (qM 0) slot0X slot1X slot2X slot3X image0X image1X image2X aX), (wValley qV k vV bV cV wV aV eV), (wStoO qY k (qV 0) planY (sY 0 0) (sY 1 0) (sY 2 0) (sY 3 0) (sY 4 0) (sY 5 0) (sY 6 0) (sY 7 0)), (wState (sY 0) k (vY 0) (nY 0) (aY 0)), (wState (sY 1) k (vY 1) (nY 1) (aY 1)), (wState (sY 2) k (vY 2) (nY 2) (aY 2)), (wState (sY 3) k (vY 3) (nY 3) (aY 3)), (wState (sY 4) k (vY 4) (nY 4) (aY 4)), (wState (sY 5) k (vY 5) (nY 5) (aY 5)), (wState (sY 6) k (vY 6) (nY 6) (aY 6)), (wState (sY 7) k (vY 7) (nY 7) (aY 7))]) t.heap) (va_A (List.flatten [(wMem qM k nM aM)] ++ List.flatten [(wSag qX k tapeX (qV 0) actsX nowX trialX (qY 0) attemptX orderSearchX routeSearchX setSearchX (qM 0) slot0X slot1X slot2X slot3X image0X image1X image2X aX), (wValley qV k vV bV cV wV aV eV), (wStoO qY k (qV 0) planY (sY 0 0) (sY 1 0) (sY 2 0) (sY 3 0) (sY 4 0) (sY 5 0) (sY 6 0) (sY 7 0)), (wState (sY 0) k (vY 0) (nY 0) (aY 0)), (wState (sY 1) k (vY 1) (nY 1) (aY 1)), (wState (sY 2) k (vY 2) (nY 2) (aY 2)), (wState (sY 3) k (vY 3) (nY 3) (aY 3)), (wState (sY 4) k (vY 4) (nY 4) (aY 4)), (wState (sY 5) k (vY 5) (nY 5) (aY 5)), (wState (sY 6) k (vY 6) (nY 6) (aY 6)), (wState (sY 7) k (vY 7) (nY 7) (aY 7))]) sz)) 0 0 (va_A (List.flatten [(wMem qM k nM aM)] ++ List.flatten [(wSag qX k tapeX (qV 0) actsX nowX trialX (qY 0) attemptX orderSearchX routeSearchX setSearchX (qM 0) slot0X slot1X slot2X slot3X image0X image1X image2X aX), (wValley qV k vV bV cV wV aV eV), (wStoO qY k (qV 0) planY (sY 0 0) (sY 1 0) (sY 2 0) (sY 3 0) (sY 4 0) (sY 5 0) (sY 6 0) (sY 7 0)), (wState (sY 0) k (vY 0) (nY 0) (aY 0)), (wState (sY 1) k (vY 1) (nY 1) (aY 1)), (wState (sY 2) k (vY 2) (nY 2) (aY 2)), (wState (sY 3) k (vY 3) (nY 3) (aY 3)), (wState (sY 4) k (vY 4) (nY 4) (aY 4)), (wState (sY 5) k (vY 5) (nY 5) (aY 5)), (wState (sY 6) k (vY 6) (nY 6) (aY 6)), (wState (sY 7) k (vY 7) (nY 7) (aY 7))]) sz) := by
  refine Met.ofW (cc := cX11_most) (maxL := 5) (ret := (some .int)) (by decide) rfl ?_
  intro p e s m args below meth c s₁ B hml hv
  obtain ⟨rfl, hsz, hP, hK, hD0⟩ := hv
  have hx := B.exec
  have hb := B.bytes
  have hr := B.returns
  have hts := atoms_spec (ws := wk_c_X11_most) B.pre
  have hown : s.vm.findClass RX11 = some m.cls := findClass_of_methodNamed B.named
  have hlocks := B.notSynchronized
  subst hsz
  have hD := hD0.self (sz := s.heap.size)
  generalize hAe : va_A (List.flatten [(wMem qM k nM aM)] ++ List.flatten [(wSag qX k tapeX (qV 0) actsX nowX trialX (qY 0) attemptX orderSearchX routeSearchX setSearchX (qM 0) slot0X slot1X slot2X slot3X image0X image1X image2X aX), (wValley qV k vV bV cV wV aV eV), (wStoO qY k (qV 0) planY (sY 0 0) (sY 1 0) (sY 2 0) (sY 3 0) (sY 4 0) (sY 5 0) (sY 6 0) (sY 7 0)), (wState (sY 0) k (vY 0) (nY 0) (aY 0)), (wState (sY 1) k (vY 1) (nY 1) (aY 1)), (wState (sY 2) k (vY 2) (nY 2) (aY 2)), (wState (sY 3) k (vY 3) (nY 3) (aY 3)), (wState (sY 4) k (vY 4) (nY 4) (aY 4)), (wState (sY 5) k (vY 5) (nY 5) (aY 5)), (wState (sY 6) k (vY 6) (nY 6) (aY 6)), (wState (sY 7) k (vY 7) (nY 7) (aY 7))]) s.heap.size = A at hD ⊢
  have hA : ∀ q : Nat, s.heap.size ≤ q → A q := fun q h => by rw [← hAe]; exact Or.inr h
  have hS : va_S A s.heap s.heap [] := va_S.rf
  have hP : va_P (dC, dI) vwCl (List.flatten [(wMem qM k nM aM)] ++ List.flatten [(wSag qX k tapeX (qV 0) actsX nowX trialX (qY 0) attemptX orderSearchX routeSearchX setSearchX (qM 0) slot0X slot1X slot2X slot3X image0X image1X image2X aX), (wValley qV k vV bV cV wV aV eV), (wStoO qY k (qV 0) planY (sY 0 0) (sY 1 0) (sY 2 0) (sY 3 0) (sY 4 0) (sY 5 0) (sY 6 0) (sY 7 0)), (wState (sY 0) k (vY 0) (nY 0) (aY 0)), (wState (sY 1) k (vY 1) (nY 1) (aY 1)), (wState (sY 2) k (vY 2) (nY 2) (aY 2)), (wState (sY 3) k (vY 3) (nY 3) (aY 3)), (wState (sY 4) k (vY 4) (nY 4) (aY 4)), (wState (sY 5) k (vY 5) (nY 5) (aY 5)), (wState (sY 6) k (vY 6) (nY 6) (aY 6)), (wState (sY 7) k (vY 7) (nY 7) (aY 7))]) s.heap := hP
  have hl := lv_entry ([.ref (qX 0), .int p1, .int p2]) (n := 5) (Nat.le_of_ble_eq_true rfl)
  rw [lg_entry_eq]
  generalize (lg_sl ([.ref (qX 0), .int p1, .int p2]) ++ List.replicate (5 - (lg_sl ([.ref (qX 0), .int p1, .int p2])).length) Slot.unset).toArray = ls at hl ⊢
  have hl : lv_has ls 5 [(0, .ref (qX 0)), (1, .int p1), (2, .int p2)] := hl
  refine w_gen (fun Q hQ => ?_)
  refine lv_aload_n hx hb dX11_most_0 rfl (lv_at hl 0 rfl) ?_
  refine lv_iload_n hx hb dX11_most_1 rfl (lv_at hl 1 rfl) ?_
  refine lv_iload_n hx hb dX11_most_2 rfl (lv_at hl 2 rfl) ?_
  have hPc := hP.sub (ws' := (List.flatten [(wSag qX k tapeX (qV 0) actsX nowX trialX (qY 0) attemptX orderSearchX routeSearchX setSearchX (qM 0) slot0X slot1X slot2X slot3X image0X image1X image2X aX), (wValley qV k vV bV cV wV aV eV)])) [3, 4, 5, 6, 7, 8, 9, 10, 11, 12, 13, 14, 15] rfl
  refine vp_callSi (va_Run.run (va_runV (As := [.int p1, .int p2]) (rest := []) ⟨hx, hb, hml, hown, hts⟩ (c_X11_hasBoth l dC dI k qX tapeX actsX nowX trialX (qY 0) attemptX orderSearchX routeSearchX setSearchX (qM 0) slot0X slot1X slot2X slot3X image0X image1X image2X aX qV vV bV cV wV aV eV p1 p2 hbV hcV hwV heV) (cwV 2 hts (gk_V (wl_mem 0 rfl) (wl_mem 1 rfl) (wl_mem 2 rfl) (wl_mem 3 rfl) (fun w h => List.mem_cons_of_mem _ (List.mem_append_right _ (List.mem_append_left _ h))) wkg_c_X11_hasBoth) rfl rfl rfl (by decide +kernel) ⟨Nat.le_of_ble_eq_true rfl, Nat.le_of_ble_eq_true rfl⟩) ⟨fun a U g mk q => by obtain ⟨q0, qP, qK⟩ := q; exact ⟨q0, qP, va_K.moved (u := U) (U := U.calling g mk a) (Vm.Alike.refl U.vm) qK⟩, va_recv hK hPc (ci := 11) (q0 := 0) rfl rfl, fun U hU hW => ⟨rfl, by rw [hU]; exact hPc, va_K.moved hW.alike hK⟩⟩ rfl rfl hl.1 rfl (lv_room (Nat.le_of_ble_eq_true rfl)) dX11_most_3 ⟨Nat.le_of_ble_eq_true rfl, Nat.le_of_ble_eq_true rfl⟩)) (fun rz2 gz1 => ?_)
  clear hPc
  rcases gz1 with ⟨er, cz3⟩ | ⟨er, cz4, cz5⟩ | ⟨er, cz6, cz7, cz8⟩ | ⟨er, cz9, cz10, cz11, cz12⟩ | ⟨er, cz13, cz14, cz15, cz16⟩
  · obtain rfl := er.symm
    have bz17 := fb_rng p1
    have zz18 : p1.toInt < (0 : Int) := zi_lt.mp cz3
    refine lv_if_ne (tgt := 12) hx hb dX11_most_6 (by decide) (fun cz19 => ?_) (fun cz19 => ?_)
    · skip
      exact absurd cz19 (by decide)
    · skip
      refine lv_bipush (v := (-2)) hx hb dX11_most_9 (by decide) ?_
      rw [hQ]
      exact W.iret (v := (-2 : Int32)) hx hb hr (fun t ht hW => ⟨⟨(-2 : Int32), (), rfl, trivial, nM, aM, hnM, by rw [ht]; exact hP⟩, hS.F ht⟩) hS.2.2 dX11_most_11
  · obtain rfl := er.symm
    have bz20 := fb_rng p1
    have zz21 : ¬ p1.toInt < (0 : Int) := fun h9 => cz4 (zi_lt.mpr h9)
    have bz22 := hbV 0
    have zz23 : (bV 0).toInt ≤ p1.toInt := zi_le.mp cz5
    refine lv_if_ne (tgt := 12) hx hb dX11_most_6 (by decide) (fun cz24 => ?_) (fun cz24 => ?_)
    · skip
      exact absurd cz24 (by decide)
    · skip
      refine lv_bipush (v := (-2)) hx hb dX11_most_9 (by decide) ?_
      rw [hQ]
      exact W.iret (v := (-2 : Int32)) hx hb hr (fun t ht hW => ⟨⟨(-2 : Int32), (), rfl, trivial, nM, aM, hnM, by rw [ht]; exact hP⟩, hS.F ht⟩) hS.2.2 dX11_most_11
  · obtain rfl := er.symm
    have bz25 := fb_rng p1
    have zz26 : ¬ p1.toInt < (0 : Int) := fun h9 => cz6 (zi_lt.mpr h9)
    have bz27 := hbV 0
    have zz28 : ¬ (bV 0).toInt ≤ p1.toInt := fun h9 => cz7 (zi_le.mpr h9)
    have bz29 := fb_rng p2
    have zz30 : p2.toInt < (0 : Int) := zi_lt.mp cz8
    refine lv_if_ne (tgt := 12) hx hb dX11_most_6 (by decide) (fun cz31 => ?_) (fun cz31 => ?_)
    · skip
      exact absurd cz31 (by decide)
    · skip
      refine lv_bipush (v := (-2)) hx hb dX11_most_9 (by decide) ?_
      rw [hQ]
      exact W.iret (v := (-2 : Int32)) hx hb hr (fun t ht hW => ⟨⟨(-2 : Int32), (), rfl, trivial, nM, aM, hnM, by rw [ht]; exact hP⟩, hS.F ht⟩) hS.2.2 dX11_most_11
  · obtain rfl := er.symm
    have bz32 := fb_rng p1
    have zz33 : ¬ p1.toInt < (0 : Int) := fun h9 => cz9 (zi_lt.mpr h9)
    have bz34 := hbV 0
    have zz35 : ¬ (bV 0).toInt ≤ p1.toInt := fun h9 => cz10 (zi_le.mpr h9)
    have bz36 := fb_rng p2
    have zz37 : ¬ p2.toInt < (0 : Int) := fun h9 => cz11 (zi_lt.mpr h9)
    have bz38 := hcV 0
    have zz39 : (cV 0).toInt ≤ p2.toInt := zi_le.mp cz12
    refine lv_if_ne (tgt := 12) hx hb dX11_most_6 (by decide) (fun cz40 => ?_) (fun cz40 => ?_)
    · skip
      exact absurd cz40 (by decide)
    · skip
      refine lv_bipush (v := (-2)) hx hb dX11_most_9 (by decide) ?_
      rw [hQ]
      exact W.iret (v := (-2 : Int32)) hx hb hr (fun t ht hW => ⟨⟨(-2 : Int32), (), rfl, trivial, nM, aM, hnM, by rw [ht]; exact hP⟩, hS.F ht⟩) hS.2.2 dX11_most_11
  · obtain rfl := er.symm
    have bz41 := fb_rng p1
    have zz42 : ¬ p1.toInt < (0 : Int) := fun h9 => cz13 (zi_lt.mpr h9)
    have bz43 := hbV 0
    have zz44 : ¬ (bV 0).toInt ≤ p1.toInt := fun h9 => cz14 (zi_le.mpr h9)
    have bz45 := fb_rng p2
    have zz46 : ¬ p2.toInt < (0 : Int) := fun h9 => cz15 (zi_lt.mpr h9)
    have bz47 := hcV 0
    have zz48 : ¬ (cV 0).toInt ≤ p2.toInt := fun h9 => cz16 (zi_le.mpr h9)
    refine lv_if_ne (tgt := 12) hx hb dX11_most_6 (by decide) (fun cz49 => ?_) (fun cz49 => ?_)
    · skip
      refine lv_aload_n hx hb dX11_most_12 rfl (lv_at hl 0 rfl) ?_
      refine va_get (D := (dC, dI)) (ci := 11) (v := .ref (qY 0)) (C := RX11) (T := TX11) (N := 15) hx hb hts (fun w h => List.mem_cons_of_mem _ (List.mem_append_right _ (List.mem_append_right _ (List.mem_append_left _ h)))) hown hK hP 3 rfl rfl 5 (by decide) (hts (.fieldLink RX11 45 "SagMemory" "story" "LSagMemory$Story;") (wl_mem 4 rfl)) (fun _ h9 => h9) rfl dX11_most_13 ?_
      refine lv_iload_n hx hb dX11_most_16 rfl (lv_at hl 2 rfl) ?_
      have hPc : va_P (dC, dI) vwCl (List.flatten [(wStoO qY k (qV 0) planY (sY 0 0) (sY 1 0) (sY 2 0) (sY 3 0) (sY 4 0) (sY 5 0) (sY 6 0) (sY 7 0)), (wState (sY 0) k (vY 0) (nY 0) (aY 0)), (wState (sY 1) k (vY 1) (nY 1) (aY 1)), (wState (sY 2) k (vY 2) (nY 2) (aY 2)), (wState (sY 3) k (vY 3) (nY 3) (aY 3)), (wState (sY 4) k (vY 4) (nY 4) (aY 4)), (wState (sY 5) k (vY 5) (nY 5) (aY 5)), (wState (sY 6) k (vY 6) (nY 6) (aY 6)), (wState (sY 7) k (vY 7) (nY 7) (aY 7))]) s.heap := wc_subP1 hP [3, 4, 5, 6, 7, 8, 9, 10, 11] rfl
      refine va_csr (va_Run.run (va_runV (As := [.int p2]) (rest := []) ⟨hx, hb, hml, hown, hts⟩ (c_X8_behind l dC dI k qY sY (qV 0) planY vY nY aY p2 hnY) (cwV 1 hts (gk_V (wl_mem 5 rfl) (wl_mem 6 rfl) (wl_mem 7 rfl) (wl_mem 8 rfl) (fun w h => List.mem_cons_of_mem _ (List.mem_append_right _ (List.mem_append_right _ (List.mem_append_right _ (List.mem_append_left _ h))))) wkg_c_X8_behind) rfl rfl rfl (by decide +kernel) ⟨Nat.le_of_ble_eq_true rfl, Nat.le_of_ble_eq_true rfl⟩) ⟨fun a U g mk q => by obtain ⟨q0, qP, qK⟩ := q; exact ⟨q0, qP, va_K.moved (u := U) (U := U.calling g mk a) (Vm.Alike.refl U.vm) qK⟩, va_recv hK hPc (ci := 8) (q0 := 0) rfl rfl, fun U hU hW => ⟨rfl, by rw [hU]; exact hPc, va_K.moved hW.alike hK⟩⟩ rfl rfl hl.1 rfl (lv_room (Nat.le_of_ble_eq_true rfl)) dX11_most_17 ⟨Nat.le_of_ble_eq_true rfl, Nat.le_of_ble_eq_true rfl⟩)) (fun rz51 gz50 => ?_)
      clear hPc
      rcases gz50 with ⟨rfl, cz52⟩ | ⟨rfl, cz53, cz54⟩ | ⟨rfl, cz55, cz56, cz57⟩ | ⟨rfl, cz58, cz59, cz60⟩ | ⟨rfl, cz61, cz62, cz63⟩ | ⟨rfl, cz64, cz65, cz66⟩ | ⟨rfl, cz67, cz68, cz69⟩ | ⟨rfl, cz70, cz71, cz72⟩ | ⟨rfl, cz73, cz74, cz75⟩
      · skip
        have zz76 : p2.toInt < (0 : Int) := zi_lt.mp cz52
        omega
      · skip
        have zz77 : ¬ p2.toInt < (0 : Int) := fun h9 => cz53 (zi_lt.mpr h9)
        have zz78 : (7 : Int) ≤ p2.toInt := zi_le.mp cz54
        omega
      · skip
        have zz79 : ¬ p2.toInt < (0 : Int) := fun h9 => cz55 (zi_lt.mpr h9)
        have zz80 : ¬ (7 : Int) ≤ p2.toInt := fun h9 => cz56 (zi_le.mpr h9)
        have zz81 : p2.toInt = (0 : Int) := zi_eq.mp cz57
        refine W.eq (g2 := F0 m 20 ls [.ref (sY 1 0)]) rfl ?_
        refine lv_astore_n (lv' := [(3, .ref (sY 1 0)), (0, .ref (qX 0)), (1, .int p1), (2, .int p2)]) hx hb dX11_most_20 rfl hl (by decide) rfl (fun ls hl => ?_)
        refine lv_aload_n hx hb dX11_most_21 rfl (lv_at hl 0 rfl) ?_
        refine lv_iload_n hx hb dX11_most_22 rfl (lv_at hl 2 rfl) ?_
        have hPc := hP.sub (ws' := (List.flatten [(wState (sY 1) k (vY 1) (nY 1) (aY 1))])) [29, 30, 31, 32, 33, 34, 35, 36, 37, 38, 39] rfl
        refine vp_callSi (va_Run.run (va_runV (As := [.int p1]) (rest := []) ⟨hx, hb, hml, hown, hts⟩ (c_X7_isBroken l dC dI k (sY 1) (vY 1) (nY 1) (aY 1) p1 (hnY 1)) (cwV 1 hts (gk_V (wl_mem 9 rfl) (wl_mem 10 rfl) (wl_mem 11 rfl) (wl_mem 12 rfl) (fun w h => List.mem_cons_of_mem _ (List.mem_append_right _ (List.mem_append_right _ (List.mem_append_right _ (List.mem_append_right _ (List.mem_append_left _ h)))))) wkg_c_X7_isBroken) rfl rfl rfl (by decide +kernel) ⟨Nat.le_of_ble_eq_true rfl, Nat.le_of_ble_eq_true rfl⟩) ⟨fun a U g mk q => by obtain ⟨q0, qP, qK⟩ := q; exact ⟨q0, qP, va_K.moved (u := U) (U := U.calling g mk a) (Vm.Alike.refl U.vm) qK⟩, va_recv hK hPc (ci := 7) (q0 := 0) rfl rfl, fun U hU hW => ⟨rfl, by rw [hU]; exact hPc, va_K.moved hW.alike hK⟩⟩ rfl rfl hl.1 rfl (lv_room (Nat.le_of_ble_eq_true rfl)) dX11_most_23 ⟨Nat.le_of_ble_eq_true rfl, Nat.le_of_ble_eq_true rfl⟩)) (fun rz83 gz82 => ?_)
        clear hPc
        have pz84 := gz82
        have pz84 : rz83.toInt = 0 ∨ rz83.toInt = 1 := pz84
        refine lv_if_eq (tgt := 31) hx hb dX11_most_26 (by decide) (fun cz85 => ?_) (fun cz85 => ?_)
        · skip
          have zz86 : rz83.toInt = (0 : Int) := zi_eq.mp cz85
          refine lv_iconst (v := 1) hx hb dX11_most_31 (by decide) ?_
          refine lv_istore (lv' := [(4, .int 1), (3, .ref (sY 1 0)), (0, .ref (qX 0)), (1, .int p1), (2, .int p2)]) hx hb dX11_most_32 hl (by decide) rfl (fun ls hl => ?_)
          have lp34_kz141 : ∀ (n9_34 : Nat) (H : Heap) (locs : List Loc) (ls : Array Slot) (az138 : Nat → Nat → Int32) (nz139 : Nat → Int32) (xz140 : Int32), (2147483647 - xz140.toInt).toNat < n9_34 → Rg 0 8 nz139 → 1 ≤ xz140.toInt → va_P (dC, dI) vwCl (List.flatten [(wMem qM k nz139 az138)] ++ List.flatten [(wSag qX k tapeX (qV 0) actsX nowX trialX (qY 0) attemptX orderSearchX routeSearchX setSearchX (qM 0) slot0X slot1X slot2X slot3X image0X image1X image2X aX), (wValley qV k vV bV cV wV aV eV), (wStoO qY k (qV 0) planY (sY 0 0) (sY 1 0) (sY 2 0) (sY 3 0) (sY 4 0) (sY 5 0) (sY 6 0) (sY 7 0)), (wState (sY 0) k (vY 0) (nY 0) (aY 0)), (wState (sY 1) k (vY 1) (nY 1) (aY 1)), (wState (sY 2) k (vY 2) (nY 2) (aY 2)), (wState (sY 3) k (vY 3) (nY 3) (aY 3)), (wState (sY 4) k (vY 4) (nY 4) (aY 4)), (wState (sY 5) k (vY 5) (nY 5) (aY 5)), (wState (sY 6) k (vY 6) (nY 6) (aY 6)), (wState (sY 7) k (vY 7) (nY 7) (aY 7))]) H → va_D A (List.flatten [(wMem qM k nz139 az138)] ++ List.flatten [(wSag qX k tapeX (qV 0) actsX nowX trialX (qY 0) attemptX orderSearchX routeSearchX setSearchX (qM 0) slot0X slot1X slot2X slot3X image0X image1X image2X aX), (wValley qV k vV bV cV wV aV eV), (wStoO qY k (qV 0) planY (sY 0 0) (sY 1 0) (sY 2 0) (sY 3 0) (sY 4 0) (sY 5 0) (sY 6 0) (sY 7 0)), (wState (sY 0) k (vY 0) (nY 0) (aY 0)), (wState (sY 1) k (vY 1) (nY 1) (aY 1)), (wState (sY 2) k (vY 2) (nY 2) (aY 2)), (wState (sY 3) k (vY 3) (nY 3) (aY 3)), (wState (sY 4) k (vY 4) (nY 4) (aY 4)), (wState (sY 5) k (vY 5) (nY 5) (aY 5)), (wState (sY 6) k (vY 6) (nY 6) (aY 6)), (wState (sY 7) k (vY 7) (nY 7) (aY 7))]) → va_S A s.heap H locs → lv_has ls 5 [(0, .ref (qX 0)), (1, .int p1), (3, .ref (sY 1 0)), (4, .int xz140)] → W p l e (headSpec wk_c_X11_most ({ frames := 2, cells := 0, slots := 0, locals := 49 })).room s m ([.ref (qX 0), .int p1, .int p2] : List Value).toArray below meth c H locs 0 0 Q (F0 m 34 ls []) := by
            intro n9_34
            induction n9_34 with
            | zero => intro H locs ls az138 nz139 xz140 hm; exact absurd hm (Nat.not_lt_zero _)
            | succ n9_34 ih34 =>
              intro H locs ls az138 nz139 xz140 hm34 hnz139 jz142 hP hD hS hl
              refine lv_iload hx hb dX11_most_34 (lv_at hl 3 rfl) ?_
              refine lv_bipush (v := 99) hx hb dX11_most_36 (by decide) ?_
              refine lv_icmp_gt (tgt := 74) hx hb dX11_most_38 (by decide) (fun cz143 => ?_) (fun cz143 => ?_)
              · skip
                have bz144 := fb_rng xz140
                have zz145 : (99 : Int) < xz140.toInt := zi_lt.mp cz143
                refine lv_iconst (v := (-1)) hx hb dX11_most_74 (by decide) ?_
                rw [hQ]
                exact W.iret (v := (-1 : Int32)) hx hb hr (fun t ht hW => ⟨⟨(-1 : Int32), (), rfl, trivial, nz139, az138, hnz139, by rw [ht]; exact hP⟩, hS.F ht⟩) hS.2.2 dX11_most_75
              · skip
                have bz146 := fb_rng xz140
                have zz147 : ¬ (99 : Int) < xz140.toInt := fun h9 => cz143 (zi_lt.mpr h9)
                refine lv_aload_n hx hb dX11_most_41 rfl (lv_at hl 0 rfl) ?_
                refine lv_aload_n hx hb dX11_most_42 rfl (lv_at hl 2 rfl) ?_
                refine va_get (D := (dC, dI)) (ci := 7) (v := .ref (sY 1 1)) (C := RX7) (T := TX7) (N := 9) hx hb hts (fun w h => List.mem_cons_of_mem _ (List.mem_append_right _ (List.mem_append_right _ (List.mem_append_right _ (List.mem_append_right _ (List.mem_append_right _ (List.mem_append_left _ h))))))) hown hK hP 29 rfl rfl 0 (by decide) (hts (.fieldLink RX11 194 "SagMemory$State" "memories" "[LSagMemory$Memory;") (wl_mem 13 rfl)) (fun _ h9 => h9) rfl dX11_most_43 ?_
                refine lv_iload_n hx hb dX11_most_46 rfl (lv_at hl 1 rfl) ?_
                rcases (show p1 = 0 ∨ p1 = 1 ∨ p1 = 2 by simp only [zi_eq]; show p1.toInt = 0 ∨ p1.toInt = 1 ∨ p1.toInt = 2; omega) with cz148 | cz148 | cz148
                · skip
                  have zz149 : p1.toInt = (0 : Int) := zi_eq.mp cz148
                  refine W.eq (g2 := F0 m 47 ls [.int 0, .ref (sY 1 1), .ref (qX 0)]) (by rw [cz148]) ?_
                  refine va_aldq hx hb hK hP 30 4 rfl rfl (by unfold vp_in; decide) dX11_most_47 ?_
                  refine W.eq (g2 := F0 m 48 ls [.ref (sY 1 2), .ref (qX 0)]) rfl ?_
                  refine lv_iload hx hb dX11_most_48 (lv_at hl 3 rfl) ?_
                  have hPc := hP.sub (ws' := (List.flatten [(wMem qM k nz139 az138)] ++ List.flatten [(wSag qX k tapeX (qV 0) actsX nowX trialX (qY 0) attemptX orderSearchX routeSearchX setSearchX (qM 0) slot0X slot1X slot2X slot3X image0X image1X image2X aX), (wValley qV k vV bV cV wV aV eV), (wMem (fun i => sY 1 (i + 2)) k (nY 1) (aY 1))])) [0, 1, 2, 3, 4, 5, 6, 7, 8, 9, 10, 11, 12, 13, 14, 15, 31, 32, 33] rfl
                  have hC : [0, 1, 2, 3, 4, 5, 6, 7, 8, 9, 10, 11, 12, 13, 14, 15, 31, 32, 33].map (fun i => (List.flatten [(wMem qM k nz139 az138)] ++ List.flatten [(wSag qX k tapeX (qV 0) actsX nowX trialX (qY 0) attemptX orderSearchX routeSearchX setSearchX (qM 0) slot0X slot1X slot2X slot3X image0X image1X image2X aX), (wValley qV k vV bV cV wV aV eV), (wStoO qY k (qV 0) planY (sY 0 0) (sY 1 0) (sY 2 0) (sY 3 0) (sY 4 0) (sY 5 0) (sY 6 0) (sY 7 0)), (wState (sY 0) k (vY 0) (nY 0) (aY 0)), (wState (sY 1) k (vY 1) (nY 1) (aY 1)), (wState (sY 2) k (vY 2) (nY 2) (aY 2)), (wState (sY 3) k (vY 3) (nY 3) (aY 3)), (wState (sY 4) k (vY 4) (nY 4) (aY 4)), (wState (sY 5) k (vY 5) (nY 5) (aY 5)), (wState (sY 6) k (vY 6) (nY 6) (aY 6)), (wState (sY 7) k (vY 7) (nY 7) (aY 7))])[i]?) = (List.flatten [(wMem qM k nz139 az138)] ++ List.flatten [(wSag qX k tapeX (qV 0) actsX nowX trialX (qY 0) attemptX orderSearchX routeSearchX setSearchX (qM 0) slot0X slot1X slot2X slot3X image0X image1X image2X aX), (wValley qV k vV bV cV wV aV eV), (wMem (fun i => sY 1 (i + 2)) k (nY 1) (aY 1))]).map some := rfl
                  have hDc := hD.sub [0, 1, 2, 3, 4, 5, 6, 7, 8, 9, 10, 11, 12, 13, 14, 15, 31, 32, 33] (by decide) hC
                  have hFc := va_free hD hS hA [0, 1, 2, 3, 4, 5, 6, 7, 8, 9, 10, 11, 12, 13, 14, 15, 31, 32, 33] hC
                  refine va_calli (va_runV (As := [.ref (sY 1 2), .int xz140]) (rest := []) ⟨hx, hb, hml, hown, hts⟩ (c_X11_depthWith l dC dI k H.size qX tapeX actsX nowX trialX (qY 0) attemptX orderSearchX routeSearchX setSearchX slot0X slot1X slot2X slot3X image0X image1X image2X aX qV vV bV cV wV aV eV qM nz139 az138 (fun i => sY 1 (i + 2)) (nY 1) (aY 1) xz140 hbV hcV hwV heV hnz139 (hnY 1) (by show 0 ≤ xz140.toInt ∧ xz140.toInt ≤ 99; omega)) (cwV 2 hts (gk_V (wl_mem 14 rfl) (wl_mem 15 rfl) (wl_mem 16 rfl) (wl_mem 3 rfl) (fun w h => List.mem_cons_of_mem _ (List.mem_append_right _ (List.mem_append_right _ (List.mem_append_right _ (List.mem_append_right _ (List.mem_append_right _ (List.mem_append_right _ (List.mem_append_left _ h)))))))) wkg_c_X11_depthWith) rfl rfl rfl (by decide +kernel) ⟨Nat.le_of_ble_eq_true rfl, Nat.le_of_ble_eq_true rfl⟩) ⟨fun a U g mk q => by obtain ⟨q0, q1, qP, qK, qD⟩ := q; exact ⟨q0, q1, qP, va_K.moved (u := U) (U := U.calling g mk a) (Vm.Alike.refl U.vm) qK, qD⟩, va_recv hK hPc (ci := 11) (q0 := 3) rfl rfl, fun U hU hW => ⟨rfl, by rw [hU], by rw [hU]; exact hPc, va_K.moved hW.alike hK, hDc.weaken (fun _ _ _ _ => trivial)⟩⟩ rfl rfl hl.1 rfl (lv_room (Nat.le_of_ble_eq_true rfl)) dX11_most_50 ⟨Nat.le_of_ble_eq_true rfl, Nat.le_of_ble_eq_true rfl⟩) hS (fun q _ h => hFc q h) hFc (fun rz151 u t H1 locs ht hvm gz150 hB hz1 hk1 hS => ?_)
                  obtain ⟨nz152, az153, hnz152, hP1⟩ := hB
                  rw [ht] at hP1
                  obtain ⟨hP, hD⟩ := w_callR hP hD hk1 hP1 [0] rfl rfl (wk_mem [3, 4, 5, 6, 7, 8, 9, 10, 11, 12, 13, 14, 15, 31, 32, 33] rfl) rfl [some 0] rfl rfl
                  clear hPc hC hDc hFc hk1 hP1
                  generalize H1 = H at hP hS ⊢
                  have hP : va_P (dC, dI) vwCl (List.flatten [(wMem qM k nz152 az153)] ++ List.flatten [(wSag qX k tapeX (qV 0) actsX nowX trialX (qY 0) attemptX orderSearchX routeSearchX setSearchX (qM 0) slot0X slot1X slot2X slot3X image0X image1X image2X aX), (wValley qV k vV bV cV wV aV eV), (wStoO qY k (qV 0) planY (sY 0 0) (sY 1 0) (sY 2 0) (sY 3 0) (sY 4 0) (sY 5 0) (sY 6 0) (sY 7 0)), (wState (sY 0) k (vY 0) (nY 0) (aY 0)), (wState (sY 1) k (vY 1) (nY 1) (aY 1)), (wState (sY 2) k (vY 2) (nY 2) (aY 2)), (wState (sY 3) k (vY 3) (nY 3) (aY 3)), (wState (sY 4) k (vY 4) (nY 4) (aY 4)), (wState (sY 5) k (vY 5) (nY 5) (aY 5)), (wState (sY 6) k (vY 6) (nY 6) (aY 6)), (wState (sY 7) k (vY 7) (nY 7) (aY 7))]) H := hP
                  have hD : va_D A (List.flatten [(wMem qM k nz152 az153)] ++ List.flatten [(wSag qX k tapeX (qV 0) actsX nowX trialX (qY 0) attemptX orderSearchX routeSearchX setSearchX (qM 0) slot0X slot1X slot2X slot3X image0X image1X image2X aX), (wValley qV k vV bV cV wV aV eV), (wStoO qY k (qV 0) planY (sY 0 0) (sY 1 0) (sY 2 0) (sY 3 0) (sY 4 0) (sY 5 0) (sY 6 0) (sY 7 0)), (wState (sY 0) k (vY 0) (nY 0) (aY 0)), (wState (sY 1) k (vY 1) (nY 1) (aY 1)), (wState (sY 2) k (vY 2) (nY 2) (aY 2)), (wState (sY 3) k (vY 3) (nY 3) (aY 3)), (wState (sY 4) k (vY 4) (nY 4) (aY 4)), (wState (sY 5) k (vY 5) (nY 5) (aY 5)), (wState (sY 6) k (vY 6) (nY 6) (aY 6)), (wState (sY 7) k (vY 7) (nY 7) (aY 7))]) := hD
                  refine W.widen (k := 0) (n := 0) (Nat.le_refl 0) (Nat.le_refl 0) ?_
                  refine lv_aload_n hx hb dX11_most_53 rfl (lv_at hl 0 rfl) ?_
                  refine va_get (D := (dC, dI)) (ci := 11) (v := .ref (qV 0)) (C := RX11) (T := TX11) (N := 15) hx hb hts (fun w h => List.mem_cons_of_mem _ (List.mem_append_right _ (List.mem_append_right _ (List.mem_append_left _ h)))) hown hK hP 3 rfl rfl 1 (by decide) (hts (.fieldLink RX11 19 "SagMemory" "told" "LSagMemory$Valley;") (wl_mem 17 rfl)) (fun _ h9 => h9) rfl dX11_most_54 ?_
                  refine va_get (D := (dC, dI)) (ci := 10) (v := .ref (qV 1)) (C := RX10) (T := TX10) (N := 16) hx hb hts (fun w h => List.mem_cons_of_mem _ (List.mem_append_right _ (List.mem_append_right _ (List.mem_append_right _ (List.mem_append_right _ (List.mem_append_right _ (List.mem_append_right _ (List.mem_append_right _ (List.mem_append_left _ h))))))))) hown hK hP 8 rfl rfl 0 (by decide) (hts (.fieldLink RX11 135 "SagMemory$Valley" "holds" "[I") (wl_mem 18 rfl)) (fun _ h9 => h9) rfl dX11_most_57 ?_
                  refine lv_iload_n hx hb dX11_most_60 rfl (lv_at hl 1 rfl) ?_
                  refine va_iald hx hb hK hP 9 0 rfl rfl (vp_in_iff.mpr ⟨by omega, by omega⟩) dX11_most_61 ?_
                  refine lv_topi (fun xz154 exz154 => ?_)
                  refine lv_icmp_le (tgt := 68) hx hb dX11_most_62 (by decide) (fun cz155 => ?_) (fun cz155 => ?_)
                  · skip
                    have bz156 := fb_rng rz151
                    have bz157 := fb_rng xz154
                    have zz158 : rz151.toInt ≤ xz154.toInt := zi_le.mp cz155
                    obtain ⟨xz159, exz159⟩ : ∃ y : Int32, y = xz140 + Int32.ofInt (1) := ⟨_, rfl⟩
                    have fxz159 : xz159.toInt = xz140.toInt + (1) := by rw [exz159]; exact fb_addI (y := Int32.ofInt (1)) (by show -2147483648 ≤ xz140.toInt + (1); omega) (by show xz140.toInt + (1) < 2147483648; omega)
                    refine lv_iinc (v := xz159) (lv' := [(4, .int xz159), (0, .ref (qX 0)), (1, .int p1), (3, .ref (sY 1 0))]) hx hb dX11_most_68 hl (k := 3) rfl exz159.symm (by decide) rfl (fun ls hl => ?_)
                    refine lv_goto (tgt := 34) hx hb dX11_most_71 (by decide) ?_
                    exact ih34 H locs ls az153 nz152 xz159 (by show (2147483647 - xz159.toInt).toNat < n9_34; omega) hnz152 (by show 1 ≤ xz159.toInt; omega) hP hD hS (lv_sub hl [1, 2, 3, 0] rfl)
                  · skip
                    have bz160 := fb_rng rz151
                    have bz161 := fb_rng xz154
                    have zz162 : ¬ rz151.toInt ≤ xz154.toInt := fun h9 => cz155 (zi_le.mpr h9)
                    refine lv_iload hx hb dX11_most_65 (lv_at hl 3 rfl) ?_
                    rw [hQ]
                    exact W.iret (v := xz140) hx hb hr (fun t ht hW => ⟨⟨xz140, (), rfl, trivial, nz152, az153, hnz152, by rw [ht]; exact hP⟩, hS.F ht⟩) hS.2.2 dX11_most_67
                · skip
                  have zz163 : p1.toInt = (1 : Int) := zi_eq.mp cz148
                  refine W.eq (g2 := F0 m 47 ls [.int 1, .ref (sY 1 1), .ref (qX 0)]) (by rw [cz148]) ?_
                  refine va_aldq hx hb hK hP 30 4 rfl rfl (by unfold vp_in; decide) dX11_most_47 ?_
                  refine W.eq (g2 := F0 m 48 ls [.ref (sY 1 5), .ref (qX 0)]) rfl ?_
                  refine lv_iload hx hb dX11_most_48 (lv_at hl 3 rfl) ?_
                  have hPc := hP.sub (ws' := (List.flatten [(wMem qM k nz139 az138)] ++ List.flatten [(wSag qX k tapeX (qV 0) actsX nowX trialX (qY 0) attemptX orderSearchX routeSearchX setSearchX (qM 0) slot0X slot1X slot2X slot3X image0X image1X image2X aX), (wValley qV k vV bV cV wV aV eV), (wMem (fun i => sY 1 (i + 5)) k (fun i => (nY 1) (i + 1)) (fun i => (aY 1) (i + 2)))])) [0, 1, 2, 3, 4, 5, 6, 7, 8, 9, 10, 11, 12, 13, 14, 15, 34, 35, 36] rfl
                  have hC : [0, 1, 2, 3, 4, 5, 6, 7, 8, 9, 10, 11, 12, 13, 14, 15, 34, 35, 36].map (fun i => (List.flatten [(wMem qM k nz139 az138)] ++ List.flatten [(wSag qX k tapeX (qV 0) actsX nowX trialX (qY 0) attemptX orderSearchX routeSearchX setSearchX (qM 0) slot0X slot1X slot2X slot3X image0X image1X image2X aX), (wValley qV k vV bV cV wV aV eV), (wStoO qY k (qV 0) planY (sY 0 0) (sY 1 0) (sY 2 0) (sY 3 0) (sY 4 0) (sY 5 0) (sY 6 0) (sY 7 0)), (wState (sY 0) k (vY 0) (nY 0) (aY 0)), (wState (sY 1) k (vY 1) (nY 1) (aY 1)), (wState (sY 2) k (vY 2) (nY 2) (aY 2)), (wState (sY 3) k (vY 3) (nY 3) (aY 3)), (wState (sY 4) k (vY 4) (nY 4) (aY 4)), (wState (sY 5) k (vY 5) (nY 5) (aY 5)), (wState (sY 6) k (vY 6) (nY 6) (aY 6)), (wState (sY 7) k (vY 7) (nY 7) (aY 7))])[i]?) = (List.flatten [(wMem qM k nz139 az138)] ++ List.flatten [(wSag qX k tapeX (qV 0) actsX nowX trialX (qY 0) attemptX orderSearchX routeSearchX setSearchX (qM 0) slot0X slot1X slot2X slot3X image0X image1X image2X aX), (wValley qV k vV bV cV wV aV eV), (wMem (fun i => sY 1 (i + 5)) k (fun i => (nY 1) (i + 1)) (fun i => (aY 1) (i + 2)))]).map some := rfl
                  have hDc := hD.sub [0, 1, 2, 3, 4, 5, 6, 7, 8, 9, 10, 11, 12, 13, 14, 15, 34, 35, 36] (by decide) hC
                  have hFc := va_free hD hS hA [0, 1, 2, 3, 4, 5, 6, 7, 8, 9, 10, 11, 12, 13, 14, 15, 34, 35, 36] hC
                  refine va_calli (va_runV (As := [.ref (sY 1 5), .int xz140]) (rest := []) ⟨hx, hb, hml, hown, hts⟩ (c_X11_depthWith l dC dI k H.size qX tapeX actsX nowX trialX (qY 0) attemptX orderSearchX routeSearchX setSearchX slot0X slot1X slot2X slot3X image0X image1X image2X aX qV vV bV cV wV aV eV qM nz139 az138 (fun i => sY 1 (i + 5)) (fun i => (nY 1) (i + 1)) (fun i => (aY 1) (i + 2)) xz140 hbV hcV hwV heV hnz139 (fun i => (hnY 1) (i + 1)) (by show 0 ≤ xz140.toInt ∧ xz140.toInt ≤ 99; omega)) (cwV 2 hts (gk_V (wl_mem 14 rfl) (wl_mem 15 rfl) (wl_mem 16 rfl) (wl_mem 3 rfl) (fun w h => List.mem_cons_of_mem _ (List.mem_append_right _ (List.mem_append_right _ (List.mem_append_right _ (List.mem_append_right _ (List.mem_append_right _ (List.mem_append_right _ (List.mem_append_left _ h)))))))) wkg_c_X11_depthWith) rfl rfl rfl (by decide +kernel) ⟨Nat.le_of_ble_eq_true rfl, Nat.le_of_ble_eq_true rfl⟩) ⟨fun a U g mk q => by obtain ⟨q0, q1, qP, qK, qD⟩ := q; exact ⟨q0, q1, qP, va_K.moved (u := U) (U := U.calling g mk a) (Vm.Alike.refl U.vm) qK, qD⟩, va_recv hK hPc (ci := 11) (q0 := 3) rfl rfl, fun U hU hW => ⟨rfl, by rw [hU], by rw [hU]; exact hPc, va_K.moved hW.alike hK, hDc.weaken (fun _ _ _ _ => trivial)⟩⟩ rfl rfl hl.1 rfl (lv_room (Nat.le_of_ble_eq_true rfl)) dX11_most_50 ⟨Nat.le_of_ble_eq_true rfl, Nat.le_of_ble_eq_true rfl⟩) hS (fun q _ h => hFc q h) hFc (fun rz165 u t H1 locs ht hvm gz164 hB hz1 hk1 hS => ?_)
                  obtain ⟨nz166, az167, hnz166, hP1⟩ := hB
                  rw [ht] at hP1
                  obtain ⟨hP, hD⟩ := w_callR hP hD hk1 hP1 [0] rfl rfl (wk_mem [3, 4, 5, 6, 7, 8, 9, 10, 11, 12, 13, 14, 15, 34, 35, 36] rfl) rfl [some 0] rfl rfl
                  clear hPc hC hDc hFc hk1 hP1
                  generalize H1 = H at hP hS ⊢
                  have hP : va_P (dC, dI) vwCl (List.flatten [(wMem qM k nz166 az167)] ++ List.flatten [(wSag qX k tapeX (qV 0) actsX nowX trialX (qY 0) attemptX orderSearchX routeSearchX setSearchX (qM 0) slot0X slot1X slot2X slot3X image0X image1X image2X aX), (wValley qV k vV bV cV wV aV eV), (wStoO qY k (qV 0) planY (sY 0 0) (sY 1 0) (sY 2 0) (sY 3 0) (sY 4 0) (sY 5 0) (sY 6 0) (sY 7 0)), (wState (sY 0) k (vY 0) (nY 0) (aY 0)), (wState (sY 1) k (vY 1) (nY 1) (aY 1)), (wState (sY 2) k (vY 2) (nY 2) (aY 2)), (wState (sY 3) k (vY 3) (nY 3) (aY 3)), (wState (sY 4) k (vY 4) (nY 4) (aY 4)), (wState (sY 5) k (vY 5) (nY 5) (aY 5)), (wState (sY 6) k (vY 6) (nY 6) (aY 6)), (wState (sY 7) k (vY 7) (nY 7) (aY 7))]) H := hP
                  have hD : va_D A (List.flatten [(wMem qM k nz166 az167)] ++ List.flatten [(wSag qX k tapeX (qV 0) actsX nowX trialX (qY 0) attemptX orderSearchX routeSearchX setSearchX (qM 0) slot0X slot1X slot2X slot3X image0X image1X image2X aX), (wValley qV k vV bV cV wV aV eV), (wStoO qY k (qV 0) planY (sY 0 0) (sY 1 0) (sY 2 0) (sY 3 0) (sY 4 0) (sY 5 0) (sY 6 0) (sY 7 0)), (wState (sY 0) k (vY 0) (nY 0) (aY 0)), (wState (sY 1) k (vY 1) (nY 1) (aY 1)), (wState (sY 2) k (vY 2) (nY 2) (aY 2)), (wState (sY 3) k (vY 3) (nY 3) (aY 3)), (wState (sY 4) k (vY 4) (nY 4) (aY 4)), (wState (sY 5) k (vY 5) (nY 5) (aY 5)), (wState (sY 6) k (vY 6) (nY 6) (aY 6)), (wState (sY 7) k (vY 7) (nY 7) (aY 7))]) := hD
                  refine W.widen (k := 0) (n := 0) (Nat.le_refl 0) (Nat.le_refl 0) ?_
                  refine lv_aload_n hx hb dX11_most_53 rfl (lv_at hl 0 rfl) ?_
                  refine va_get (D := (dC, dI)) (ci := 11) (v := .ref (qV 0)) (C := RX11) (T := TX11) (N := 15) hx hb hts (fun w h => List.mem_cons_of_mem _ (List.mem_append_right _ (List.mem_append_right _ (List.mem_append_left _ h)))) hown hK hP 3 rfl rfl 1 (by decide) (hts (.fieldLink RX11 19 "SagMemory" "told" "LSagMemory$Valley;") (wl_mem 17 rfl)) (fun _ h9 => h9) rfl dX11_most_54 ?_
                  refine va_get (D := (dC, dI)) (ci := 10) (v := .ref (qV 1)) (C := RX10) (T := TX10) (N := 16) hx hb hts (fun w h => List.mem_cons_of_mem _ (List.mem_append_right _ (List.mem_append_right _ (List.mem_append_right _ (List.mem_append_right _ (List.mem_append_right _ (List.mem_append_right _ (List.mem_append_right _ (List.mem_append_left _ h))))))))) hown hK hP 8 rfl rfl 0 (by decide) (hts (.fieldLink RX11 135 "SagMemory$Valley" "holds" "[I") (wl_mem 18 rfl)) (fun _ h9 => h9) rfl dX11_most_57 ?_
                  refine lv_iload_n hx hb dX11_most_60 rfl (lv_at hl 1 rfl) ?_
                  refine va_iald hx hb hK hP 9 0 rfl rfl (vp_in_iff.mpr ⟨by omega, by omega⟩) dX11_most_61 ?_
                  refine lv_topi (fun xz168 exz168 => ?_)
                  refine lv_icmp_le (tgt := 68) hx hb dX11_most_62 (by decide) (fun cz169 => ?_) (fun cz169 => ?_)
                  · skip
                    have bz170 := fb_rng rz165
                    have bz171 := fb_rng xz168
                    have zz172 : rz165.toInt ≤ xz168.toInt := zi_le.mp cz169
                    obtain ⟨xz173, exz173⟩ : ∃ y : Int32, y = xz140 + Int32.ofInt (1) := ⟨_, rfl⟩
                    have fxz173 : xz173.toInt = xz140.toInt + (1) := by rw [exz173]; exact fb_addI (y := Int32.ofInt (1)) (by show -2147483648 ≤ xz140.toInt + (1); omega) (by show xz140.toInt + (1) < 2147483648; omega)
                    refine lv_iinc (v := xz173) (lv' := [(4, .int xz173), (0, .ref (qX 0)), (1, .int p1), (3, .ref (sY 1 0))]) hx hb dX11_most_68 hl (k := 3) rfl exz173.symm (by decide) rfl (fun ls hl => ?_)
                    refine lv_goto (tgt := 34) hx hb dX11_most_71 (by decide) ?_
                    exact ih34 H locs ls az167 nz166 xz173 (by show (2147483647 - xz173.toInt).toNat < n9_34; omega) hnz166 (by show 1 ≤ xz173.toInt; omega) hP hD hS (lv_sub hl [1, 2, 3, 0] rfl)
                  · skip
                    have bz174 := fb_rng rz165
                    have bz175 := fb_rng xz168
                    have zz176 : ¬ rz165.toInt ≤ xz168.toInt := fun h9 => cz169 (zi_le.mpr h9)
                    refine lv_iload hx hb dX11_most_65 (lv_at hl 3 rfl) ?_
                    rw [hQ]
                    exact W.iret (v := xz140) hx hb hr (fun t ht hW => ⟨⟨xz140, (), rfl, trivial, nz166, az167, hnz166, by rw [ht]; exact hP⟩, hS.F ht⟩) hS.2.2 dX11_most_67
                · skip
                  have zz177 : p1.toInt = (2 : Int) := zi_eq.mp cz148
                  refine W.eq (g2 := F0 m 47 ls [.int 2, .ref (sY 1 1), .ref (qX 0)]) (by rw [cz148]) ?_
                  refine va_aldq hx hb hK hP 30 4 rfl rfl (by unfold vp_in; decide) dX11_most_47 ?_
                  refine W.eq (g2 := F0 m 48 ls [.ref (sY 1 8), .ref (qX 0)]) rfl ?_
                  refine lv_iload hx hb dX11_most_48 (lv_at hl 3 rfl) ?_
                  have hPc := hP.sub (ws' := (List.flatten [(wMem qM k nz139 az138)] ++ List.flatten [(wSag qX k tapeX (qV 0) actsX nowX trialX (qY 0) attemptX orderSearchX routeSearchX setSearchX (qM 0) slot0X slot1X slot2X slot3X image0X image1X image2X aX), (wValley qV k vV bV cV wV aV eV), (wMem (fun i => sY 1 (i + 8)) k (fun i => (nY 1) (i + 2)) (fun i => (aY 1) (i + 4)))])) [0, 1, 2, 3, 4, 5, 6, 7, 8, 9, 10, 11, 12, 13, 14, 15, 37, 38, 39] rfl
                  have hC : [0, 1, 2, 3, 4, 5, 6, 7, 8, 9, 10, 11, 12, 13, 14, 15, 37, 38, 39].map (fun i => (List.flatten [(wMem qM k nz139 az138)] ++ List.flatten [(wSag qX k tapeX (qV 0) actsX nowX trialX (qY 0) attemptX orderSearchX routeSearchX setSearchX (qM 0) slot0X slot1X slot2X slot3X image0X image1X image2X aX), (wValley qV k vV bV cV wV aV eV), (wStoO qY k (qV 0) planY (sY 0 0) (sY 1 0) (sY 2 0) (sY 3 0) (sY 4 0) (sY 5 0) (sY 6 0) (sY 7 0)), (wState (sY 0) k (vY 0) (nY 0) (aY 0)), (wState (sY 1) k (vY 1) (nY 1) (aY 1)), (wState (sY 2) k (vY 2) (nY 2) (aY 2)), (wState (sY 3) k (vY 3) (nY 3) (aY 3)), (wState (sY 4) k (vY 4) (nY 4) (aY 4)), (wState (sY 5) k (vY 5) (nY 5) (aY 5)), (wState (sY 6) k (vY 6) (nY 6) (aY 6)), (wState (sY 7) k (vY 7) (nY 7) (aY 7))])[i]?) = (List.flatten [(wMem qM k nz139 az138)] ++ List.flatten [(wSag qX k tapeX (qV 0) actsX nowX trialX (qY 0) attemptX orderSearchX routeSearchX setSearchX (qM 0) slot0X slot1X slot2X slot3X image0X image1X image2X aX), (wValley qV k vV bV cV wV aV eV), (wMem (fun i => sY 1 (i + 8)) k (fun i => (nY 1) (i + 2)) (fun i => (aY 1) (i + 4)))]).map some := rfl
                  have hDc := hD.sub [0, 1, 2, 3, 4, 5, 6, 7, 8, 9, 10, 11, 12, 13, 14, 15, 37, 38, 39] (by decide) hC
                  have hFc := va_free hD hS hA [0, 1, 2, 3, 4, 5, 6, 7, 8, 9, 10, 11, 12, 13, 14, 15, 37, 38, 39] hC
                  refine va_calli (va_runV (As := [.ref (sY 1 8), .int xz140]) (rest := []) ⟨hx, hb, hml, hown, hts⟩ (c_X11_depthWith l dC dI k H.size qX tapeX actsX nowX trialX (qY 0) attemptX orderSearchX routeSearchX setSearchX slot0X slot1X slot2X slot3X image0X image1X image2X aX qV vV bV cV wV aV eV qM nz139 az138 (fun i => sY 1 (i + 8)) (fun i => (nY 1) (i + 2)) (fun i => (aY 1) (i + 4)) xz140 hbV hcV hwV heV hnz139 (fun i => (hnY 1) (i + 2)) (by show 0 ≤ xz140.toInt ∧ xz140.toInt ≤ 99; omega)) (cwV 2 hts (gk_V (wl_mem 14 rfl) (wl_mem 15 rfl) (wl_mem 16 rfl) (wl_mem 3 rfl) (fun w h => List.mem_cons_of_mem _ (List.mem_append_right _ (List.mem_append_right _ (List.mem_append_right _ (List.mem_append_right _ (List.mem_append_right _ (List.mem_append_right _ (List.mem_append_left _ h)))))))) wkg_c_X11_depthWith) rfl rfl rfl (by decide +kernel) ⟨Nat.le_of_ble_eq_true rfl, Nat.le_of_ble_eq_true rfl⟩) ⟨fun a U g mk q => by obtain ⟨q0, q1, qP, qK, qD⟩ := q; exact ⟨q0, q1, qP, va_K.moved (u := U) (U := U.calling g mk a) (Vm.Alike.refl U.vm) qK, qD⟩, va_recv hK hPc (ci := 11) (q0 := 3) rfl rfl, fun U hU hW => ⟨rfl, by rw [hU], by rw [hU]; exact hPc, va_K.moved hW.alike hK, hDc.weaken (fun _ _ _ _ => trivial)⟩⟩ rfl rfl hl.1 rfl (lv_room (Nat.le_of_ble_eq_true rfl)) dX11_most_50 ⟨Nat.le_of_ble_eq_true rfl, Nat.le_of_ble_eq_true rfl⟩) hS (fun q _ h => hFc q h) hFc (fun rz179 u t H1 locs ht hvm gz178 hB hz1 hk1 hS => ?_)
                  obtain ⟨nz180, az181, hnz180, hP1⟩ := hB
                  rw [ht] at hP1
                  obtain ⟨hP, hD⟩ := w_callR hP hD hk1 hP1 [0] rfl rfl (wk_mem [3, 4, 5, 6, 7, 8, 9, 10, 11, 12, 13, 14, 15, 37, 38, 39] rfl) rfl [some 0] rfl rfl
                  clear hPc hC hDc hFc hk1 hP1
                  generalize H1 = H at hP hS ⊢
                  have hP : va_P (dC, dI) vwCl (List.flatten [(wMem qM k nz180 az181)] ++ List.flatten [(wSag qX k tapeX (qV 0) actsX nowX trialX (qY 0) attemptX orderSearchX routeSearchX setSearchX (qM 0) slot0X slot1X slot2X slot3X image0X image1X image2X aX), (wValley qV k vV bV cV wV aV eV), (wStoO qY k (qV 0) planY (sY 0 0) (sY 1 0) (sY 2 0) (sY 3 0) (sY 4 0) (sY 5 0) (sY 6 0) (sY 7 0)), (wState (sY 0) k (vY 0) (nY 0) (aY 0)), (wState (sY 1) k (vY 1) (nY 1) (aY 1)), (wState (sY 2) k (vY 2) (nY 2) (aY 2)), (wState (sY 3) k (vY 3) (nY 3) (aY 3)), (wState (sY 4) k (vY 4) (nY 4) (aY 4)), (wState (sY 5) k (vY 5) (nY 5) (aY 5)), (wState (sY 6) k (vY 6) (nY 6) (aY 6)), (wState (sY 7) k (vY 7) (nY 7) (aY 7))]) H := hP
                  have hD : va_D A (List.flatten [(wMem qM k nz180 az181)] ++ List.flatten [(wSag qX k tapeX (qV 0) actsX nowX trialX (qY 0) attemptX orderSearchX routeSearchX setSearchX (qM 0) slot0X slot1X slot2X slot3X image0X image1X image2X aX), (wValley qV k vV bV cV wV aV eV), (wStoO qY k (qV 0) planY (sY 0 0) (sY 1 0) (sY 2 0) (sY 3 0) (sY 4 0) (sY 5 0) (sY 6 0) (sY 7 0)), (wState (sY 0) k (vY 0) (nY 0) (aY 0)), (wState (sY 1) k (vY 1) (nY 1) (aY 1)), (wState (sY 2) k (vY 2) (nY 2) (aY 2)), (wState (sY 3) k (vY 3) (nY 3) (aY 3)), (wState (sY 4) k (vY 4) (nY 4) (aY 4)), (wState (sY 5) k (vY 5) (nY 5) (aY 5)), (wState (sY 6) k (vY 6) (nY 6) (aY 6)), (wState (sY 7) k (vY 7) (nY 7) (aY 7))]) := hD
                  refine W.widen (k := 0) (n := 0) (Nat.le_refl 0) (Nat.le_refl 0) ?_
                  refine lv_aload_n hx hb dX11_most_53 rfl (lv_at hl 0 rfl) ?_
                  refine va_get (D := (dC, dI)) (ci := 11) (v := .ref (qV 0)) (C := RX11) (T := TX11) (N := 15) hx hb hts (fun w h => List.mem_cons_of_mem _ (List.mem_append_right _ (List.mem_append_right _ (List.mem_append_left _ h)))) hown hK hP 3 rfl rfl 1 (by decide) (hts (.fieldLink RX11 19 "SagMemory" "told" "LSagMemory$Valley;") (wl_mem 17 rfl)) (fun _ h9 => h9) rfl dX11_most_54 ?_
                  refine va_get (D := (dC, dI)) (ci := 10) (v := .ref (qV 1)) (C := RX10) (T := TX10) (N := 16) hx hb hts (fun w h => List.mem_cons_of_mem _ (List.mem_append_right _ (List.mem_append_right _ (List.mem_append_right _ (List.mem_append_right _ (List.mem_append_right _ (List.mem_append_right _ (List.mem_append_right _ (List.mem_append_left _ h))))))))) hown hK hP 8 rfl rfl 0 (by decide) (hts (.fieldLink RX11 135 "SagMemory$Valley" "holds" "[I") (wl_mem 18 rfl)) (fun _ h9 => h9) rfl dX11_most_57 ?_
                  refine lv_iload_n hx hb dX11_most_60 rfl (lv_at hl 1 rfl) ?_
                  refine va_iald hx hb hK hP 9 0 rfl rfl (vp_in_iff.mpr ⟨by omega, by omega⟩) dX11_most_61 ?_
                  refine lv_topi (fun xz182 exz182 => ?_)
                  refine lv_icmp_le (tgt := 68) hx hb dX11_most_62 (by decide) (fun cz183 => ?_) (fun cz183 => ?_)
                  · skip
                    have bz184 := fb_rng rz179
                    have bz185 := fb_rng xz182
                    have zz186 : rz179.toInt ≤ xz182.toInt := zi_le.mp cz183
                    obtain ⟨xz187, exz187⟩ : ∃ y : Int32, y = xz140 + Int32.ofInt (1) := ⟨_, rfl⟩
                    have fxz187 : xz187.toInt = xz140.toInt + (1) := by rw [exz187]; exact fb_addI (y := Int32.ofInt (1)) (by show -2147483648 ≤ xz140.toInt + (1); omega) (by show xz140.toInt + (1) < 2147483648; omega)
                    refine lv_iinc (v := xz187) (lv' := [(4, .int xz187), (0, .ref (qX 0)), (1, .int p1), (3, .ref (sY 1 0))]) hx hb dX11_most_68 hl (k := 3) rfl exz187.symm (by decide) rfl (fun ls hl => ?_)
                    refine lv_goto (tgt := 34) hx hb dX11_most_71 (by decide) ?_
                    exact ih34 H locs ls az181 nz180 xz187 (by show (2147483647 - xz187.toInt).toNat < n9_34; omega) hnz180 (by show 1 ≤ xz187.toInt; omega) hP hD hS (lv_sub hl [1, 2, 3, 0] rfl)
                  · skip
                    have bz188 := fb_rng rz179
                    have bz189 := fb_rng xz182
                    have zz190 : ¬ rz179.toInt ≤ xz182.toInt := fun h9 => cz183 (zi_le.mpr h9)
                    refine lv_iload hx hb dX11_most_65 (lv_at hl 3 rfl) ?_
                    rw [hQ]
                    exact W.iret (v := xz140) hx hb hr (fun t ht hW => ⟨⟨xz140, (), rfl, trivial, nz180, az181, hnz180, by rw [ht]; exact hP⟩, hS.F ht⟩) hS.2.2 dX11_most_67
          exact lp34_kz141 _ s.heap [] ls aM nM (1 : Int32) (Nat.lt_succ_self _) hnM (by show 1 ≤ (1 : Int); omega) hP hD hS (lv_sub hl [2, 3, 1, 0] rfl)
        · skip
          have zz191 : ¬ rz83.toInt = (0 : Int) := fun h9 => cz85 (zi_eq.mpr h9)
          refine lv_iconst (v := (-1)) hx hb dX11_most_29 (by decide) ?_
          rw [hQ]
          exact W.iret (v := (-1 : Int32)) hx hb hr (fun t ht hW => ⟨⟨(-1 : Int32), (), rfl, trivial, nM, aM, hnM, by rw [ht]; exact hP⟩, hS.F ht⟩) hS.2.2 dX11_most_30
      · skip
        have zz192 : ¬ p2.toInt < (0 : Int) := fun h9 => cz58 (zi_lt.mpr h9)
        have zz193 : ¬ (7 : Int) ≤ p2.toInt := fun h9 => cz59 (zi_le.mpr h9)
        have zz194 : p2.toInt = (1 : Int) := zi_eq.mp cz60
        refine W.eq (g2 := F0 m 20 ls [.ref (sY 2 0)]) rfl ?_
        refine lv_astore_n (lv' := [(3, .ref (sY 2 0)), (0, .ref (qX 0)), (1, .int p1), (2, .int p2)]) hx hb dX11_most_20 rfl hl (by decide) rfl (fun ls hl => ?_)
        refine lv_aload_n hx hb dX11_most_21 rfl (lv_at hl 0 rfl) ?_
        refine lv_iload_n hx hb dX11_most_22 rfl (lv_at hl 2 rfl) ?_
        have hPc := hP.sub (ws' := (List.flatten [(wState (sY 2) k (vY 2) (nY 2) (aY 2))])) [40, 41, 42, 43, 44, 45, 46, 47, 48, 49, 50] rfl
        refine vp_callSi (va_Run.run (va_runV (As := [.int p1]) (rest := []) ⟨hx, hb, hml, hown, hts⟩ (c_X7_isBroken l dC dI k (sY 2) (vY 2) (nY 2) (aY 2) p1 (hnY 2)) (cwV 1 hts (gk_V (wl_mem 9 rfl) (wl_mem 10 rfl) (wl_mem 11 rfl) (wl_mem 12 rfl) (fun w h => List.mem_cons_of_mem _ (List.mem_append_right _ (List.mem_append_right _ (List.mem_append_right _ (List.mem_append_right _ (List.mem_append_left _ h)))))) wkg_c_X7_isBroken) rfl rfl rfl (by decide +kernel) ⟨Nat.le_of_ble_eq_true rfl, Nat.le_of_ble_eq_true rfl⟩) ⟨fun a U g mk q => by obtain ⟨q0, qP, qK⟩ := q; exact ⟨q0, qP, va_K.moved (u := U) (U := U.calling g mk a) (Vm.Alike.refl U.vm) qK⟩, va_recv hK hPc (ci := 7) (q0 := 0) rfl rfl, fun U hU hW => ⟨rfl, by rw [hU]; exact hPc, va_K.moved hW.alike hK⟩⟩ rfl rfl hl.1 rfl (lv_room (Nat.le_of_ble_eq_true rfl)) dX11_most_23 ⟨Nat.le_of_ble_eq_true rfl, Nat.le_of_ble_eq_true rfl⟩)) (fun rz196 gz195 => ?_)
        clear hPc
        have pz197 := gz195
        have pz197 : rz196.toInt = 0 ∨ rz196.toInt = 1 := pz197
        refine lv_if_eq (tgt := 31) hx hb dX11_most_26 (by decide) (fun cz198 => ?_) (fun cz198 => ?_)
        · skip
          have zz199 : rz196.toInt = (0 : Int) := zi_eq.mp cz198
          refine lv_iconst (v := 1) hx hb dX11_most_31 (by decide) ?_
          refine lv_istore (lv' := [(4, .int 1), (3, .ref (sY 2 0)), (0, .ref (qX 0)), (1, .int p1), (2, .int p2)]) hx hb dX11_most_32 hl (by decide) rfl (fun ls hl => ?_)
          have lp34_kz254 : ∀ (n9_34 : Nat) (H : Heap) (locs : List Loc) (ls : Array Slot) (az251 : Nat → Nat → Int32) (nz252 : Nat → Int32) (xz253 : Int32), (2147483647 - xz253.toInt).toNat < n9_34 → Rg 0 8 nz252 → 1 ≤ xz253.toInt → va_P (dC, dI) vwCl (List.flatten [(wMem qM k nz252 az251)] ++ List.flatten [(wSag qX k tapeX (qV 0) actsX nowX trialX (qY 0) attemptX orderSearchX routeSearchX setSearchX (qM 0) slot0X slot1X slot2X slot3X image0X image1X image2X aX), (wValley qV k vV bV cV wV aV eV), (wStoO qY k (qV 0) planY (sY 0 0) (sY 1 0) (sY 2 0) (sY 3 0) (sY 4 0) (sY 5 0) (sY 6 0) (sY 7 0)), (wState (sY 0) k (vY 0) (nY 0) (aY 0)), (wState (sY 1) k (vY 1) (nY 1) (aY 1)), (wState (sY 2) k (vY 2) (nY 2) (aY 2)), (wState (sY 3) k (vY 3) (nY 3) (aY 3)), (wState (sY 4) k (vY 4) (nY 4) (aY 4)), (wState (sY 5) k (vY 5) (nY 5) (aY 5)), (wState (sY 6) k (vY 6) (nY 6) (aY 6)), (wState (sY 7) k (vY 7) (nY 7) (aY 7))]) H → va_D A (List.flatten [(wMem qM k nz252 az251)] ++ List.flatten [(wSag qX k tapeX (qV 0) actsX nowX trialX (qY 0) attemptX orderSearchX routeSearchX setSearchX (qM 0) slot0X slot1X slot2X slot3X image0X image1X image2X aX), (wValley qV k vV bV cV wV aV eV), (wStoO qY k (qV 0) planY (sY 0 0) (sY 1 0) (sY 2 0) (sY 3 0) (sY 4 0) (sY 5 0) (sY 6 0) (sY 7 0)), (wState (sY 0) k (vY 0) (nY 0) (aY 0)), (wState (sY 1) k (vY 1) (nY 1) (aY 1)), (wState (sY 2) k (vY 2) (nY 2) (aY 2)), (wState (sY 3) k (vY 3) (nY 3) (aY 3)), (wState (sY 4) k (vY 4) (nY 4) (aY 4)), (wState (sY 5) k (vY 5) (nY 5) (aY 5)), (wState (sY 6) k (vY 6) (nY 6) (aY 6)), (wState (sY 7) k (vY 7) (nY 7) (aY 7))]) → va_S A s.heap H locs → lv_has ls 5 [(0, .ref (qX 0)), (1, .int p1), (3, .ref (sY 2 0)), (4, .int xz253)] → W p l e (headSpec wk_c_X11_most ({ frames := 2, cells := 0, slots := 0, locals := 49 })).room s m ([.ref (qX 0), .int p1, .int p2] : List Value).toArray below meth c H locs 0 0 Q (F0 m 34 ls []) := by
            intro n9_34
            induction n9_34 with
            | zero => intro H locs ls az251 nz252 xz253 hm; exact absurd hm (Nat.not_lt_zero _)
            | succ n9_34 ih34 =>
              intro H locs ls az251 nz252 xz253 hm34 hnz252 jz255 hP hD hS hl
              refine lv_iload hx hb dX11_most_34 (lv_at hl 3 rfl) ?_
              refine lv_bipush (v := 99) hx hb dX11_most_36 (by decide) ?_
              refine lv_icmp_gt (tgt := 74) hx hb dX11_most_38 (by decide) (fun cz256 => ?_) (fun cz256 => ?_)
              · skip
                have bz257 := fb_rng xz253
                have zz258 : (99 : Int) < xz253.toInt := zi_lt.mp cz256
                refine lv_iconst (v := (-1)) hx hb dX11_most_74 (by decide) ?_
                rw [hQ]
                exact W.iret (v := (-1 : Int32)) hx hb hr (fun t ht hW => ⟨⟨(-1 : Int32), (), rfl, trivial, nz252, az251, hnz252, by rw [ht]; exact hP⟩, hS.F ht⟩) hS.2.2 dX11_most_75
              · skip
                have bz259 := fb_rng xz253
                have zz260 : ¬ (99 : Int) < xz253.toInt := fun h9 => cz256 (zi_lt.mpr h9)
                refine lv_aload_n hx hb dX11_most_41 rfl (lv_at hl 0 rfl) ?_
                refine lv_aload_n hx hb dX11_most_42 rfl (lv_at hl 2 rfl) ?_
                refine va_get (D := (dC, dI)) (ci := 7) (v := .ref (sY 2 1)) (C := RX7) (T := TX7) (N := 9) hx hb hts (fun w h => List.mem_cons_of_mem _ (List.mem_append_right _ (List.mem_append_right _ (List.mem_append_right _ (List.mem_append_right _ (List.mem_append_right _ (List.mem_append_left _ h))))))) hown hK hP 40 rfl rfl 0 (by decide) (hts (.fieldLink RX11 194 "SagMemory$State" "memories" "[LSagMemory$Memory;") (wl_mem 13 rfl)) (fun _ h9 => h9) rfl dX11_most_43 ?_
                refine lv_iload_n hx hb dX11_most_46 rfl (lv_at hl 1 rfl) ?_
                rcases (show p1 = 0 ∨ p1 = 1 ∨ p1 = 2 by simp only [zi_eq]; show p1.toInt = 0 ∨ p1.toInt = 1 ∨ p1.toInt = 2; omega) with cz261 | cz261 | cz261
                · skip
                  have zz262 : p1.toInt = (0 : Int) := zi_eq.mp cz261
                  refine W.eq (g2 := F0 m 47 ls [.int 0, .ref (sY 2 1), .ref (qX 0)]) (by rw [cz261]) ?_
                  refine va_aldq hx hb hK hP 41 4 rfl rfl (by unfold vp_in; decide) dX11_most_47 ?_
                  refine W.eq (g2 := F0 m 48 ls [.ref (sY 2 2), .ref (qX 0)]) rfl ?_
                  refine lv_iload hx hb dX11_most_48 (lv_at hl 3 rfl) ?_
                  have hPc := hP.sub (ws' := (List.flatten [(wMem qM k nz252 az251)] ++ List.flatten [(wSag qX k tapeX (qV 0) actsX nowX trialX (qY 0) attemptX orderSearchX routeSearchX setSearchX (qM 0) slot0X slot1X slot2X slot3X image0X image1X image2X aX), (wValley qV k vV bV cV wV aV eV), (wMem (fun i => sY 2 (i + 2)) k (nY 2) (aY 2))])) [0, 1, 2, 3, 4, 5, 6, 7, 8, 9, 10, 11, 12, 13, 14, 15, 42, 43, 44] rfl
                  have hC : [0, 1, 2, 3, 4, 5, 6, 7, 8, 9, 10, 11, 12, 13, 14, 15, 42, 43, 44].map (fun i => (List.flatten [(wMem qM k nz252 az251)] ++ List.flatten [(wSag qX k tapeX (qV 0) actsX nowX trialX (qY 0) attemptX orderSearchX routeSearchX setSearchX (qM 0) slot0X slot1X slot2X slot3X image0X image1X image2X aX), (wValley qV k vV bV cV wV aV eV), (wStoO qY k (qV 0) planY (sY 0 0) (sY 1 0) (sY 2 0) (sY 3 0) (sY 4 0) (sY 5 0) (sY 6 0) (sY 7 0)), (wState (sY 0) k (vY 0) (nY 0) (aY 0)), (wState (sY 1) k (vY 1) (nY 1) (aY 1)), (wState (sY 2) k (vY 2) (nY 2) (aY 2)), (wState (sY 3) k (vY 3) (nY 3) (aY 3)), (wState (sY 4) k (vY 4) (nY 4) (aY 4)), (wState (sY 5) k (vY 5) (nY 5) (aY 5)), (wState (sY 6) k (vY 6) (nY 6) (aY 6)), (wState (sY 7) k (vY 7) (nY 7) (aY 7))])[i]?) = (List.flatten [(wMem qM k nz252 az251)] ++ List.flatten [(wSag qX k tapeX (qV 0) actsX nowX trialX (qY 0) attemptX orderSearchX routeSearchX setSearchX (qM 0) slot0X slot1X slot2X slot3X image0X image1X image2X aX), (wValley qV k vV bV cV wV aV eV), (wMem (fun i => sY 2 (i + 2)) k (nY 2) (aY 2))]).map some := rfl
                  have hDc := hD.sub [0, 1, 2, 3, 4, 5, 6, 7, 8, 9, 10, 11, 12, 13, 14, 15, 42, 43, 44] (by decide) hC
                  have hFc := va_free hD hS hA [0, 1, 2, 3, 4, 5, 6, 7, 8, 9, 10, 11, 12, 13, 14, 15, 42, 43, 44] hC
                  refine va_calli (va_runV (As := [.ref (sY 2 2), .int xz253]) (rest := []) ⟨hx, hb, hml, hown, hts⟩ (c_X11_depthWith l dC dI k H.size qX tapeX actsX nowX trialX (qY 0) attemptX orderSearchX routeSearchX setSearchX slot0X slot1X slot2X slot3X image0X image1X image2X aX qV vV bV cV wV aV eV qM nz252 az251 (fun i => sY 2 (i + 2)) (nY 2) (aY 2) xz253 hbV hcV hwV heV hnz252 (hnY 2) (by show 0 ≤ xz253.toInt ∧ xz253.toInt ≤ 99; omega)) (cwV 2 hts (gk_V (wl_mem 14 rfl) (wl_mem 15 rfl) (wl_mem 16 rfl) (wl_mem 3 rfl) (fun w h => List.mem_cons_of_mem _ (List.mem_append_right _ (List.mem_append_right _ (List.mem_append_right _ (List.mem_append_right _ (List.mem_append_right _ (List.mem_append_right _ (List.mem_append_left _ h)))))))) wkg_c_X11_depthWith) rfl rfl rfl (by decide +kernel) ⟨Nat.le_of_ble_eq_true rfl, Nat.le_of_ble_eq_true rfl⟩) ⟨fun a U g mk q => by obtain ⟨q0, q1, qP, qK, qD⟩ := q; exact ⟨q0, q1, qP, va_K.moved (u := U) (U := U.calling g mk a) (Vm.Alike.refl U.vm) qK, qD⟩, va_recv hK hPc (ci := 11) (q0 := 3) rfl rfl, fun U hU hW => ⟨rfl, by rw [hU], by rw [hU]; exact hPc, va_K.moved hW.alike hK, hDc.weaken (fun _ _ _ _ => trivial)⟩⟩ rfl rfl hl.1 rfl (lv_room (Nat.le_of_ble_eq_true rfl)) dX11_most_50 ⟨Nat.le_of_ble_eq_true rfl, Nat.le_of_ble_eq_true rfl⟩) hS (fun q _ h => hFc q h) hFc (fun rz264 u t H1 locs ht hvm gz263 hB hz1 hk1 hS => ?_)
                  obtain ⟨nz265, az266, hnz265, hP1⟩ := hB
                  rw [ht] at hP1
                  obtain ⟨hP, hD⟩ := w_callR hP hD hk1 hP1 [0] rfl rfl (wk_mem [3, 4, 5, 6, 7, 8, 9, 10, 11, 12, 13, 14, 15, 42, 43, 44] rfl) rfl [some 0] rfl rfl
                  clear hPc hC hDc hFc hk1 hP1
                  generalize H1 = H at hP hS ⊢
                  have hP : va_P (dC, dI) vwCl (List.flatten [(wMem qM k nz265 az266)] ++ List.flatten [(wSag qX k tapeX (qV 0) actsX nowX trialX (qY 0) attemptX orderSearchX routeSearchX setSearchX (qM 0) slot0X slot1X slot2X slot3X image0X image1X image2X aX), (wValley qV k vV bV cV wV aV eV), (wStoO qY k (qV 0) planY (sY 0 0) (sY 1 0) (sY 2 0) (sY 3 0) (sY 4 0) (sY 5 0) (sY 6 0) (sY 7 0)), (wState (sY 0) k (vY 0) (nY 0) (aY 0)), (wState (sY 1) k (vY 1) (nY 1) (aY 1)), (wState (sY 2) k (vY 2) (nY 2) (aY 2)), (wState (sY 3) k (vY 3) (nY 3) (aY 3)), (wState (sY 4) k (vY 4) (nY 4) (aY 4)), (wState (sY 5) k (vY 5) (nY 5) (aY 5)), (wState (sY 6) k (vY 6) (nY 6) (aY 6)), (wState (sY 7) k (vY 7) (nY 7) (aY 7))]) H := hP
                  have hD : va_D A (List.flatten [(wMem qM k nz265 az266)] ++ List.flatten [(wSag qX k tapeX (qV 0) actsX nowX trialX (qY 0) attemptX orderSearchX routeSearchX setSearchX (qM 0) slot0X slot1X slot2X slot3X image0X image1X image2X aX), (wValley qV k vV bV cV wV aV eV), (wStoO qY k (qV 0) planY (sY 0 0) (sY 1 0) (sY 2 0) (sY 3 0) (sY 4 0) (sY 5 0) (sY 6 0) (sY 7 0)), (wState (sY 0) k (vY 0) (nY 0) (aY 0)), (wState (sY 1) k (vY 1) (nY 1) (aY 1)), (wState (sY 2) k (vY 2) (nY 2) (aY 2)), (wState (sY 3) k (vY 3) (nY 3) (aY 3)), (wState (sY 4) k (vY 4) (nY 4) (aY 4)), (wState (sY 5) k (vY 5) (nY 5) (aY 5)), (wState (sY 6) k (vY 6) (nY 6) (aY 6)), (wState (sY 7) k (vY 7) (nY 7) (aY 7))]) := hD
                  refine W.widen (k := 0) (n := 0) (Nat.le_refl 0) (Nat.le_refl 0) ?_
                  refine lv_aload_n hx hb dX11_most_53 rfl (lv_at hl 0 rfl) ?_
                  refine va_get (D := (dC, dI)) (ci := 11) (v := .ref (qV 0)) (C := RX11) (T := TX11) (N := 15) hx hb hts (fun w h => List.mem_cons_of_mem _ (List.mem_append_right _ (List.mem_append_right _ (List.mem_append_left _ h)))) hown hK hP 3 rfl rfl 1 (by decide) (hts (.fieldLink RX11 19 "SagMemory" "told" "LSagMemory$Valley;") (wl_mem 17 rfl)) (fun _ h9 => h9) rfl dX11_most_54 ?_
                  refine va_get (D := (dC, dI)) (ci := 10) (v := .ref (qV 1)) (C := RX10) (T := TX10) (N := 16) hx hb hts (fun w h => List.mem_cons_of_mem _ (List.mem_append_right _ (List.mem_append_right _ (List.mem_append_right _ (List.mem_append_right _ (List.mem_append_right _ (List.mem_append_right _ (List.mem_append_right _ (List.mem_append_left _ h))))))))) hown hK hP 8 rfl rfl 0 (by decide) (hts (.fieldLink RX11 135 "SagMemory$Valley" "holds" "[I") (wl_mem 18 rfl)) (fun _ h9 => h9) rfl dX11_most_57 ?_
                  refine lv_iload_n hx hb dX11_most_60 rfl (lv_at hl 1 rfl) ?_
                  refine va_iald hx hb hK hP 9 0 rfl rfl (vp_in_iff.mpr ⟨by omega, by omega⟩) dX11_most_61 ?_
                  refine lv_topi (fun xz267 exz267 => ?_)
                  refine lv_icmp_le (tgt := 68) hx hb dX11_most_62 (by decide) (fun cz268 => ?_) (fun cz268 => ?_)
                  · skip
                    have bz269 := fb_rng rz264
                    have bz270 := fb_rng xz267
                    have zz271 : rz264.toInt ≤ xz267.toInt := zi_le.mp cz268
                    obtain ⟨xz272, exz272⟩ : ∃ y : Int32, y = xz253 + Int32.ofInt (1) := ⟨_, rfl⟩
                    have fxz272 : xz272.toInt = xz253.toInt + (1) := by rw [exz272]; exact fb_addI (y := Int32.ofInt (1)) (by show -2147483648 ≤ xz253.toInt + (1); omega) (by show xz253.toInt + (1) < 2147483648; omega)
                    refine lv_iinc (v := xz272) (lv' := [(4, .int xz272), (0, .ref (qX 0)), (1, .int p1), (3, .ref (sY 2 0))]) hx hb dX11_most_68 hl (k := 3) rfl exz272.symm (by decide) rfl (fun ls hl => ?_)
                    refine lv_goto (tgt := 34) hx hb dX11_most_71 (by decide) ?_
                    exact ih34 H locs ls az266 nz265 xz272 (by show (2147483647 - xz272.toInt).toNat < n9_34; omega) hnz265 (by show 1 ≤ xz272.toInt; omega) hP hD hS (lv_sub hl [1, 2, 3, 0] rfl)
                  · skip
                    have bz273 := fb_rng rz264
                    have bz274 := fb_rng xz267
                    have zz275 : ¬ rz264.toInt ≤ xz267.toInt := fun h9 => cz268 (zi_le.mpr h9)
                    refine lv_iload hx hb dX11_most_65 (lv_at hl 3 rfl) ?_
                    rw [hQ]
                    exact W.iret (v := xz253) hx hb hr (fun t ht hW => ⟨⟨xz253, (), rfl, trivial, nz265, az266, hnz265, by rw [ht]; exact hP⟩, hS.F ht⟩) hS.2.2 dX11_most_67
                · skip
                  have zz276 : p1.toInt = (1 : Int) := zi_eq.mp cz261
                  refine W.eq (g2 := F0 m 47 ls [.int 1, .ref (sY 2 1), .ref (qX 0)]) (by rw [cz261]) ?_
                  refine va_aldq hx hb hK hP 41 4 rfl rfl (by unfold vp_in; decide) dX11_most_47 ?_
                  refine W.eq (g2 := F0 m 48 ls [.ref (sY 2 5), .ref (qX 0)]) rfl ?_
                  refine lv_iload hx hb dX11_most_48 (lv_at hl 3 rfl) ?_
                  have hPc := hP.sub (ws' := (List.flatten [(wMem qM k nz252 az251)] ++ List.flatten [(wSag qX k tapeX (qV 0) actsX nowX trialX (qY 0) attemptX orderSearchX routeSearchX setSearchX (qM 0) slot0X slot1X slot2X slot3X image0X image1X image2X aX), (wValley qV k vV bV cV wV aV eV), (wMem (fun i => sY 2 (i + 5)) k (fun i => (nY 2) (i + 1)) (fun i => (aY 2) (i + 2)))])) [0, 1, 2, 3, 4, 5, 6, 7, 8, 9, 10, 11, 12, 13, 14, 15, 45, 46, 47] rfl
                  have hC : [0, 1, 2, 3, 4, 5, 6, 7, 8, 9, 10, 11, 12, 13, 14, 15, 45, 46, 47].map (fun i => (List.flatten [(wMem qM k nz252 az251)] ++ List.flatten [(wSag qX k tapeX (qV 0) actsX nowX trialX (qY 0) attemptX orderSearchX routeSearchX setSearchX (qM 0) slot0X slot1X slot2X slot3X image0X image1X image2X aX), (wValley qV k vV bV cV wV aV eV), (wStoO qY k (qV 0) planY (sY 0 0) (sY 1 0) (sY 2 0) (sY 3 0) (sY 4 0) (sY 5 0) (sY 6 0) (sY 7 0)), (wState (sY 0) k (vY 0) (nY 0) (aY 0)), (wState (sY 1) k (vY 1) (nY 1) (aY 1)), (wState (sY 2) k (vY 2) (nY 2) (aY 2)), (wState (sY 3) k (vY 3) (nY 3) (aY 3)), (wState (sY 4) k (vY 4) (nY 4) (aY 4)), (wState (sY 5) k (vY 5) (nY 5) (aY 5)), (wState (sY 6) k (vY 6) (nY 6) (aY 6)), (wState (sY 7) k (vY 7) (nY 7) (aY 7))])[i]?) = (List.flatten [(wMem qM k nz252 az251)] ++ List.flatten [(wSag qX k tapeX (qV 0) actsX nowX trialX (qY 0) attemptX orderSearchX routeSearchX setSearchX (qM 0) slot0X slot1X slot2X slot3X image0X image1X image2X aX), (wValley qV k vV bV cV wV aV eV), (wMem (fun i => sY 2 (i + 5)) k (fun i => (nY 2) (i + 1)) (fun i => (aY 2) (i + 2)))]).map some := rfl
                  have hDc := hD.sub [0, 1, 2, 3, 4, 5, 6, 7, 8, 9, 10, 11, 12, 13, 14, 15, 45, 46, 47] (by decide) hC
                  have hFc := va_free hD hS hA [0, 1, 2, 3, 4, 5, 6, 7, 8, 9, 10, 11, 12, 13, 14, 15, 45, 46, 47] hC
                  refine va_calli (va_runV (As := [.ref (sY 2 5), .int xz253]) (rest := []) ⟨hx, hb, hml, hown, hts⟩ (c_X11_depthWith l dC dI k H.size qX tapeX actsX nowX trialX (qY 0) attemptX orderSearchX routeSearchX setSearchX slot0X slot1X slot2X slot3X image0X image1X image2X aX qV vV bV cV wV aV eV qM nz252 az251 (fun i => sY 2 (i + 5)) (fun i => (nY 2) (i + 1)) (fun i => (aY 2) (i + 2)) xz253 hbV hcV hwV heV hnz252 (fun i => (hnY 2) (i + 1)) (by show 0 ≤ xz253.toInt ∧ xz253.toInt ≤ 99; omega)) (cwV 2 hts (gk_V (wl_mem 14 rfl) (wl_mem 15 rfl) (wl_mem 16 rfl) (wl_mem 3 rfl) (fun w h => List.mem_cons_of_mem _ (List.mem_append_right _ (List.mem_append_right _ (List.mem_append_right _ (List.mem_append_right _ (List.mem_append_right _ (List.mem_append_right _ (List.mem_append_left _ h)))))))) wkg_c_X11_depthWith) rfl rfl rfl (by decide +kernel) ⟨Nat.le_of_ble_eq_true rfl, Nat.le_of_ble_eq_true rfl⟩) ⟨fun a U g mk q => by obtain ⟨q0, q1, qP, qK, qD⟩ := q; exact ⟨q0, q1, qP, va_K.moved (u := U) (U := U.calling g mk a) (Vm.Alike.refl U.vm) qK, qD⟩, va_recv hK hPc (ci := 11) (q0 := 3) rfl rfl, fun U hU hW => ⟨rfl, by rw [hU], by rw [hU]; exact hPc, va_K.moved hW.alike hK, hDc.weaken (fun _ _ _ _ => trivial)⟩⟩ rfl rfl hl.1 rfl (lv_room (Nat.le_of_ble_eq_true rfl)) dX11_most_50 ⟨Nat.le_of_ble_eq_true rfl, Nat.le_of_ble_eq_true rfl⟩) hS (fun q _ h => hFc q h) hFc (fun rz278 u t H1 locs ht hvm gz277 hB hz1 hk1 hS => ?_)
                  obtain ⟨nz279, az280, hnz279, hP1⟩ := hB
                  rw [ht] at hP1
                  obtain ⟨hP, hD⟩ := w_callR hP hD hk1 hP1 [0] rfl rfl (wk_mem [3, 4, 5, 6, 7, 8, 9, 10, 11, 12, 13, 14, 15, 45, 46, 47] rfl) rfl [some 0] rfl rfl
                  clear hPc hC hDc hFc hk1 hP1
                  generalize H1 = H at hP hS ⊢
                  have hP : va_P (dC, dI) vwCl (List.flatten [(wMem qM k nz279 az280)] ++ List.flatten [(wSag qX k tapeX (qV 0) actsX nowX trialX (qY 0) attemptX orderSearchX routeSearchX setSearchX (qM 0) slot0X slot1X slot2X slot3X image0X image1X image2X aX), (wValley qV k vV bV cV wV aV eV), (wStoO qY k (qV 0) planY (sY 0 0) (sY 1 0) (sY 2 0) (sY 3 0) (sY 4 0) (sY 5 0) (sY 6 0) (sY 7 0)), (wState (sY 0) k (vY 0) (nY 0) (aY 0)), (wState (sY 1) k (vY 1) (nY 1) (aY 1)), (wState (sY 2) k (vY 2) (nY 2) (aY 2)), (wState (sY 3) k (vY 3) (nY 3) (aY 3)), (wState (sY 4) k (vY 4) (nY 4) (aY 4)), (wState (sY 5) k (vY 5) (nY 5) (aY 5)), (wState (sY 6) k (vY 6) (nY 6) (aY 6)), (wState (sY 7) k (vY 7) (nY 7) (aY 7))]) H := hP
                  have hD : va_D A (List.flatten [(wMem qM k nz279 az280)] ++ List.flatten [(wSag qX k tapeX (qV 0) actsX nowX trialX (qY 0) attemptX orderSearchX routeSearchX setSearchX (qM 0) slot0X slot1X slot2X slot3X image0X image1X image2X aX), (wValley qV k vV bV cV wV aV eV), (wStoO qY k (qV 0) planY (sY 0 0) (sY 1 0) (sY 2 0) (sY 3 0) (sY 4 0) (sY 5 0) (sY 6 0) (sY 7 0)), (wState (sY 0) k (vY 0) (nY 0) (aY 0)), (wState (sY 1) k (vY 1) (nY 1) (aY 1)), (wState (sY 2) k (vY 2) (nY 2) (aY 2)), (wState (sY 3) k (vY 3) (nY 3) (aY 3)), (wState (sY 4) k (vY 4) (nY 4) (aY 4)), (wState (sY 5) k (vY 5) (nY 5) (aY 5)), (wState (sY 6) k (vY 6) (nY 6) (aY 6)), (wState (sY 7) k (vY 7) (nY 7) (aY 7))]) := hD
                  refine W.widen (k := 0) (n := 0) (Nat.le_refl 0) (Nat.le_refl 0) ?_
                  refine lv_aload_n hx hb dX11_most_53 rfl (lv_at hl 0 rfl) ?_
                  refine va_get (D := (dC, dI)) (ci := 11) (v := .ref (qV 0)) (C := RX11) (T := TX11) (N := 15) hx hb hts (fun w h => List.mem_cons_of_mem _ (List.mem_append_right _ (List.mem_append_right _ (List.mem_append_left _ h)))) hown hK hP 3 rfl rfl 1 (by decide) (hts (.fieldLink RX11 19 "SagMemory" "told" "LSagMemory$Valley;") (wl_mem 17 rfl)) (fun _ h9 => h9) rfl dX11_most_54 ?_
                  refine va_get (D := (dC, dI)) (ci := 10) (v := .ref (qV 1)) (C := RX10) (T := TX10) (N := 16) hx hb hts (fun w h => List.mem_cons_of_mem _ (List.mem_append_right _ (List.mem_append_right _ (List.mem_append_right _ (List.mem_append_right _ (List.mem_append_right _ (List.mem_append_right _ (List.mem_append_right _ (List.mem_append_left _ h))))))))) hown hK hP 8 rfl rfl 0 (by decide) (hts (.fieldLink RX11 135 "SagMemory$Valley" "holds" "[I") (wl_mem 18 rfl)) (fun _ h9 => h9) rfl dX11_most_57 ?_
                  refine lv_iload_n hx hb dX11_most_60 rfl (lv_at hl 1 rfl) ?_
                  refine va_iald hx hb hK hP 9 0 rfl rfl (vp_in_iff.mpr ⟨by omega, by omega⟩) dX11_most_61 ?_
                  refine lv_topi (fun xz281 exz281 => ?_)
                  refine lv_icmp_le (tgt := 68) hx hb dX11_most_62 (by decide) (fun cz282 => ?_) (fun cz282 => ?_)
                  · skip
                    have bz283 := fb_rng rz278
                    have bz284 := fb_rng xz281
                    have zz285 : rz278.toInt ≤ xz281.toInt := zi_le.mp cz282
                    obtain ⟨xz286, exz286⟩ : ∃ y : Int32, y = xz253 + Int32.ofInt (1) := ⟨_, rfl⟩
                    have fxz286 : xz286.toInt = xz253.toInt + (1) := by rw [exz286]; exact fb_addI (y := Int32.ofInt (1)) (by show -2147483648 ≤ xz253.toInt + (1); omega) (by show xz253.toInt + (1) < 2147483648; omega)
                    refine lv_iinc (v := xz286) (lv' := [(4, .int xz286), (0, .ref (qX 0)), (1, .int p1), (3, .ref (sY 2 0))]) hx hb dX11_most_68 hl (k := 3) rfl exz286.symm (by decide) rfl (fun ls hl => ?_)
                    refine lv_goto (tgt := 34) hx hb dX11_most_71 (by decide) ?_
                    exact ih34 H locs ls az280 nz279 xz286 (by show (2147483647 - xz286.toInt).toNat < n9_34; omega) hnz279 (by show 1 ≤ xz286.toInt; omega) hP hD hS (lv_sub hl [1, 2, 3, 0] rfl)
                  · skip
                    have bz287 := fb_rng rz278
                    have bz288 := fb_rng xz281
                    have zz289 : ¬ rz278.toInt ≤ xz281.toInt := fun h9 => cz282 (zi_le.mpr h9)
                    refine lv_iload hx hb dX11_most_65 (lv_at hl 3 rfl) ?_
                    rw [hQ]
                    exact W.iret (v := xz253) hx hb hr (fun t ht hW => ⟨⟨xz253, (), rfl, trivial, nz279, az280, hnz279, by rw [ht]; exact hP⟩, hS.F ht⟩) hS.2.2 dX11_most_67
                · skip
                  have zz290 : p1.toInt = (2 : Int) := zi_eq.mp cz261
                  refine W.eq (g2 := F0 m 47 ls [.int 2, .ref (sY 2 1), .ref (qX 0)]) (by rw [cz261]) ?_
                  refine va_aldq hx hb hK hP 41 4 rfl rfl (by unfold vp_in; decide) dX11_most_47 ?_
                  refine W.eq (g2 := F0 m 48 ls [.ref (sY 2 8), .ref (qX 0)]) rfl ?_
                  refine lv_iload hx hb dX11_most_48 (lv_at hl 3 rfl) ?_
                  have hPc := hP.sub (ws' := (List.flatten [(wMem qM k nz252 az251)] ++ List.flatten [(wSag qX k tapeX (qV 0) actsX nowX trialX (qY 0) attemptX orderSearchX routeSearchX setSearchX (qM 0) slot0X slot1X slot2X slot3X image0X image1X image2X aX), (wValley qV k vV bV cV wV aV eV), (wMem (fun i => sY 2 (i + 8)) k (fun i => (nY 2) (i + 2)) (fun i => (aY 2) (i + 4)))])) [0, 1, 2, 3, 4, 5, 6, 7, 8, 9, 10, 11, 12, 13, 14, 15, 48, 49, 50] rfl
                  have hC : [0, 1, 2, 3, 4, 5, 6, 7, 8, 9, 10, 11, 12, 13, 14, 15, 48, 49, 50].map (fun i => (List.flatten [(wMem qM k nz252 az251)] ++ List.flatten [(wSag qX k tapeX (qV 0) actsX nowX trialX (qY 0) attemptX orderSearchX routeSearchX setSearchX (qM 0) slot0X slot1X slot2X slot3X image0X image1X image2X aX), (wValley qV k vV bV cV wV aV eV), (wStoO qY k (qV 0) planY (sY 0 0) (sY 1 0) (sY 2 0) (sY 3 0) (sY 4 0) (sY 5 0) (sY 6 0) (sY 7 0)), (wState (sY 0) k (vY 0) (nY 0) (aY 0)), (wState (sY 1) k (vY 1) (nY 1) (aY 1)), (wState (sY 2) k (vY 2) (nY 2) (aY 2)), (wState (sY 3) k (vY 3) (nY 3) (aY 3)), (wState (sY 4) k (vY 4) (nY 4) (aY 4)), (wState (sY 5) k (vY 5) (nY 5) (aY 5)), (wState (sY 6) k (vY 6) (nY 6) (aY 6)), (wState (sY 7) k (vY 7) (nY 7) (aY 7))])[i]?) = (List.flatten [(wMem qM k nz252 az251)] ++ List.flatten [(wSag qX k tapeX (qV 0) actsX nowX trialX (qY 0) attemptX orderSearchX routeSearchX setSearchX (qM 0) slot0X slot1X slot2X slot3X image0X image1X image2X aX), (wValley qV k vV bV cV wV aV eV), (wMem (fun i => sY 2 (i + 8)) k (fun i => (nY 2) (i + 2)) (fun i => (aY 2) (i + 4)))]).map some := rfl
                  have hDc := hD.sub [0, 1, 2, 3, 4, 5, 6, 7, 8, 9, 10, 11, 12, 13, 14, 15, 48, 49, 50] (by decide) hC
                  have hFc := va_free hD hS hA [0, 1, 2, 3, 4, 5, 6, 7, 8, 9, 10, 11, 12, 13, 14, 15, 48, 49, 50] hC
                  refine va_calli (va_runV (As := [.ref (sY 2 8), .int xz253]) (rest := []) ⟨hx, hb, hml, hown, hts⟩ (c_X11_depthWith l dC dI k H.size qX tapeX actsX nowX trialX (qY 0) attemptX orderSearchX routeSearchX setSearchX slot0X slot1X slot2X slot3X image0X image1X image2X aX qV vV bV cV wV aV eV qM nz252 az251 (fun i => sY 2 (i + 8)) (fun i => (nY 2) (i + 2)) (fun i => (aY 2) (i + 4)) xz253 hbV hcV hwV heV hnz252 (fun i => (hnY 2) (i + 2)) (by show 0 ≤ xz253.toInt ∧ xz253.toInt ≤ 99; omega)) (cwV 2 hts (gk_V (wl_mem 14 rfl) (wl_mem 15 rfl) (wl_mem 16 rfl) (wl_mem 3 rfl) (fun w h => List.mem_cons_of_mem _ (List.mem_append_right _ (List.mem_append_right _ (List.mem_append_right _ (List.mem_append_right _ (List.mem_append_right _ (List.mem_append_right _ (List.mem_append_left _ h)))))))) wkg_c_X11_depthWith) rfl rfl rfl (by decide +kernel) ⟨Nat.le_of_ble_eq_true rfl, Nat.le_of_ble_eq_true rfl⟩) ⟨fun a U g mk q => by obtain ⟨q0, q1, qP, qK, qD⟩ := q; exact ⟨q0, q1, qP, va_K.moved (u := U) (U := U.calling g mk a) (Vm.Alike.refl U.vm) qK, qD⟩, va_recv hK hPc (ci := 11) (q0 := 3) rfl rfl, fun U hU hW => ⟨rfl, by rw [hU], by rw [hU]; exact hPc, va_K.moved hW.alike hK, hDc.weaken (fun _ _ _ _ => trivial)⟩⟩ rfl rfl hl.1 rfl (lv_room (Nat.le_of_ble_eq_true rfl)) dX11_most_50 ⟨Nat.le_of_ble_eq_true rfl, Nat.le_of_ble_eq_true rfl⟩) hS (fun q _ h => hFc q h) hFc (fun rz292 u t H1 locs ht hvm gz291 hB hz1 hk1 hS => ?_)
                  obtain ⟨nz293, az294, hnz293, hP1⟩ := hB
                  rw [ht] at hP1
                  obtain ⟨hP, hD⟩ := w_callR hP hD hk1 hP1 [0] rfl rfl (wk_mem [3, 4, 5, 6, 7, 8, 9, 10, 11, 12, 13, 14, 15, 48, 49, 50] rfl) rfl [some 0] rfl rfl
                  clear hPc hC hDc hFc hk1 hP1
                  generalize H1 = H at hP hS ⊢
                  have hP : va_P (dC, dI) vwCl (List.flatten [(wMem qM k nz293 az294)] ++ List.flatten [(wSag qX k tapeX (qV 0) actsX nowX trialX (qY 0) attemptX orderSearchX routeSearchX setSearchX (qM 0) slot0X slot1X slot2X slot3X image0X image1X image2X aX), (wValley qV k vV bV cV wV aV eV), (wStoO qY k (qV 0) planY (sY 0 0) (sY 1 0) (sY 2 0) (sY 3 0) (sY 4 0) (sY 5 0) (sY 6 0) (sY 7 0)), (wState (sY 0) k (vY 0) (nY 0) (aY 0)), (wState (sY 1) k (vY 1) (nY 1) (aY 1)), (wState (sY 2) k (vY 2) (nY 2) (aY 2)), (wState (sY 3) k (vY 3) (nY 3) (aY 3)), (wState (sY 4) k (vY 4) (nY 4) (aY 4)), (wState (sY 5) k (vY 5) (nY 5) (aY 5)), (wState (sY 6) k (vY 6) (nY 6) (aY 6)), (wState (sY 7) k (vY 7) (nY 7) (aY 7))]) H := hP
                  have hD : va_D A (List.flatten [(wMem qM k nz293 az294)] ++ List.flatten [(wSag qX k tapeX (qV 0) actsX nowX trialX (qY 0) attemptX orderSearchX routeSearchX setSearchX (qM 0) slot0X slot1X slot2X slot3X image0X image1X image2X aX), (wValley qV k vV bV cV wV aV eV), (wStoO qY k (qV 0) planY (sY 0 0) (sY 1 0) (sY 2 0) (sY 3 0) (sY 4 0) (sY 5 0) (sY 6 0) (sY 7 0)), (wState (sY 0) k (vY 0) (nY 0) (aY 0)), (wState (sY 1) k (vY 1) (nY 1) (aY 1)), (wState (sY 2) k (vY 2) (nY 2) (aY 2)), (wState (sY 3) k (vY 3) (nY 3) (aY 3)), (wState (sY 4) k (vY 4) (nY 4) (aY 4)), (wState (sY 5) k (vY 5) (nY 5) (aY 5)), (wState (sY 6) k (vY 6) (nY 6) (aY 6)), (wState (sY 7) k (vY 7) (nY 7) (aY 7))]) := hD
                  refine W.widen (k := 0) (n := 0) (Nat.le_refl 0) (Nat.le_refl 0) ?_
                  refine lv_aload_n hx hb dX11_most_53 rfl (lv_at hl 0 rfl) ?_
                  refine va_get (D := (dC, dI)) (ci := 11) (v := .ref (qV 0)) (C := RX11) (T := TX11) (N := 15) hx hb hts (fun w h => List.mem_cons_of_mem _ (List.mem_append_right _ (List.mem_append_right _ (List.mem_append_left _ h)))) hown hK hP 3 rfl rfl 1 (by decide) (hts (.fieldLink RX11 19 "SagMemory" "told" "LSagMemory$Valley;") (wl_mem 17 rfl)) (fun _ h9 => h9) rfl dX11_most_54 ?_
                  refine va_get (D := (dC, dI)) (ci := 10) (v := .ref (qV 1)) (C := RX10) (T := TX10) (N := 16) hx hb hts (fun w h => List.mem_cons_of_mem _ (List.mem_append_right _ (List.mem_append_right _ (List.mem_append_right _ (List.mem_append_right _ (List.mem_append_right _ (List.mem_append_right _ (List.mem_append_right _ (List.mem_append_left _ h))))))))) hown hK hP 8 rfl rfl 0 (by decide) (hts (.fieldLink RX11 135 "SagMemory$Valley" "holds" "[I") (wl_mem 18 rfl)) (fun _ h9 => h9) rfl dX11_most_57 ?_
                  refine lv_iload_n hx hb dX11_most_60 rfl (lv_at hl 1 rfl) ?_
                  refine va_iald hx hb hK hP 9 0 rfl rfl (vp_in_iff.mpr ⟨by omega, by omega⟩) dX11_most_61 ?_
                  refine lv_topi (fun xz295 exz295 => ?_)
                  refine lv_icmp_le (tgt := 68) hx hb dX11_most_62 (by decide) (fun cz296 => ?_) (fun cz296 => ?_)
                  · skip
                    have bz297 := fb_rng rz292
                    have bz298 := fb_rng xz295
                    have zz299 : rz292.toInt ≤ xz295.toInt := zi_le.mp cz296
                    obtain ⟨xz300, exz300⟩ : ∃ y : Int32, y = xz253 + Int32.ofInt (1) := ⟨_, rfl⟩
                    have fxz300 : xz300.toInt = xz253.toInt + (1) := by rw [exz300]; exact fb_addI (y := Int32.ofInt (1)) (by show -2147483648 ≤ xz253.toInt + (1); omega) (by show xz253.toInt + (1) < 2147483648; omega)
                    refine lv_iinc (v := xz300) (lv' := [(4, .int xz300), (0, .ref (qX 0)), (1, .int p1), (3, .ref (sY 2 0))]) hx hb dX11_most_68 hl (k := 3) rfl exz300.symm (by decide) rfl (fun ls hl => ?_)
                    refine lv_goto (tgt := 34) hx hb dX11_most_71 (by decide) ?_
                    exact ih34 H locs ls az294 nz293 xz300 (by show (2147483647 - xz300.toInt).toNat < n9_34; omega) hnz293 (by show 1 ≤ xz300.toInt; omega) hP hD hS (lv_sub hl [1, 2, 3, 0] rfl)
                  · skip
                    have bz301 := fb_rng rz292
                    have bz302 := fb_rng xz295
                    have zz303 : ¬ rz292.toInt ≤ xz295.toInt := fun h9 => cz296 (zi_le.mpr h9)
                    refine lv_iload hx hb dX11_most_65 (lv_at hl 3 rfl) ?_
                    rw [hQ]
                    exact W.iret (v := xz253) hx hb hr (fun t ht hW => ⟨⟨xz253, (), rfl, trivial, nz293, az294, hnz293, by rw [ht]; exact hP⟩, hS.F ht⟩) hS.2.2 dX11_most_67
          exact lp34_kz254 _ s.heap [] ls aM nM (1 : Int32) (Nat.lt_succ_self _) hnM (by show 1 ≤ (1 : Int); omega) hP hD hS (lv_sub hl [2, 3, 1, 0] rfl)
        · skip
          have zz304 : ¬ rz196.toInt = (0 : Int) := fun h9 => cz198 (zi_eq.mpr h9)
          refine lv_iconst (v := (-1)) hx hb dX11_most_29 (by decide) ?_
          rw [hQ]
          exact W.iret (v := (-1 : Int32)) hx hb hr (fun t ht hW => ⟨⟨(-1 : Int32), (), rfl, trivial, nM, aM, hnM, by rw [ht]; exact hP⟩, hS.F ht⟩) hS.2.2 dX11_most_30
      · skip
        have zz305 : ¬ p2.toInt < (0 : Int) := fun h9 => cz61 (zi_lt.mpr h9)
        have zz306 : ¬ (7 : Int) ≤ p2.toInt := fun h9 => cz62 (zi_le.mpr h9)
        have zz307 : p2.toInt = (2 : Int) := zi_eq.mp cz63
        refine W.eq (g2 := F0 m 20 ls [.ref (sY 3 0)]) rfl ?_
        refine lv_astore_n (lv' := [(3, .ref (sY 3 0)), (0, .ref (qX 0)), (1, .int p1), (2, .int p2)]) hx hb dX11_most_20 rfl hl (by decide) rfl (fun ls hl => ?_)
        refine lv_aload_n hx hb dX11_most_21 rfl (lv_at hl 0 rfl) ?_
        refine lv_iload_n hx hb dX11_most_22 rfl (lv_at hl 2 rfl) ?_
        have hPc := hP.sub (ws' := (List.flatten [(wState (sY 3) k (vY 3) (nY 3) (aY 3))])) [51, 52, 53, 54, 55, 56, 57, 58, 59, 60, 61] rfl
        refine vp_callSi (va_Run.run (va_runV (As := [.int p1]) (rest := []) ⟨hx, hb, hml, hown, hts⟩ (c_X7_isBroken l dC dI k (sY 3) (vY 3) (nY 3) (aY 3) p1 (hnY 3)) (cwV 1 hts (gk_V (wl_mem 9 rfl) (wl_mem 10 rfl) (wl_mem 11 rfl) (wl_mem 12 rfl) (fun w h => List.mem_cons_of_mem _ (List.mem_append_right _ (List.mem_append_right _ (List.mem_append_right _ (List.mem_append_right _ (List.mem_append_left _ h)))))) wkg_c_X7_isBroken) rfl rfl rfl (by decide +kernel) ⟨Nat.le_of_ble_eq_true rfl, Nat.le_of_ble_eq_true rfl⟩) ⟨fun a U g mk q => by obtain ⟨q0, qP, qK⟩ := q; exact ⟨q0, qP, va_K.moved (u := U) (U := U.calling g mk a) (Vm.Alike.refl U.vm) qK⟩, va_recv hK hPc (ci := 7) (q0 := 0) rfl rfl, fun U hU hW => ⟨rfl, by rw [hU]; exact hPc, va_K.moved hW.alike hK⟩⟩ rfl rfl hl.1 rfl (lv_room (Nat.le_of_ble_eq_true rfl)) dX11_most_23 ⟨Nat.le_of_ble_eq_true rfl, Nat.le_of_ble_eq_true rfl⟩)) (fun rz309 gz308 => ?_)
        clear hPc
        have pz310 := gz308
        have pz310 : rz309.toInt = 0 ∨ rz309.toInt = 1 := pz310
        refine lv_if_eq (tgt := 31) hx hb dX11_most_26 (by decide) (fun cz311 => ?_) (fun cz311 => ?_)
        · skip
          have zz312 : rz309.toInt = (0 : Int) := zi_eq.mp cz311
          refine lv_iconst (v := 1) hx hb dX11_most_31 (by decide) ?_
          refine lv_istore (lv' := [(4, .int 1), (3, .ref (sY 3 0)), (0, .ref (qX 0)), (1, .int p1), (2, .int p2)]) hx hb dX11_most_32 hl (by decide) rfl (fun ls hl => ?_)
          have lp34_kz367 : ∀ (n9_34 : Nat) (H : Heap) (locs : List Loc) (ls : Array Slot) (az364 : Nat → Nat → Int32) (nz365 : Nat → Int32) (xz366 : Int32), (2147483647 - xz366.toInt).toNat < n9_34 → Rg 0 8 nz365 → 1 ≤ xz366.toInt → va_P (dC, dI) vwCl (List.flatten [(wMem qM k nz365 az364)] ++ List.flatten [(wSag qX k tapeX (qV 0) actsX nowX trialX (qY 0) attemptX orderSearchX routeSearchX setSearchX (qM 0) slot0X slot1X slot2X slot3X image0X image1X image2X aX), (wValley qV k vV bV cV wV aV eV), (wStoO qY k (qV 0) planY (sY 0 0) (sY 1 0) (sY 2 0) (sY 3 0) (sY 4 0) (sY 5 0) (sY 6 0) (sY 7 0)), (wState (sY 0) k (vY 0) (nY 0) (aY 0)), (wState (sY 1) k (vY 1) (nY 1) (aY 1)), (wState (sY 2) k (vY 2) (nY 2) (aY 2)), (wState (sY 3) k (vY 3) (nY 3) (aY 3)), (wState (sY 4) k (vY 4) (nY 4) (aY 4)), (wState (sY 5) k (vY 5) (nY 5) (aY 5)), (wState (sY 6) k (vY 6) (nY 6) (aY 6)), (wState (sY 7) k (vY 7) (nY 7) (aY 7))]) H → va_D A (List.flatten [(wMem qM k nz365 az364)] ++ List.flatten [(wSag qX k tapeX (qV 0) actsX nowX trialX (qY 0) attemptX orderSearchX routeSearchX setSearchX (qM 0) slot0X slot1X slot2X slot3X image0X image1X image2X aX), (wValley qV k vV bV cV wV aV eV), (wStoO qY k (qV 0) planY (sY 0 0) (sY 1 0) (sY 2 0) (sY 3 0) (sY 4 0) (sY 5 0) (sY 6 0) (sY 7 0)), (wState (sY 0) k (vY 0) (nY 0) (aY 0)), (wState (sY 1) k (vY 1) (nY 1) (aY 1)), (wState (sY 2) k (vY 2) (nY 2) (aY 2)), (wState (sY 3) k (vY 3) (nY 3) (aY 3)), (wState (sY 4) k (vY 4) (nY 4) (aY 4)), (wState (sY 5) k (vY 5) (nY 5) (aY 5)), (wState (sY 6) k (vY 6) (nY 6) (aY 6)), (wState (sY 7) k (vY 7) (nY 7) (aY 7))]) → va_S A s.heap H locs → lv_has ls 5 [(0, .ref (qX 0)), (1, .int p1), (3, .ref (sY 3 0)), (4, .int xz366)] → W p l e (headSpec wk_c_X11_most ({ frames := 2, cells := 0, slots := 0, locals := 49 })).room s m ([.ref (qX 0), .int p1, .int p2] : List Value).toArray below meth c H locs 0 0 Q (F0 m 34 ls []) := by
            intro n9_34
            induction n9_34 with
            | zero => intro H locs ls az364 nz365 xz366 hm; exact absurd hm (Nat.not_lt_zero _)
            | succ n9_34 ih34 =>
              intro H locs ls az364 nz365 xz366 hm34 hnz365 jz368 hP hD hS hl
              refine lv_iload hx hb dX11_most_34 (lv_at hl 3 rfl) ?_
              refine lv_bipush (v := 99) hx hb dX11_most_36 (by decide) ?_
              refine lv_icmp_gt (tgt := 74) hx hb dX11_most_38 (by decide) (fun cz369 => ?_) (fun cz369 => ?_)
              · skip
                have bz370 := fb_rng xz366
                have zz371 : (99 : Int) < xz366.toInt := zi_lt.mp cz369
                refine lv_iconst (v := (-1)) hx hb dX11_most_74 (by decide) ?_
                rw [hQ]
                exact W.iret (v := (-1 : Int32)) hx hb hr (fun t ht hW => ⟨⟨(-1 : Int32), (), rfl, trivial, nz365, az364, hnz365, by rw [ht]; exact hP⟩, hS.F ht⟩) hS.2.2 dX11_most_75
              · skip
                have bz372 := fb_rng xz366
                have zz373 : ¬ (99 : Int) < xz366.toInt := fun h9 => cz369 (zi_lt.mpr h9)
                refine lv_aload_n hx hb dX11_most_41 rfl (lv_at hl 0 rfl) ?_
                refine lv_aload_n hx hb dX11_most_42 rfl (lv_at hl 2 rfl) ?_
                refine va_get (D := (dC, dI)) (ci := 7) (v := .ref (sY 3 1)) (C := RX7) (T := TX7) (N := 9) hx hb hts (fun w h => List.mem_cons_of_mem _ (List.mem_append_right _ (List.mem_append_right _ (List.mem_append_right _ (List.mem_append_right _ (List.mem_append_right _ (List.mem_append_left _ h))))))) hown hK hP 51 rfl rfl 0 (by decide) (hts (.fieldLink RX11 194 "SagMemory$State" "memories" "[LSagMemory$Memory;") (wl_mem 13 rfl)) (fun _ h9 => h9) rfl dX11_most_43 ?_
                refine lv_iload_n hx hb dX11_most_46 rfl (lv_at hl 1 rfl) ?_
                rcases (show p1 = 0 ∨ p1 = 1 ∨ p1 = 2 by simp only [zi_eq]; show p1.toInt = 0 ∨ p1.toInt = 1 ∨ p1.toInt = 2; omega) with cz374 | cz374 | cz374
                · skip
                  have zz375 : p1.toInt = (0 : Int) := zi_eq.mp cz374
                  refine W.eq (g2 := F0 m 47 ls [.int 0, .ref (sY 3 1), .ref (qX 0)]) (by rw [cz374]) ?_
                  refine va_aldq hx hb hK hP 52 4 rfl rfl (by unfold vp_in; decide) dX11_most_47 ?_
                  refine W.eq (g2 := F0 m 48 ls [.ref (sY 3 2), .ref (qX 0)]) rfl ?_
                  refine lv_iload hx hb dX11_most_48 (lv_at hl 3 rfl) ?_
                  have hPc := hP.sub (ws' := (List.flatten [(wMem qM k nz365 az364)] ++ List.flatten [(wSag qX k tapeX (qV 0) actsX nowX trialX (qY 0) attemptX orderSearchX routeSearchX setSearchX (qM 0) slot0X slot1X slot2X slot3X image0X image1X image2X aX), (wValley qV k vV bV cV wV aV eV), (wMem (fun i => sY 3 (i + 2)) k (nY 3) (aY 3))])) [0, 1, 2, 3, 4, 5, 6, 7, 8, 9, 10, 11, 12, 13, 14, 15, 53, 54, 55] rfl
                  have hC : [0, 1, 2, 3, 4, 5, 6, 7, 8, 9, 10, 11, 12, 13, 14, 15, 53, 54, 55].map (fun i => (List.flatten [(wMem qM k nz365 az364)] ++ List.flatten [(wSag qX k tapeX (qV 0) actsX nowX trialX (qY 0) attemptX orderSearchX routeSearchX setSearchX (qM 0) slot0X slot1X slot2X slot3X image0X image1X image2X aX), (wValley qV k vV bV cV wV aV eV), (wStoO qY k (qV 0) planY (sY 0 0) (sY 1 0) (sY 2 0) (sY 3 0) (sY 4 0) (sY 5 0) (sY 6 0) (sY 7 0)), (wState (sY 0) k (vY 0) (nY 0) (aY 0)), (wState (sY 1) k (vY 1) (nY 1) (aY 1)), (wState (sY 2) k (vY 2) (nY 2) (aY 2)), (wState (sY 3) k (vY 3) (nY 3) (aY 3)), (wState (sY 4) k (vY 4) (nY 4) (aY 4)), (wState (sY 5) k (vY 5) (nY 5) (aY 5)), (wState (sY 6) k (vY 6) (nY 6) (aY 6)), (wState (sY 7) k (vY 7) (nY 7) (aY 7))])[i]?) = (List.flatten [(wMem qM k nz365 az364)] ++ List.flatten [(wSag qX k tapeX (qV 0) actsX nowX trialX (qY 0) attemptX orderSearchX routeSearchX setSearchX (qM 0) slot0X slot1X slot2X slot3X image0X image1X image2X aX), (wValley qV k vV bV cV wV aV eV), (wMem (fun i => sY 3 (i + 2)) k (nY 3) (aY 3))]).map some := rfl
                  have hDc := hD.sub [0, 1, 2, 3, 4, 5, 6, 7, 8, 9, 10, 11, 12, 13, 14, 15, 53, 54, 55] (by decide) hC
                  have hFc := va_free hD hS hA [0, 1, 2, 3, 4, 5, 6, 7, 8, 9, 10, 11, 12, 13, 14, 15, 53, 54, 55] hC
                  refine va_calli (va_runV (As := [.ref (sY 3 2), .int xz366]) (rest := []) ⟨hx, hb, hml, hown, hts⟩ (c_X11_depthWith l dC dI k H.size qX tapeX actsX nowX trialX (qY 0) attemptX orderSearchX routeSearchX setSearchX slot0X slot1X slot2X slot3X image0X image1X image2X aX qV vV bV cV wV aV eV qM nz365 az364 (fun i => sY 3 (i + 2)) (nY 3) (aY 3) xz366 hbV hcV hwV heV hnz365 (hnY 3) (by show 0 ≤ xz366.toInt ∧ xz366.toInt ≤ 99; omega)) (cwV 2 hts (gk_V (wl_mem 14 rfl) (wl_mem 15 rfl) (wl_mem 16 rfl) (wl_mem 3 rfl) (fun w h => List.mem_cons_of_mem _ (List.mem_append_right _ (List.mem_append_right _ (List.mem_append_right _ (List.mem_append_right _ (List.mem_append_right _ (List.mem_append_right _ (List.mem_append_left _ h)))))))) wkg_c_X11_depthWith) rfl rfl rfl (by decide +kernel) ⟨Nat.le_of_ble_eq_true rfl, Nat.le_of_ble_eq_true rfl⟩) ⟨fun a U g mk q => by obtain ⟨q0, q1, qP, qK, qD⟩ := q; exact ⟨q0, q1, qP, va_K.moved (u := U) (U := U.calling g mk a) (Vm.Alike.refl U.vm) qK, qD⟩, va_recv hK hPc (ci := 11) (q0 := 3) rfl rfl, fun U hU hW => ⟨rfl, by rw [hU], by rw [hU]; exact hPc, va_K.moved hW.alike hK, hDc.weaken (fun _ _ _ _ => trivial)⟩⟩ rfl rfl hl.1 rfl (lv_room (Nat.le_of_ble_eq_true rfl)) dX11_most_50 ⟨Nat.le_of_ble_eq_true rfl, Nat.le_of_ble_eq_true rfl⟩) hS (fun q _ h => hFc q h) hFc (fun rz377 u t H1 locs ht hvm gz376 hB hz1 hk1 hS => ?_)
                  obtain ⟨nz378, az379, hnz378, hP1⟩ := hB
                  rw [ht] at hP1
                  obtain ⟨hP, hD⟩ := w_callR hP hD hk1 hP1 [0] rfl rfl (wk_mem [3, 4, 5, 6, 7, 8, 9, 10, 11, 12, 13, 14, 15, 53, 54, 55] rfl) rfl [some 0] rfl rfl
                  clear hPc hC hDc hFc hk1 hP1
                  generalize H1 = H at hP hS ⊢
                  have hP : va_P (dC, dI) vwCl (List.flatten [(wMem qM k nz378 az379)] ++ List.flatten [(wSag qX k tapeX (qV 0) actsX nowX trialX (qY 0) attemptX orderSearchX routeSearchX setSearchX (qM 0) slot0X slot1X slot2X slot3X image0X image1X image2X aX), (wValley qV k vV bV cV wV aV eV), (wStoO qY k (qV 0) planY (sY 0 0) (sY 1 0) (sY 2 0) (sY 3 0) (sY 4 0) (sY 5 0) (sY 6 0) (sY 7 0)), (wState (sY 0) k (vY 0) (nY 0) (aY 0)), (wState (sY 1) k (vY 1) (nY 1) (aY 1)), (wState (sY 2) k (vY 2) (nY 2) (aY 2)), (wState (sY 3) k (vY 3) (nY 3) (aY 3)), (wState (sY 4) k (vY 4) (nY 4) (aY 4)), (wState (sY 5) k (vY 5) (nY 5) (aY 5)), (wState (sY 6) k (vY 6) (nY 6) (aY 6)), (wState (sY 7) k (vY 7) (nY 7) (aY 7))]) H := hP
                  have hD : va_D A (List.flatten [(wMem qM k nz378 az379)] ++ List.flatten [(wSag qX k tapeX (qV 0) actsX nowX trialX (qY 0) attemptX orderSearchX routeSearchX setSearchX (qM 0) slot0X slot1X slot2X slot3X image0X image1X image2X aX), (wValley qV k vV bV cV wV aV eV), (wStoO qY k (qV 0) planY (sY 0 0) (sY 1 0) (sY 2 0) (sY 3 0) (sY 4 0) (sY 5 0) (sY 6 0) (sY 7 0)), (wState (sY 0) k (vY 0) (nY 0) (aY 0)), (wState (sY 1) k (vY 1) (nY 1) (aY 1)), (wState (sY 2) k (vY 2) (nY 2) (aY 2)), (wState (sY 3) k (vY 3) (nY 3) (aY 3)), (wState (sY 4) k (vY 4) (nY 4) (aY 4)), (wState (sY 5) k (vY 5) (nY 5) (aY 5)), (wState (sY 6) k (vY 6) (nY 6) (aY 6)), (wState (sY 7) k (vY 7) (nY 7) (aY 7))]) := hD
                  refine W.widen (k := 0) (n := 0) (Nat.le_refl 0) (Nat.le_refl 0) ?_
                  refine lv_aload_n hx hb dX11_most_53 rfl (lv_at hl 0 rfl) ?_
                  refine va_get (D := (dC, dI)) (ci := 11) (v := .ref (qV 0)) (C := RX11) (T := TX11) (N := 15) hx hb hts (fun w h => List.mem_cons_of_mem _ (List.mem_append_right _ (List.mem_append_right _ (List.mem_append_left _ h)))) hown hK hP 3 rfl rfl 1 (by decide) (hts (.fieldLink RX11 19 "SagMemory" "told" "LSagMemory$Valley;") (wl_mem 17 rfl)) (fun _ h9 => h9) rfl dX11_most_54 ?_
                  refine va_get (D := (dC, dI)) (ci := 10) (v := .ref (qV 1)) (C := RX10) (T := TX10) (N := 16) hx hb hts (fun w h => List.mem_cons_of_mem _ (List.mem_append_right _ (List.mem_append_right _ (List.mem_append_right _ (List.mem_append_right _ (List.mem_append_right _ (List.mem_append_right _ (List.mem_append_right _ (List.mem_append_left _ h))))))))) hown hK hP 8 rfl rfl 0 (by decide) (hts (.fieldLink RX11 135 "SagMemory$Valley" "holds" "[I") (wl_mem 18 rfl)) (fun _ h9 => h9) rfl dX11_most_57 ?_
                  refine lv_iload_n hx hb dX11_most_60 rfl (lv_at hl 1 rfl) ?_
                  refine va_iald hx hb hK hP 9 0 rfl rfl (vp_in_iff.mpr ⟨by omega, by omega⟩) dX11_most_61 ?_
                  refine lv_topi (fun xz380 exz380 => ?_)
                  refine lv_icmp_le (tgt := 68) hx hb dX11_most_62 (by decide) (fun cz381 => ?_) (fun cz381 => ?_)
                  · skip
                    have bz382 := fb_rng rz377
                    have bz383 := fb_rng xz380
                    have zz384 : rz377.toInt ≤ xz380.toInt := zi_le.mp cz381
                    obtain ⟨xz385, exz385⟩ : ∃ y : Int32, y = xz366 + Int32.ofInt (1) := ⟨_, rfl⟩
                    have fxz385 : xz385.toInt = xz366.toInt + (1) := by rw [exz385]; exact fb_addI (y := Int32.ofInt (1)) (by show -2147483648 ≤ xz366.toInt + (1); omega) (by show xz366.toInt + (1) < 2147483648; omega)
                    refine lv_iinc (v := xz385) (lv' := [(4, .int xz385), (0, .ref (qX 0)), (1, .int p1), (3, .ref (sY 3 0))]) hx hb dX11_most_68 hl (k := 3) rfl exz385.symm (by decide) rfl (fun ls hl => ?_)
                    refine lv_goto (tgt := 34) hx hb dX11_most_71 (by decide) ?_
                    exact ih34 H locs ls az379 nz378 xz385 (by show (2147483647 - xz385.toInt).toNat < n9_34; omega) hnz378 (by show 1 ≤ xz385.toInt; omega) hP hD hS (lv_sub hl [1, 2, 3, 0] rfl)
                  · skip
                    have bz386 := fb_rng rz377
                    have bz387 := fb_rng xz380
                    have zz388 : ¬ rz377.toInt ≤ xz380.toInt := fun h9 => cz381 (zi_le.mpr h9)
                    refine lv_iload hx hb dX11_most_65 (lv_at hl 3 rfl) ?_
                    rw [hQ]
                    exact W.iret (v := xz366) hx hb hr (fun t ht hW => ⟨⟨xz366, (), rfl, trivial, nz378, az379, hnz378, by rw [ht]; exact hP⟩, hS.F ht⟩) hS.2.2 dX11_most_67
                · skip
                  have zz389 : p1.toInt = (1 : Int) := zi_eq.mp cz374
                  refine W.eq (g2 := F0 m 47 ls [.int 1, .ref (sY 3 1), .ref (qX 0)]) (by rw [cz374]) ?_
                  refine va_aldq hx hb hK hP 52 4 rfl rfl (by unfold vp_in; decide) dX11_most_47 ?_
                  refine W.eq (g2 := F0 m 48 ls [.ref (sY 3 5), .ref (qX 0)]) rfl ?_
                  refine lv_iload hx hb dX11_most_48 (lv_at hl 3 rfl) ?_
                  have hPc := hP.sub (ws' := (List.flatten [(wMem qM k nz365 az364)] ++ List.flatten [(wSag qX k tapeX (qV 0) actsX nowX trialX (qY 0) attemptX orderSearchX routeSearchX setSearchX (qM 0) slot0X slot1X slot2X slot3X image0X image1X image2X aX), (wValley qV k vV bV cV wV aV eV), (wMem (fun i => sY 3 (i + 5)) k (fun i => (nY 3) (i + 1)) (fun i => (aY 3) (i + 2)))])) [0, 1, 2, 3, 4, 5, 6, 7, 8, 9, 10, 11, 12, 13, 14, 15, 56, 57, 58] rfl
                  have hC : [0, 1, 2, 3, 4, 5, 6, 7, 8, 9, 10, 11, 12, 13, 14, 15, 56, 57, 58].map (fun i => (List.flatten [(wMem qM k nz365 az364)] ++ List.flatten [(wSag qX k tapeX (qV 0) actsX nowX trialX (qY 0) attemptX orderSearchX routeSearchX setSearchX (qM 0) slot0X slot1X slot2X slot3X image0X image1X image2X aX), (wValley qV k vV bV cV wV aV eV), (wStoO qY k (qV 0) planY (sY 0 0) (sY 1 0) (sY 2 0) (sY 3 0) (sY 4 0) (sY 5 0) (sY 6 0) (sY 7 0)), (wState (sY 0) k (vY 0) (nY 0) (aY 0)), (wState (sY 1) k (vY 1) (nY 1) (aY 1)), (wState (sY 2) k (vY 2) (nY 2) (aY 2)), (wState (sY 3) k (vY 3) (nY 3) (aY 3)), (wState (sY 4) k (vY 4) (nY 4) (aY 4)), (wState (sY 5) k (vY 5) (nY 5) (aY 5)), (wState (sY 6) k (vY 6) (nY 6) (aY 6)), (wState (sY 7) k (vY 7) (nY 7) (aY 7))])[i]?) = (List.flatten [(wMem qM k nz365 az364)] ++ List.flatten [(wSag qX k tapeX (qV 0) actsX nowX trialX (qY 0) attemptX orderSearchX routeSearchX setSearchX (qM 0) slot0X slot1X slot2X slot3X image0X image1X image2X aX), (wValley qV k vV bV cV wV aV eV), (wMem (fun i => sY 3 (i + 5)) k (fun i => (nY 3) (i + 1)) (fun i => (aY 3) (i + 2)))]).map some := rfl
                  have hDc := hD.sub [0, 1, 2, 3, 4, 5, 6, 7, 8, 9, 10, 11, 12, 13, 14, 15, 56, 57, 58] (by decide) hC
                  have hFc := va_free hD hS hA [0, 1, 2, 3, 4, 5, 6, 7, 8, 9, 10, 11, 12, 13, 14, 15, 56, 57, 58] hC
                  refine va_calli (va_runV (As := [.ref (sY 3 5), .int xz366]) (rest := []) ⟨hx, hb, hml, hown, hts⟩ (c_X11_depthWith l dC dI k H.size qX tapeX actsX nowX trialX (qY 0) attemptX orderSearchX routeSearchX setSearchX slot0X slot1X slot2X slot3X image0X image1X image2X aX qV vV bV cV wV aV eV qM nz365 az364 (fun i => sY 3 (i + 5)) (fun i => (nY 3) (i + 1)) (fun i => (aY 3) (i + 2)) xz366 hbV hcV hwV heV hnz365 (fun i => (hnY 3) (i + 1)) (by show 0 ≤ xz366.toInt ∧ xz366.toInt ≤ 99; omega)) (cwV 2 hts (gk_V (wl_mem 14 rfl) (wl_mem 15 rfl) (wl_mem 16 rfl) (wl_mem 3 rfl) (fun w h => List.mem_cons_of_mem _ (List.mem_append_right _ (List.mem_append_right _ (List.mem_append_right _ (List.mem_append_right _ (List.mem_append_right _ (List.mem_append_right _ (List.mem_append_left _ h)))))))) wkg_c_X11_depthWith) rfl rfl rfl (by decide +kernel) ⟨Nat.le_of_ble_eq_true rfl, Nat.le_of_ble_eq_true rfl⟩) ⟨fun a U g mk q => by obtain ⟨q0, q1, qP, qK, qD⟩ := q; exact ⟨q0, q1, qP, va_K.moved (u := U) (U := U.calling g mk a) (Vm.Alike.refl U.vm) qK, qD⟩, va_recv hK hPc (ci := 11) (q0 := 3) rfl rfl, fun U hU hW => ⟨rfl, by rw [hU], by rw [hU]; exact hPc, va_K.moved hW.alike hK, hDc.weaken (fun _ _ _ _ => trivial)⟩⟩ rfl rfl hl.1 rfl (lv_room (Nat.le_of_ble_eq_true rfl)) dX11_most_50 ⟨Nat.le_of_ble_eq_true rfl, Nat.le_of_ble_eq_true rfl⟩) hS (fun q _ h => hFc q h) hFc (fun rz391 u t H1 locs ht hvm gz390 hB hz1 hk1 hS => ?_)
                  obtain ⟨nz392, az393, hnz392, hP1⟩ := hB
                  rw [ht] at hP1
                  obtain ⟨hP, hD⟩ := w_callR hP hD hk1 hP1 [0] rfl rfl (wk_mem [3, 4, 5, 6, 7, 8, 9, 10, 11, 12, 13, 14, 15, 56, 57, 58] rfl) rfl [some 0] rfl rfl
                  clear hPc hC hDc hFc hk1 hP1
                  generalize H1 = H at hP hS ⊢
                  have hP : va_P (dC, dI) vwCl (List.flatten [(wMem qM k nz392 az393)] ++ List.flatten [(wSag qX k tapeX (qV 0) actsX nowX trialX (qY 0) attemptX orderSearchX routeSearchX setSearchX (qM 0) slot0X slot1X slot2X slot3X image0X image1X image2X aX), (wValley qV k vV bV cV wV aV eV), (wStoO qY k (qV 0) planY (sY 0 0) (sY 1 0) (sY 2 0) (sY 3 0) (sY 4 0) (sY 5 0) (sY 6 0) (sY 7 0)), (wState (sY 0) k (vY 0) (nY 0) (aY 0)), (wState (sY 1) k (vY 1) (nY 1) (aY 1)), (wState (sY 2) k (vY 2) (nY 2) (aY 2)), (wState (sY 3) k (vY 3) (nY 3) (aY 3)), (wState (sY 4) k (vY 4) (nY 4) (aY 4)), (wState (sY 5) k (vY 5) (nY 5) (aY 5)), (wState (sY 6) k (vY 6) (nY 6) (aY 6)), (wState (sY 7) k (vY 7) (nY 7) (aY 7))]) H := hP
                  have hD : va_D A (List.flatten [(wMem qM k nz392 az393)] ++ List.flatten [(wSag qX k tapeX (qV 0) actsX nowX trialX (qY 0) attemptX orderSearchX routeSearchX setSearchX (qM 0) slot0X slot1X slot2X slot3X image0X image1X image2X aX), (wValley qV k vV bV cV wV aV eV), (wStoO qY k (qV 0) planY (sY 0 0) (sY 1 0) (sY 2 0) (sY 3 0) (sY 4 0) (sY 5 0) (sY 6 0) (sY 7 0)), (wState (sY 0) k (vY 0) (nY 0) (aY 0)), (wState (sY 1) k (vY 1) (nY 1) (aY 1)), (wState (sY 2) k (vY 2) (nY 2) (aY 2)), (wState (sY 3) k (vY 3) (nY 3) (aY 3)), (wState (sY 4) k (vY 4) (nY 4) (aY 4)), (wState (sY 5) k (vY 5) (nY 5) (aY 5)), (wState (sY 6) k (vY 6) (nY 6) (aY 6)), (wState (sY 7) k (vY 7) (nY 7) (aY 7))]) := hD
                  refine W.widen (k := 0) (n := 0) (Nat.le_refl 0) (Nat.le_refl 0) ?_
                  refine lv_aload_n hx hb dX11_most_53 rfl (lv_at hl 0 rfl) ?_
                  refine va_get (D := (dC, dI)) (ci := 11) (v := .ref (qV 0)) (C := RX11) (T := TX11) (N := 15) hx hb hts (fun w h => List.mem_cons_of_mem _ (List.mem_append_right _ (List.mem_append_right _ (List.mem_append_left _ h)))) hown hK hP 3 rfl rfl 1 (by decide) (hts (.fieldLink RX11 19 "SagMemory" "told" "LSagMemory$Valley;") (wl_mem 17 rfl)) (fun _ h9 => h9) rfl dX11_most_54 ?_
                  refine va_get (D := (dC, dI)) (ci := 10) (v := .ref (qV 1)) (C := RX10) (T := TX10) (N := 16) hx hb hts (fun w h => List.mem_cons_of_mem _ (List.mem_append_right _ (List.mem_append_right _ (List.mem_append_right _ (List.mem_append_right _ (List.mem_append_right _ (List.mem_append_right _ (List.mem_append_right _ (List.mem_append_left _ h))))))))) hown hK hP 8 rfl rfl 0 (by decide) (hts (.fieldLink RX11 135 "SagMemory$Valley" "holds" "[I") (wl_mem 18 rfl)) (fun _ h9 => h9) rfl dX11_most_57 ?_
                  refine lv_iload_n hx hb dX11_most_60 rfl (lv_at hl 1 rfl) ?_
                  refine va_iald hx hb hK hP 9 0 rfl rfl (vp_in_iff.mpr ⟨by omega, by omega⟩) dX11_most_61 ?_
                  refine lv_topi (fun xz394 exz394 => ?_)
                  refine lv_icmp_le (tgt := 68) hx hb dX11_most_62 (by decide) (fun cz395 => ?_) (fun cz395 => ?_)
                  · skip
                    have bz396 := fb_rng rz391
                    have bz397 := fb_rng xz394
                    have zz398 : rz391.toInt ≤ xz394.toInt := zi_le.mp cz395
                    obtain ⟨xz399, exz399⟩ : ∃ y : Int32, y = xz366 + Int32.ofInt (1) := ⟨_, rfl⟩
                    have fxz399 : xz399.toInt = xz366.toInt + (1) := by rw [exz399]; exact fb_addI (y := Int32.ofInt (1)) (by show -2147483648 ≤ xz366.toInt + (1); omega) (by show xz366.toInt + (1) < 2147483648; omega)
                    refine lv_iinc (v := xz399) (lv' := [(4, .int xz399), (0, .ref (qX 0)), (1, .int p1), (3, .ref (sY 3 0))]) hx hb dX11_most_68 hl (k := 3) rfl exz399.symm (by decide) rfl (fun ls hl => ?_)
                    refine lv_goto (tgt := 34) hx hb dX11_most_71 (by decide) ?_
                    exact ih34 H locs ls az393 nz392 xz399 (by show (2147483647 - xz399.toInt).toNat < n9_34; omega) hnz392 (by show 1 ≤ xz399.toInt; omega) hP hD hS (lv_sub hl [1, 2, 3, 0] rfl)
                  · skip
                    have bz400 := fb_rng rz391
                    have bz401 := fb_rng xz394
                    have zz402 : ¬ rz391.toInt ≤ xz394.toInt := fun h9 => cz395 (zi_le.mpr h9)
                    refine lv_iload hx hb dX11_most_65 (lv_at hl 3 rfl) ?_
                    rw [hQ]
                    exact W.iret (v := xz366) hx hb hr (fun t ht hW => ⟨⟨xz366, (), rfl, trivial, nz392, az393, hnz392, by rw [ht]; exact hP⟩, hS.F ht⟩) hS.2.2 dX11_most_67
                · skip
                  have zz403 : p1.toInt = (2 : Int) := zi_eq.mp cz374
                  refine W.eq (g2 := F0 m 47 ls [.int 2, .ref (sY 3 1), .ref (qX 0)]) (by rw [cz374]) ?_
                  refine va_aldq hx hb hK hP 52 4 rfl rfl (by unfold vp_in; decide) dX11_most_47 ?_
                  refine W.eq (g2 := F0 m 48 ls [.ref (sY 3 8), .ref (qX 0)]) rfl ?_
                  refine lv_iload hx hb dX11_most_48 (lv_at hl 3 rfl) ?_
                  have hPc := hP.sub (ws' := (List.flatten [(wMem qM k nz365 az364)] ++ List.flatten [(wSag qX k tapeX (qV 0) actsX nowX trialX (qY 0) attemptX orderSearchX routeSearchX setSearchX (qM 0) slot0X slot1X slot2X slot3X image0X image1X image2X aX), (wValley qV k vV bV cV wV aV eV), (wMem (fun i => sY 3 (i + 8)) k (fun i => (nY 3) (i + 2)) (fun i => (aY 3) (i + 4)))])) [0, 1, 2, 3, 4, 5, 6, 7, 8, 9, 10, 11, 12, 13, 14, 15, 59, 60, 61] rfl
                  have hC : [0, 1, 2, 3, 4, 5, 6, 7, 8, 9, 10, 11, 12, 13, 14, 15, 59, 60, 61].map (fun i => (List.flatten [(wMem qM k nz365 az364)] ++ List.flatten [(wSag qX k tapeX (qV 0) actsX nowX trialX (qY 0) attemptX orderSearchX routeSearchX setSearchX (qM 0) slot0X slot1X slot2X slot3X image0X image1X image2X aX), (wValley qV k vV bV cV wV aV eV), (wStoO qY k (qV 0) planY (sY 0 0) (sY 1 0) (sY 2 0) (sY 3 0) (sY 4 0) (sY 5 0) (sY 6 0) (sY 7 0)), (wState (sY 0) k (vY 0) (nY 0) (aY 0)), (wState (sY 1) k (vY 1) (nY 1) (aY 1)), (wState (sY 2) k (vY 2) (nY 2) (aY 2)), (wState (sY 3) k (vY 3) (nY 3) (aY 3)), (wState (sY 4) k (vY 4) (nY 4) (aY 4)), (wState (sY 5) k (vY 5) (nY 5) (aY 5)), (wState (sY 6) k (vY 6) (nY 6) (aY 6)), (wState (sY 7) k (vY 7) (nY 7) (aY 7))])[i]?) = (List.flatten [(wMem qM k nz365 az364)] ++ List.flatten [(wSag qX k tapeX (qV 0) actsX nowX trialX (qY 0) attemptX orderSearchX routeSearchX setSearchX (qM 0) slot0X slot1X slot2X slot3X image0X image1X image2X aX), (wValley qV k vV bV cV wV aV eV), (wMem (fun i => sY 3 (i + 8)) k (fun i => (nY 3) (i + 2)) (fun i => (aY 3) (i + 4)))]).map some := rfl
                  have hDc := hD.sub [0, 1, 2, 3, 4, 5, 6, 7, 8, 9, 10, 11, 12, 13, 14, 15, 59, 60, 61] (by decide) hC
                  have hFc := va_free hD hS hA [0, 1, 2, 3, 4, 5, 6, 7, 8, 9, 10, 11, 12, 13, 14, 15, 59, 60, 61] hC
                  refine va_calli (va_runV (As := [.ref (sY 3 8), .int xz366]) (rest := []) ⟨hx, hb, hml, hown, hts⟩ (c_X11_depthWith l dC dI k H.size qX tapeX actsX nowX trialX (qY 0) attemptX orderSearchX routeSearchX setSearchX slot0X slot1X slot2X slot3X image0X image1X image2X aX qV vV bV cV wV aV eV qM nz365 az364 (fun i => sY 3 (i + 8)) (fun i => (nY 3) (i + 2)) (fun i => (aY 3) (i + 4)) xz366 hbV hcV hwV heV hnz365 (fun i => (hnY 3) (i + 2)) (by show 0 ≤ xz366.toInt ∧ xz366.toInt ≤ 99; omega)) (cwV 2 hts (gk_V (wl_mem 14 rfl) (wl_mem 15 rfl) (wl_mem 16 rfl) (wl_mem 3 rfl) (fun w h => List.mem_cons_of_mem _ (List.mem_append_right _ (List.mem_append_right _ (List.mem_append_right _ (List.mem_append_right _ (List.mem_append_right _ (List.mem_append_right _ (List.mem_append_left _ h)))))))) wkg_c_X11_depthWith) rfl rfl rfl (by decide +kernel) ⟨Nat.le_of_ble_eq_true rfl, Nat.le_of_ble_eq_true rfl⟩) ⟨fun a U g mk q => by obtain ⟨q0, q1, qP, qK, qD⟩ := q; exact ⟨q0, q1, qP, va_K.moved (u := U) (U := U.calling g mk a) (Vm.Alike.refl U.vm) qK, qD⟩, va_recv hK hPc (ci := 11) (q0 := 3) rfl rfl, fun U hU hW => ⟨rfl, by rw [hU], by rw [hU]; exact hPc, va_K.moved hW.alike hK, hDc.weaken (fun _ _ _ _ => trivial)⟩⟩ rfl rfl hl.1 rfl (lv_room (Nat.le_of_ble_eq_true rfl)) dX11_most_50 ⟨Nat.le_of_ble_eq_true rfl, Nat.le_of_ble_eq_true rfl⟩) hS (fun q _ h => hFc q h) hFc (fun rz405 u t H1 locs ht hvm gz404 hB hz1 hk1 hS => ?_)
                  obtain ⟨nz406, az407, hnz406, hP1⟩ := hB
                  rw [ht] at hP1
                  obtain ⟨hP, hD⟩ := w_callR hP hD hk1 hP1 [0] rfl rfl (wk_mem [3, 4, 5, 6, 7, 8, 9, 10, 11, 12, 13, 14, 15, 59, 60, 61] rfl) rfl [some 0] rfl rfl
                  clear hPc hC hDc hFc hk1 hP1
                  generalize H1 = H at hP hS ⊢
                  have hP : va_P (dC, dI) vwCl (List.flatten [(wMem qM k nz406 az407)] ++ List.flatten [(wSag qX k tapeX (qV 0) actsX nowX trialX (qY 0) attemptX orderSearchX routeSearchX setSearchX (qM 0) slot0X slot1X slot2X slot3X image0X image1X image2X aX), (wValley qV k vV bV cV wV aV eV), (wStoO qY k (qV 0) planY (sY 0 0) (sY 1 0) (sY 2 0) (sY 3 0) (sY 4 0) (sY 5 0) (sY 6 0) (sY 7 0)), (wState (sY 0) k (vY 0) (nY 0) (aY 0)), (wState (sY 1) k (vY 1) (nY 1) (aY 1)), (wState (sY 2) k (vY 2) (nY 2) (aY 2)), (wState (sY 3) k (vY 3) (nY 3) (aY 3)), (wState (sY 4) k (vY 4) (nY 4) (aY 4)), (wState (sY 5) k (vY 5) (nY 5) (aY 5)), (wState (sY 6) k (vY 6) (nY 6) (aY 6)), (wState (sY 7) k (vY 7) (nY 7) (aY 7))]) H := hP
                  have hD : va_D A (List.flatten [(wMem qM k nz406 az407)] ++ List.flatten [(wSag qX k tapeX (qV 0) actsX nowX trialX (qY 0) attemptX orderSearchX routeSearchX setSearchX (qM 0) slot0X slot1X slot2X slot3X image0X image1X image2X aX), (wValley qV k vV bV cV wV aV eV), (wStoO qY k (qV 0) planY (sY 0 0) (sY 1 0) (sY 2 0) (sY 3 0) (sY 4 0) (sY 5 0) (sY 6 0) (sY 7 0)), (wState (sY 0) k (vY 0) (nY 0) (aY 0)), (wState (sY 1) k (vY 1) (nY 1) (aY 1)), (wState (sY 2) k (vY 2) (nY 2) (aY 2)), (wState (sY 3) k (vY 3) (nY 3) (aY 3)), (wState (sY 4) k (vY 4) (nY 4) (aY 4)), (wState (sY 5) k (vY 5) (nY 5) (aY 5)), (wState (sY 6) k (vY 6) (nY 6) (aY 6)), (wState (sY 7) k (vY 7) (nY 7) (aY 7))]) := hD
                  refine W.widen (k := 0) (n := 0) (Nat.le_refl 0) (Nat.le_refl 0) ?_
                  refine lv_aload_n hx hb dX11_most_53 rfl (lv_at hl 0 rfl) ?_
                  refine va_get (D := (dC, dI)) (ci := 11) (v := .ref (qV 0)) (C := RX11) (T := TX11) (N := 15) hx hb hts (fun w h => List.mem_cons_of_mem _ (List.mem_append_right _ (List.mem_append_right _ (List.mem_append_left _ h)))) hown hK hP 3 rfl rfl 1 (by decide) (hts (.fieldLink RX11 19 "SagMemory" "told" "LSagMemory$Valley;") (wl_mem 17 rfl)) (fun _ h9 => h9) rfl dX11_most_54 ?_
                  refine va_get (D := (dC, dI)) (ci := 10) (v := .ref (qV 1)) (C := RX10) (T := TX10) (N := 16) hx hb hts (fun w h => List.mem_cons_of_mem _ (List.mem_append_right _ (List.mem_append_right _ (List.mem_append_right _ (List.mem_append_right _ (List.mem_append_right _ (List.mem_append_right _ (List.mem_append_right _ (List.mem_append_left _ h))))))))) hown hK hP 8 rfl rfl 0 (by decide) (hts (.fieldLink RX11 135 "SagMemory$Valley" "holds" "[I") (wl_mem 18 rfl)) (fun _ h9 => h9) rfl dX11_most_57 ?_
                  refine lv_iload_n hx hb dX11_most_60 rfl (lv_at hl 1 rfl) ?_
                  refine va_iald hx hb hK hP 9 0 rfl rfl (vp_in_iff.mpr ⟨by omega, by omega⟩) dX11_most_61 ?_
                  refine lv_topi (fun xz408 exz408 => ?_)
                  refine lv_icmp_le (tgt := 68) hx hb dX11_most_62 (by decide) (fun cz409 => ?_) (fun cz409 => ?_)
                  · skip
                    have bz410 := fb_rng rz405
                    have bz411 := fb_rng xz408
                    have zz412 : rz405.toInt ≤ xz408.toInt := zi_le.mp cz409
                    obtain ⟨xz413, exz413⟩ : ∃ y : Int32, y = xz366 + Int32.ofInt (1) := ⟨_, rfl⟩
                    have fxz413 : xz413.toInt = xz366.toInt + (1) := by rw [exz413]; exact fb_addI (y := Int32.ofInt (1)) (by show -2147483648 ≤ xz366.toInt + (1); omega) (by show xz366.toInt + (1) < 2147483648; omega)
                    refine lv_iinc (v := xz413) (lv' := [(4, .int xz413), (0, .ref (qX 0)), (1, .int p1), (3, .ref (sY 3 0))]) hx hb dX11_most_68 hl (k := 3) rfl exz413.symm (by decide) rfl (fun ls hl => ?_)
                    refine lv_goto (tgt := 34) hx hb dX11_most_71 (by decide) ?_
                    exact ih34 H locs ls az407 nz406 xz413 (by show (2147483647 - xz413.toInt).toNat < n9_34; omega) hnz406 (by show 1 ≤ xz413.toInt; omega) hP hD hS (lv_sub hl [1, 2, 3, 0] rfl)
                  · skip
                    have bz414 := fb_rng rz405
                    have bz415 := fb_rng xz408
                    have zz416 : ¬ rz405.toInt ≤ xz408.toInt := fun h9 => cz409 (zi_le.mpr h9)
                    refine lv_iload hx hb dX11_most_65 (lv_at hl 3 rfl) ?_
                    rw [hQ]
                    exact W.iret (v := xz366) hx hb hr (fun t ht hW => ⟨⟨xz366, (), rfl, trivial, nz406, az407, hnz406, by rw [ht]; exact hP⟩, hS.F ht⟩) hS.2.2 dX11_most_67
          exact lp34_kz367 _ s.heap [] ls aM nM (1 : Int32) (Nat.lt_succ_self _) hnM (by show 1 ≤ (1 : Int); omega) hP hD hS (lv_sub hl [2, 3, 1, 0] rfl)
        · skip
          have zz417 : ¬ rz309.toInt = (0 : Int) := fun h9 => cz311 (zi_eq.mpr h9)
          refine lv_iconst (v := (-1)) hx hb dX11_most_29 (by decide) ?_
          rw [hQ]
          exact W.iret (v := (-1 : Int32)) hx hb hr (fun t ht hW => ⟨⟨(-1 : Int32), (), rfl, trivial, nM, aM, hnM, by rw [ht]; exact hP⟩, hS.F ht⟩) hS.2.2 dX11_most_30
      · skip
        have zz418 : ¬ p2.toInt < (0 : Int) := fun h9 => cz64 (zi_lt.mpr h9)
        have zz419 : ¬ (7 : Int) ≤ p2.toInt := fun h9 => cz65 (zi_le.mpr h9)
        have zz420 : p2.toInt = (3 : Int) := zi_eq.mp cz66
        refine W.eq (g2 := F0 m 20 ls [.ref (sY 4 0)]) rfl ?_
        refine lv_astore_n (lv' := [(3, .ref (sY 4 0)), (0, .ref (qX 0)), (1, .int p1), (2, .int p2)]) hx hb dX11_most_20 rfl hl (by decide) rfl (fun ls hl => ?_)
        refine lv_aload_n hx hb dX11_most_21 rfl (lv_at hl 0 rfl) ?_
        refine lv_iload_n hx hb dX11_most_22 rfl (lv_at hl 2 rfl) ?_
        have hPc := hP.sub (ws' := (List.flatten [(wState (sY 4) k (vY 4) (nY 4) (aY 4))])) [62, 63, 64, 65, 66, 67, 68, 69, 70, 71, 72] rfl
        refine vp_callSi (va_Run.run (va_runV (As := [.int p1]) (rest := []) ⟨hx, hb, hml, hown, hts⟩ (c_X7_isBroken l dC dI k (sY 4) (vY 4) (nY 4) (aY 4) p1 (hnY 4)) (cwV 1 hts (gk_V (wl_mem 9 rfl) (wl_mem 10 rfl) (wl_mem 11 rfl) (wl_mem 12 rfl) (fun w h => List.mem_cons_of_mem _ (List.mem_append_right _ (List.mem_append_right _ (List.mem_append_right _ (List.mem_append_right _ (List.mem_append_left _ h)))))) wkg_c_X7_isBroken) rfl rfl rfl (by decide +kernel) ⟨Nat.le_of_ble_eq_true rfl, Nat.le_of_ble_eq_true rfl⟩) ⟨fun a U g mk q => by obtain ⟨q0, qP, qK⟩ := q; exact ⟨q0, qP, va_K.moved (u := U) (U := U.calling g mk a) (Vm.Alike.refl U.vm) qK⟩, va_recv hK hPc (ci := 7) (q0 := 0) rfl rfl, fun U hU hW => ⟨rfl, by rw [hU]; exact hPc, va_K.moved hW.alike hK⟩⟩ rfl rfl hl.1 rfl (lv_room (Nat.le_of_ble_eq_true rfl)) dX11_most_23 ⟨Nat.le_of_ble_eq_true rfl, Nat.le_of_ble_eq_true rfl⟩)) (fun rz422 gz421 => ?_)
        clear hPc
        have pz423 := gz421
        have pz423 : rz422.toInt = 0 ∨ rz422.toInt = 1 := pz423
        refine lv_if_eq (tgt := 31) hx hb dX11_most_26 (by decide) (fun cz424 => ?_) (fun cz424 => ?_)
        · skip
          have zz425 : rz422.toInt = (0 : Int) := zi_eq.mp cz424
          refine lv_iconst (v := 1) hx hb dX11_most_31 (by decide) ?_
          refine lv_istore (lv' := [(4, .int 1), (3, .ref (sY 4 0)), (0, .ref (qX 0)), (1, .int p1), (2, .int p2)]) hx hb dX11_most_32 hl (by decide) rfl (fun ls hl => ?_)
          have lp34_kz480 : ∀ (n9_34 : Nat) (H : Heap) (locs : List Loc) (ls : Array Slot) (az477 : Nat → Nat → Int32) (nz478 : Nat → Int32) (xz479 : Int32), (2147483647 - xz479.toInt).toNat < n9_34 → Rg 0 8 nz478 → 1 ≤ xz479.toInt → va_P (dC, dI) vwCl (List.flatten [(wMem qM k nz478 az477)] ++ List.flatten [(wSag qX k tapeX (qV 0) actsX nowX trialX (qY 0) attemptX orderSearchX routeSearchX setSearchX (qM 0) slot0X slot1X slot2X slot3X image0X image1X image2X aX), (wValley qV k vV bV cV wV aV eV), (wStoO qY k (qV 0) planY (sY 0 0) (sY 1 0) (sY 2 0) (sY 3 0) (sY 4 0) (sY 5 0) (sY 6 0) (sY 7 0)), (wState (sY 0) k (vY 0) (nY 0) (aY 0)), (wState (sY 1) k (vY 1) (nY 1) (aY 1)), (wState (sY 2) k (vY 2) (nY 2) (aY 2)), (wState (sY 3) k (vY 3) (nY 3) (aY 3)), (wState (sY 4) k (vY 4) (nY 4) (aY 4)), (wState (sY 5) k (vY 5) (nY 5) (aY 5)), (wState (sY 6) k (vY 6) (nY 6) (aY 6)), (wState (sY 7) k (vY 7) (nY 7) (aY 7))]) H → va_D A (List.flatten [(wMem qM k nz478 az477)] ++ List.flatten [(wSag qX k tapeX (qV 0) actsX nowX trialX (qY 0) attemptX orderSearchX routeSearchX setSearchX (qM 0) slot0X slot1X slot2X slot3X image0X image1X image2X aX), (wValley qV k vV bV cV wV aV eV), (wStoO qY k (qV 0) planY (sY 0 0) (sY 1 0) (sY 2 0) (sY 3 0) (sY 4 0) (sY 5 0) (sY 6 0) (sY 7 0)), (wState (sY 0) k (vY 0) (nY 0) (aY 0)), (wState (sY 1) k (vY 1) (nY 1) (aY 1)), (wState (sY 2) k (vY 2) (nY 2) (aY 2)), (wState (sY 3) k (vY 3) (nY 3) (aY 3)), (wState (sY 4) k (vY 4) (nY 4) (aY 4)), (wState (sY 5) k (vY 5) (nY 5) (aY 5)), (wState (sY 6) k (vY 6) (nY 6) (aY 6)), (wState (sY 7) k (vY 7) (nY 7) (aY 7))]) → va_S A s.heap H locs → lv_has ls 5 [(0, .ref (qX 0)), (1, .int p1), (3, .ref (sY 4 0)), (4, .int xz479)] → W p l e (headSpec wk_c_X11_most ({ frames := 2, cells := 0, slots := 0, locals := 49 })).room s m ([.ref (qX 0), .int p1, .int p2] : List Value).toArray below meth c H locs 0 0 Q (F0 m 34 ls []) := by
            intro n9_34
            induction n9_34 with
            | zero => intro H locs ls az477 nz478 xz479 hm; exact absurd hm (Nat.not_lt_zero _)
            | succ n9_34 ih34 =>
              intro H locs ls az477 nz478 xz479 hm34 hnz478 jz481 hP hD hS hl
              refine lv_iload hx hb dX11_most_34 (lv_at hl 3 rfl) ?_
              refine lv_bipush (v := 99) hx hb dX11_most_36 (by decide) ?_
              refine lv_icmp_gt (tgt := 74) hx hb dX11_most_38 (by decide) (fun cz482 => ?_) (fun cz482 => ?_)
              · skip
                have bz483 := fb_rng xz479
                have zz484 : (99 : Int) < xz479.toInt := zi_lt.mp cz482
                refine lv_iconst (v := (-1)) hx hb dX11_most_74 (by decide) ?_
                rw [hQ]
                exact W.iret (v := (-1 : Int32)) hx hb hr (fun t ht hW => ⟨⟨(-1 : Int32), (), rfl, trivial, nz478, az477, hnz478, by rw [ht]; exact hP⟩, hS.F ht⟩) hS.2.2 dX11_most_75
              · skip
                have bz485 := fb_rng xz479
                have zz486 : ¬ (99 : Int) < xz479.toInt := fun h9 => cz482 (zi_lt.mpr h9)
                refine lv_aload_n hx hb dX11_most_41 rfl (lv_at hl 0 rfl) ?_
                refine lv_aload_n hx hb dX11_most_42 rfl (lv_at hl 2 rfl) ?_
                refine va_get (D := (dC, dI)) (ci := 7) (v := .ref (sY 4 1)) (C := RX7) (T := TX7) (N := 9) hx hb hts (fun w h => List.mem_cons_of_mem _ (List.mem_append_right _ (List.mem_append_right _ (List.mem_append_right _ (List.mem_append_right _ (List.mem_append_right _ (List.mem_append_left _ h))))))) hown hK hP 62 rfl rfl 0 (by decide) (hts (.fieldLink RX11 194 "SagMemory$State" "memories" "[LSagMemory$Memory;") (wl_mem 13 rfl)) (fun _ h9 => h9) rfl dX11_most_43 ?_
                refine lv_iload_n hx hb dX11_most_46 rfl (lv_at hl 1 rfl) ?_
                rcases (show p1 = 0 ∨ p1 = 1 ∨ p1 = 2 by simp only [zi_eq]; show p1.toInt = 0 ∨ p1.toInt = 1 ∨ p1.toInt = 2; omega) with cz487 | cz487 | cz487
                · skip
                  have zz488 : p1.toInt = (0 : Int) := zi_eq.mp cz487
                  refine W.eq (g2 := F0 m 47 ls [.int 0, .ref (sY 4 1), .ref (qX 0)]) (by rw [cz487]) ?_
                  refine va_aldq hx hb hK hP 63 4 rfl rfl (by unfold vp_in; decide) dX11_most_47 ?_
                  refine W.eq (g2 := F0 m 48 ls [.ref (sY 4 2), .ref (qX 0)]) rfl ?_
                  refine lv_iload hx hb dX11_most_48 (lv_at hl 3 rfl) ?_
                  have hPc := hP.sub (ws' := (List.flatten [(wMem qM k nz478 az477)] ++ List.flatten [(wSag qX k tapeX (qV 0) actsX nowX trialX (qY 0) attemptX orderSearchX routeSearchX setSearchX (qM 0) slot0X slot1X slot2X slot3X image0X image1X image2X aX), (wValley qV k vV bV cV wV aV eV), (wMem (fun i => sY 4 (i + 2)) k (nY 4) (aY 4))])) [0, 1, 2, 3, 4, 5, 6, 7, 8, 9, 10, 11, 12, 13, 14, 15, 64, 65, 66] rfl
                  have hC : [0, 1, 2, 3, 4, 5, 6, 7, 8, 9, 10, 11, 12, 13, 14, 15, 64, 65, 66].map (fun i => (List.flatten [(wMem qM k nz478 az477)] ++ List.flatten [(wSag qX k tapeX (qV 0) actsX nowX trialX (qY 0) attemptX orderSearchX routeSearchX setSearchX (qM 0) slot0X slot1X slot2X slot3X image0X image1X image2X aX), (wValley qV k vV bV cV wV aV eV), (wStoO qY k (qV 0) planY (sY 0 0) (sY 1 0) (sY 2 0) (sY 3 0) (sY 4 0) (sY 5 0) (sY 6 0) (sY 7 0)), (wState (sY 0) k (vY 0) (nY 0) (aY 0)), (wState (sY 1) k (vY 1) (nY 1) (aY 1)), (wState (sY 2) k (vY 2) (nY 2) (aY 2)), (wState (sY 3) k (vY 3) (nY 3) (aY 3)), (wState (sY 4) k (vY 4) (nY 4) (aY 4)), (wState (sY 5) k (vY 5) (nY 5) (aY 5)), (wState (sY 6) k (vY 6) (nY 6) (aY 6)), (wState (sY 7) k (vY 7) (nY 7) (aY 7))])[i]?) = (List.flatten [(wMem qM k nz478 az477)] ++ List.flatten [(wSag qX k tapeX (qV 0) actsX nowX trialX (qY 0) attemptX orderSearchX routeSearchX setSearchX (qM 0) slot0X slot1X slot2X slot3X image0X image1X image2X aX), (wValley qV k vV bV cV wV aV eV), (wMem (fun i => sY 4 (i + 2)) k (nY 4) (aY 4))]).map some := rfl
                  have hDc := hD.sub [0, 1, 2, 3, 4, 5, 6, 7, 8, 9, 10, 11, 12, 13, 14, 15, 64, 65, 66] (by decide) hC
                  have hFc := va_free hD hS hA [0, 1, 2, 3, 4, 5, 6, 7, 8, 9, 10, 11, 12, 13, 14, 15, 64, 65, 66] hC
                  refine va_calli (va_runV (As := [.ref (sY 4 2), .int xz479]) (rest := []) ⟨hx, hb, hml, hown, hts⟩ (c_X11_depthWith l dC dI k H.size qX tapeX actsX nowX trialX (qY 0) attemptX orderSearchX routeSearchX setSearchX slot0X slot1X slot2X slot3X image0X image1X image2X aX qV vV bV cV wV aV eV qM nz478 az477 (fun i => sY 4 (i + 2)) (nY 4) (aY 4) xz479 hbV hcV hwV heV hnz478 (hnY 4) (by show 0 ≤ xz479.toInt ∧ xz479.toInt ≤ 99; omega)) (cwV 2 hts (gk_V (wl_mem 14 rfl) (wl_mem 15 rfl) (wl_mem 16 rfl) (wl_mem 3 rfl) (fun w h => List.mem_cons_of_mem _ (List.mem_append_right _ (List.mem_append_right _ (List.mem_append_right _ (List.mem_append_right _ (List.mem_append_right _ (List.mem_append_right _ (List.mem_append_left _ h)))))))) wkg_c_X11_depthWith) rfl rfl rfl (by decide +kernel) ⟨Nat.le_of_ble_eq_true rfl, Nat.le_of_ble_eq_true rfl⟩) ⟨fun a U g mk q => by obtain ⟨q0, q1, qP, qK, qD⟩ := q; exact ⟨q0, q1, qP, va_K.moved (u := U) (U := U.calling g mk a) (Vm.Alike.refl U.vm) qK, qD⟩, va_recv hK hPc (ci := 11) (q0 := 3) rfl rfl, fun U hU hW => ⟨rfl, by rw [hU], by rw [hU]; exact hPc, va_K.moved hW.alike hK, hDc.weaken (fun _ _ _ _ => trivial)⟩⟩ rfl rfl hl.1 rfl (lv_room (Nat.le_of_ble_eq_true rfl)) dX11_most_50 ⟨Nat.le_of_ble_eq_true rfl, Nat.le_of_ble_eq_true rfl⟩) hS (fun q _ h => hFc q h) hFc (fun rz490 u t H1 locs ht hvm gz489 hB hz1 hk1 hS => ?_)
                  obtain ⟨nz491, az492, hnz491, hP1⟩ := hB
                  rw [ht] at hP1
                  obtain ⟨hP, hD⟩ := w_callR hP hD hk1 hP1 [0] rfl rfl (wk_mem [3, 4, 5, 6, 7, 8, 9, 10, 11, 12, 13, 14, 15, 64, 65, 66] rfl) rfl [some 0] rfl rfl
                  clear hPc hC hDc hFc hk1 hP1
                  generalize H1 = H at hP hS ⊢
                  have hP : va_P (dC, dI) vwCl (List.flatten [(wMem qM k nz491 az492)] ++ List.flatten [(wSag qX k tapeX (qV 0) actsX nowX trialX (qY 0) attemptX orderSearchX routeSearchX setSearchX (qM 0) slot0X slot1X slot2X slot3X image0X image1X image2X aX), (wValley qV k vV bV cV wV aV eV), (wStoO qY k (qV 0) planY (sY 0 0) (sY 1 0) (sY 2 0) (sY 3 0) (sY 4 0) (sY 5 0) (sY 6 0) (sY 7 0)), (wState (sY 0) k (vY 0) (nY 0) (aY 0)), (wState (sY 1) k (vY 1) (nY 1) (aY 1)), (wState (sY 2) k (vY 2) (nY 2) (aY 2)), (wState (sY 3) k (vY 3) (nY 3) (aY 3)), (wState (sY 4) k (vY 4) (nY 4) (aY 4)), (wState (sY 5) k (vY 5) (nY 5) (aY 5)), (wState (sY 6) k (vY 6) (nY 6) (aY 6)), (wState (sY 7) k (vY 7) (nY 7) (aY 7))]) H := hP
                  have hD : va_D A (List.flatten [(wMem qM k nz491 az492)] ++ List.flatten [(wSag qX k tapeX (qV 0) actsX nowX trialX (qY 0) attemptX orderSearchX routeSearchX setSearchX (qM 0) slot0X slot1X slot2X slot3X image0X image1X image2X aX), (wValley qV k vV bV cV wV aV eV), (wStoO qY k (qV 0) planY (sY 0 0) (sY 1 0) (sY 2 0) (sY 3 0) (sY 4 0) (sY 5 0) (sY 6 0) (sY 7 0)), (wState (sY 0) k (vY 0) (nY 0) (aY 0)), (wState (sY 1) k (vY 1) (nY 1) (aY 1)), (wState (sY 2) k (vY 2) (nY 2) (aY 2)), (wState (sY 3) k (vY 3) (nY 3) (aY 3)), (wState (sY 4) k (vY 4) (nY 4) (aY 4)), (wState (sY 5) k (vY 5) (nY 5) (aY 5)), (wState (sY 6) k (vY 6) (nY 6) (aY 6)), (wState (sY 7) k (vY 7) (nY 7) (aY 7))]) := hD
                  refine W.widen (k := 0) (n := 0) (Nat.le_refl 0) (Nat.le_refl 0) ?_
                  refine lv_aload_n hx hb dX11_most_53 rfl (lv_at hl 0 rfl) ?_
                  refine va_get (D := (dC, dI)) (ci := 11) (v := .ref (qV 0)) (C := RX11) (T := TX11) (N := 15) hx hb hts (fun w h => List.mem_cons_of_mem _ (List.mem_append_right _ (List.mem_append_right _ (List.mem_append_left _ h)))) hown hK hP 3 rfl rfl 1 (by decide) (hts (.fieldLink RX11 19 "SagMemory" "told" "LSagMemory$Valley;") (wl_mem 17 rfl)) (fun _ h9 => h9) rfl dX11_most_54 ?_
                  refine va_get (D := (dC, dI)) (ci := 10) (v := .ref (qV 1)) (C := RX10) (T := TX10) (N := 16) hx hb hts (fun w h => List.mem_cons_of_mem _ (List.mem_append_right _ (List.mem_append_right _ (List.mem_append_right _ (List.mem_append_right _ (List.mem_append_right _ (List.mem_append_right _ (List.mem_append_right _ (List.mem_append_left _ h))))))))) hown hK hP 8 rfl rfl 0 (by decide) (hts (.fieldLink RX11 135 "SagMemory$Valley" "holds" "[I") (wl_mem 18 rfl)) (fun _ h9 => h9) rfl dX11_most_57 ?_
                  refine lv_iload_n hx hb dX11_most_60 rfl (lv_at hl 1 rfl) ?_
                  refine va_iald hx hb hK hP 9 0 rfl rfl (vp_in_iff.mpr ⟨by omega, by omega⟩) dX11_most_61 ?_
                  refine lv_topi (fun xz493 exz493 => ?_)
                  refine lv_icmp_le (tgt := 68) hx hb dX11_most_62 (by decide) (fun cz494 => ?_) (fun cz494 => ?_)
                  · skip
                    have bz495 := fb_rng rz490
                    have bz496 := fb_rng xz493
                    have zz497 : rz490.toInt ≤ xz493.toInt := zi_le.mp cz494
                    obtain ⟨xz498, exz498⟩ : ∃ y : Int32, y = xz479 + Int32.ofInt (1) := ⟨_, rfl⟩
                    have fxz498 : xz498.toInt = xz479.toInt + (1) := by rw [exz498]; exact fb_addI (y := Int32.ofInt (1)) (by show -2147483648 ≤ xz479.toInt + (1); omega) (by show xz479.toInt + (1) < 2147483648; omega)
                    refine lv_iinc (v := xz498) (lv' := [(4, .int xz498), (0, .ref (qX 0)), (1, .int p1), (3, .ref (sY 4 0))]) hx hb dX11_most_68 hl (k := 3) rfl exz498.symm (by decide) rfl (fun ls hl => ?_)
                    refine lv_goto (tgt := 34) hx hb dX11_most_71 (by decide) ?_
                    exact ih34 H locs ls az492 nz491 xz498 (by show (2147483647 - xz498.toInt).toNat < n9_34; omega) hnz491 (by show 1 ≤ xz498.toInt; omega) hP hD hS (lv_sub hl [1, 2, 3, 0] rfl)
                  · skip
                    have bz499 := fb_rng rz490
                    have bz500 := fb_rng xz493
                    have zz501 : ¬ rz490.toInt ≤ xz493.toInt := fun h9 => cz494 (zi_le.mpr h9)
                    refine lv_iload hx hb dX11_most_65 (lv_at hl 3 rfl) ?_
                    rw [hQ]
                    exact W.iret (v := xz479) hx hb hr (fun t ht hW => ⟨⟨xz479, (), rfl, trivial, nz491, az492, hnz491, by rw [ht]; exact hP⟩, hS.F ht⟩) hS.2.2 dX11_most_67
                · skip
                  have zz502 : p1.toInt = (1 : Int) := zi_eq.mp cz487
                  refine W.eq (g2 := F0 m 47 ls [.int 1, .ref (sY 4 1), .ref (qX 0)]) (by rw [cz487]) ?_
                  refine va_aldq hx hb hK hP 63 4 rfl rfl (by unfold vp_in; decide) dX11_most_47 ?_
                  refine W.eq (g2 := F0 m 48 ls [.ref (sY 4 5), .ref (qX 0)]) rfl ?_
                  refine lv_iload hx hb dX11_most_48 (lv_at hl 3 rfl) ?_
                  have hPc := hP.sub (ws' := (List.flatten [(wMem qM k nz478 az477)] ++ List.flatten [(wSag qX k tapeX (qV 0) actsX nowX trialX (qY 0) attemptX orderSearchX routeSearchX setSearchX (qM 0) slot0X slot1X slot2X slot3X image0X image1X image2X aX), (wValley qV k vV bV cV wV aV eV), (wMem (fun i => sY 4 (i + 5)) k (fun i => (nY 4) (i + 1)) (fun i => (aY 4) (i + 2)))])) [0, 1, 2, 3, 4, 5, 6, 7, 8, 9, 10, 11, 12, 13, 14, 15, 67, 68, 69] rfl
                  have hC : [0, 1, 2, 3, 4, 5, 6, 7, 8, 9, 10, 11, 12, 13, 14, 15, 67, 68, 69].map (fun i => (List.flatten [(wMem qM k nz478 az477)] ++ List.flatten [(wSag qX k tapeX (qV 0) actsX nowX trialX (qY 0) attemptX orderSearchX routeSearchX setSearchX (qM 0) slot0X slot1X slot2X slot3X image0X image1X image2X aX), (wValley qV k vV bV cV wV aV eV), (wStoO qY k (qV 0) planY (sY 0 0) (sY 1 0) (sY 2 0) (sY 3 0) (sY 4 0) (sY 5 0) (sY 6 0) (sY 7 0)), (wState (sY 0) k (vY 0) (nY 0) (aY 0)), (wState (sY 1) k (vY 1) (nY 1) (aY 1)), (wState (sY 2) k (vY 2) (nY 2) (aY 2)), (wState (sY 3) k (vY 3) (nY 3) (aY 3)), (wState (sY 4) k (vY 4) (nY 4) (aY 4)), (wState (sY 5) k (vY 5) (nY 5) (aY 5)), (wState (sY 6) k (vY 6) (nY 6) (aY 6)), (wState (sY 7) k (vY 7) (nY 7) (aY 7))])[i]?) = (List.flatten [(wMem qM k nz478 az477)] ++ List.flatten [(wSag qX k tapeX (qV 0) actsX nowX trialX (qY 0) attemptX orderSearchX routeSearchX setSearchX (qM 0) slot0X slot1X slot2X slot3X image0X image1X image2X aX), (wValley qV k vV bV cV wV aV eV), (wMem (fun i => sY 4 (i + 5)) k (fun i => (nY 4) (i + 1)) (fun i => (aY 4) (i + 2)))]).map some := rfl
                  have hDc := hD.sub [0, 1, 2, 3, 4, 5, 6, 7, 8, 9, 10, 11, 12, 13, 14, 15, 67, 68, 69] (by decide) hC
                  have hFc := va_free hD hS hA [0, 1, 2, 3, 4, 5, 6, 7, 8, 9, 10, 11, 12, 13, 14, 15, 67, 68, 69] hC
                  refine va_calli (va_runV (As := [.ref (sY 4 5), .int xz479]) (rest := []) ⟨hx, hb, hml, hown, hts⟩ (c_X11_depthWith l dC dI k H.size qX tapeX actsX nowX trialX (qY 0) attemptX orderSearchX routeSearchX setSearchX slot0X slot1X slot2X slot3X image0X image1X image2X aX qV vV bV cV wV aV eV qM nz478 az477 (fun i => sY 4 (i + 5)) (fun i => (nY 4) (i + 1)) (fun i => (aY 4) (i + 2)) xz479 hbV hcV hwV heV hnz478 (fun i => (hnY 4) (i + 1)) (by show 0 ≤ xz479.toInt ∧ xz479.toInt ≤ 99; omega)) (cwV 2 hts (gk_V (wl_mem 14 rfl) (wl_mem 15 rfl) (wl_mem 16 rfl) (wl_mem 3 rfl) (fun w h => List.mem_cons_of_mem _ (List.mem_append_right _ (List.mem_append_right _ (List.mem_append_right _ (List.mem_append_right _ (List.mem_append_right _ (List.mem_append_right _ (List.mem_append_left _ h)))))))) wkg_c_X11_depthWith) rfl rfl rfl (by decide +kernel) ⟨Nat.le_of_ble_eq_true rfl, Nat.le_of_ble_eq_true rfl⟩) ⟨fun a U g mk q => by obtain ⟨q0, q1, qP, qK, qD⟩ := q; exact ⟨q0, q1, qP, va_K.moved (u := U) (U := U.calling g mk a) (Vm.Alike.refl U.vm) qK, qD⟩, va_recv hK hPc (ci := 11) (q0 := 3) rfl rfl, fun U hU hW => ⟨rfl, by rw [hU], by rw [hU]; exact hPc, va_K.moved hW.alike hK, hDc.weaken (fun _ _ _ _ => trivial)⟩⟩ rfl rfl hl.1 rfl (lv_room (Nat.le_of_ble_eq_true rfl)) dX11_most_50 ⟨Nat.le_of_ble_eq_true rfl, Nat.le_of_ble_eq_true rfl⟩) hS (fun q _ h => hFc q h) hFc (fun rz504 u t H1 locs ht hvm gz503 hB hz1 hk1 hS => ?_)
                  obtain ⟨nz505, az506, hnz505, hP1⟩ := hB
                  rw [ht] at hP1
                  obtain ⟨hP, hD⟩ := w_callR hP hD hk1 hP1 [0] rfl rfl (wk_mem [3, 4, 5, 6, 7, 8, 9, 10, 11, 12, 13, 14, 15, 67, 68, 69] rfl) rfl [some 0] rfl rfl
                  clear hPc hC hDc hFc hk1 hP1
                  generalize H1 = H at hP hS ⊢
                  have hP : va_P (dC, dI) vwCl (List.flatten [(wMem qM k nz505 az506)] ++ List.flatten [(wSag qX k tapeX (qV 0) actsX nowX trialX (qY 0) attemptX orderSearchX routeSearchX setSearchX (qM 0) slot0X slot1X slot2X slot3X image0X image1X image2X aX), (wValley qV k vV bV cV wV aV eV), (wStoO qY k (qV 0) planY (sY 0 0) (sY 1 0) (sY 2 0) (sY 3 0) (sY 4 0) (sY 5 0) (sY 6 0) (sY 7 0)), (wState (sY 0) k (vY 0) (nY 0) (aY 0)), (wState (sY 1) k (vY 1) (nY 1) (aY 1)), (wState (sY 2) k (vY 2) (nY 2) (aY 2)), (wState (sY 3) k (vY 3) (nY 3) (aY 3)), (wState (sY 4) k (vY 4) (nY 4) (aY 4)), (wState (sY 5) k (vY 5) (nY 5) (aY 5)), (wState (sY 6) k (vY 6) (nY 6) (aY 6)), (wState (sY 7) k (vY 7) (nY 7) (aY 7))]) H := hP
                  have hD : va_D A (List.flatten [(wMem qM k nz505 az506)] ++ List.flatten [(wSag qX k tapeX (qV 0) actsX nowX trialX (qY 0) attemptX orderSearchX routeSearchX setSearchX (qM 0) slot0X slot1X slot2X slot3X image0X image1X image2X aX), (wValley qV k vV bV cV wV aV eV), (wStoO qY k (qV 0) planY (sY 0 0) (sY 1 0) (sY 2 0) (sY 3 0) (sY 4 0) (sY 5 0) (sY 6 0) (sY 7 0)), (wState (sY 0) k (vY 0) (nY 0) (aY 0)), (wState (sY 1) k (vY 1) (nY 1) (aY 1)), (wState (sY 2) k (vY 2) (nY 2) (aY 2)), (wState (sY 3) k (vY 3) (nY 3) (aY 3)), (wState (sY 4) k (vY 4) (nY 4) (aY 4)), (wState (sY 5) k (vY 5) (nY 5) (aY 5)), (wState (sY 6) k (vY 6) (nY 6) (aY 6)), (wState (sY 7) k (vY 7) (nY 7) (aY 7))]) := hD
                  refine W.widen (k := 0) (n := 0) (Nat.le_refl 0) (Nat.le_refl 0) ?_
                  refine lv_aload_n hx hb dX11_most_53 rfl (lv_at hl 0 rfl) ?_
                  refine va_get (D := (dC, dI)) (ci := 11) (v := .ref (qV 0)) (C := RX11) (T := TX11) (N := 15) hx hb hts (fun w h => List.mem_cons_of_mem _ (List.mem_append_right _ (List.mem_append_right _ (List.mem_append_left _ h)))) hown hK hP 3 rfl rfl 1 (by decide) (hts (.fieldLink RX11 19 "SagMemory" "told" "LSagMemory$Valley;") (wl_mem 17 rfl)) (fun _ h9 => h9) rfl dX11_most_54 ?_
                  refine va_get (D := (dC, dI)) (ci := 10) (v := .ref (qV 1)) (C := RX10) (T := TX10) (N := 16) hx hb hts (fun w h => List.mem_cons_of_mem _ (List.mem_append_right _ (List.mem_append_right _ (List.mem_append_right _ (List.mem_append_right _ (List.mem_append_right _ (List.mem_append_right _ (List.mem_append_right _ (List.mem_append_left _ h))))))))) hown hK hP 8 rfl rfl 0 (by decide) (hts (.fieldLink RX11 135 "SagMemory$Valley" "holds" "[I") (wl_mem 18 rfl)) (fun _ h9 => h9) rfl dX11_most_57 ?_
                  refine lv_iload_n hx hb dX11_most_60 rfl (lv_at hl 1 rfl) ?_
                  refine va_iald hx hb hK hP 9 0 rfl rfl (vp_in_iff.mpr ⟨by omega, by omega⟩) dX11_most_61 ?_
                  refine lv_topi (fun xz507 exz507 => ?_)
                  refine lv_icmp_le (tgt := 68) hx hb dX11_most_62 (by decide) (fun cz508 => ?_) (fun cz508 => ?_)
                  · skip
                    have bz509 := fb_rng rz504
                    have bz510 := fb_rng xz507
                    have zz511 : rz504.toInt ≤ xz507.toInt := zi_le.mp cz508
                    obtain ⟨xz512, exz512⟩ : ∃ y : Int32, y = xz479 + Int32.ofInt (1) := ⟨_, rfl⟩
                    have fxz512 : xz512.toInt = xz479.toInt + (1) := by rw [exz512]; exact fb_addI (y := Int32.ofInt (1)) (by show -2147483648 ≤ xz479.toInt + (1); omega) (by show xz479.toInt + (1) < 2147483648; omega)
                    refine lv_iinc (v := xz512) (lv' := [(4, .int xz512), (0, .ref (qX 0)), (1, .int p1), (3, .ref (sY 4 0))]) hx hb dX11_most_68 hl (k := 3) rfl exz512.symm (by decide) rfl (fun ls hl => ?_)
                    refine lv_goto (tgt := 34) hx hb dX11_most_71 (by decide) ?_
                    exact ih34 H locs ls az506 nz505 xz512 (by show (2147483647 - xz512.toInt).toNat < n9_34; omega) hnz505 (by show 1 ≤ xz512.toInt; omega) hP hD hS (lv_sub hl [1, 2, 3, 0] rfl)
                  · skip
                    have bz513 := fb_rng rz504
                    have bz514 := fb_rng xz507
                    have zz515 : ¬ rz504.toInt ≤ xz507.toInt := fun h9 => cz508 (zi_le.mpr h9)
                    refine lv_iload hx hb dX11_most_65 (lv_at hl 3 rfl) ?_
                    rw [hQ]
                    exact W.iret (v := xz479) hx hb hr (fun t ht hW => ⟨⟨xz479, (), rfl, trivial, nz505, az506, hnz505, by rw [ht]; exact hP⟩, hS.F ht⟩) hS.2.2 dX11_most_67
                · skip
                  have zz516 : p1.toInt = (2 : Int) := zi_eq.mp cz487
                  refine W.eq (g2 := F0 m 47 ls [.int 2, .ref (sY 4 1), .ref (qX 0)]) (by rw [cz487]) ?_
                  refine va_aldq hx hb hK hP 63 4 rfl rfl (by unfold vp_in; decide) dX11_most_47 ?_
                  refine W.eq (g2 := F0 m 48 ls [.ref (sY 4 8), .ref (qX 0)]) rfl ?_
                  refine lv_iload hx hb dX11_most_48 (lv_at hl 3 rfl) ?_
                  have hPc := hP.sub (ws' := (List.flatten [(wMem qM k nz478 az477)] ++ List.flatten [(wSag qX k tapeX (qV 0) actsX nowX trialX (qY 0) attemptX orderSearchX routeSearchX setSearchX (qM 0) slot0X slot1X slot2X slot3X image0X image1X image2X aX), (wValley qV k vV bV cV wV aV eV), (wMem (fun i => sY 4 (i + 8)) k (fun i => (nY 4) (i + 2)) (fun i => (aY 4) (i + 4)))])) [0, 1, 2, 3, 4, 5, 6, 7, 8, 9, 10, 11, 12, 13, 14, 15, 70, 71, 72] rfl
                  have hC : [0, 1, 2, 3, 4, 5, 6, 7, 8, 9, 10, 11, 12, 13, 14, 15, 70, 71, 72].map (fun i => (List.flatten [(wMem qM k nz478 az477)] ++ List.flatten [(wSag qX k tapeX (qV 0) actsX nowX trialX (qY 0) attemptX orderSearchX routeSearchX setSearchX (qM 0) slot0X slot1X slot2X slot3X image0X image1X image2X aX), (wValley qV k vV bV cV wV aV eV), (wStoO qY k (qV 0) planY (sY 0 0) (sY 1 0) (sY 2 0) (sY 3 0) (sY 4 0) (sY 5 0) (sY 6 0) (sY 7 0)), (wState (sY 0) k (vY 0) (nY 0) (aY 0)), (wState (sY 1) k (vY 1) (nY 1) (aY 1)), (wState (sY 2) k (vY 2) (nY 2) (aY 2)), (wState (sY 3) k (vY 3) (nY 3) (aY 3)), (wState (sY 4) k (vY 4) (nY 4) (aY 4)), (wState (sY 5) k (vY 5) (nY 5) (aY 5)), (wState (sY 6) k (vY 6) (nY 6) (aY 6)), (wState (sY 7) k (vY 7) (nY 7) (aY 7))])[i]?) = (List.flatten [(wMem qM k nz478 az477)] ++ List.flatten [(wSag qX k tapeX (qV 0) actsX nowX trialX (qY 0) attemptX orderSearchX routeSearchX setSearchX (qM 0) slot0X slot1X slot2X slot3X image0X image1X image2X aX), (wValley qV k vV bV cV wV aV eV), (wMem (fun i => sY 4 (i + 8)) k (fun i => (nY 4) (i + 2)) (fun i => (aY 4) (i + 4)))]).map some := rfl
                  have hDc := hD.sub [0, 1, 2, 3, 4, 5, 6, 7, 8, 9, 10, 11, 12, 13, 14, 15, 70, 71, 72] (by decide) hC
                  have hFc := va_free hD hS hA [0, 1, 2, 3, 4, 5, 6, 7, 8, 9, 10, 11, 12, 13, 14, 15, 70, 71, 72] hC
                  refine va_calli (va_runV (As := [.ref (sY 4 8), .int xz479]) (rest := []) ⟨hx, hb, hml, hown, hts⟩ (c_X11_depthWith l dC dI k H.size qX tapeX actsX nowX trialX (qY 0) attemptX orderSearchX routeSearchX setSearchX slot0X slot1X slot2X slot3X image0X image1X image2X aX qV vV bV cV wV aV eV qM nz478 az477 (fun i => sY 4 (i + 8)) (fun i => (nY 4) (i + 2)) (fun i => (aY 4) (i + 4)) xz479 hbV hcV hwV heV hnz478 (fun i => (hnY 4) (i + 2)) (by show 0 ≤ xz479.toInt ∧ xz479.toInt ≤ 99; omega)) (cwV 2 hts (gk_V (wl_mem 14 rfl) (wl_mem 15 rfl) (wl_mem 16 rfl) (wl_mem 3 rfl) (fun w h => List.mem_cons_of_mem _ (List.mem_append_right _ (List.mem_append_right _ (List.mem_append_right _ (List.mem_append_right _ (List.mem_append_right _ (List.mem_append_right _ (List.mem_append_left _ h)))))))) wkg_c_X11_depthWith) rfl rfl rfl (by decide +kernel) ⟨Nat.le_of_ble_eq_true rfl, Nat.le_of_ble_eq_true rfl⟩) ⟨fun a U g mk q => by obtain ⟨q0, q1, qP, qK, qD⟩ := q; exact ⟨q0, q1, qP, va_K.moved (u := U) (U := U.calling g mk a) (Vm.Alike.refl U.vm) qK, qD⟩, va_recv hK hPc (ci := 11) (q0 := 3) rfl rfl, fun U hU hW => ⟨rfl, by rw [hU], by rw [hU]; exact hPc, va_K.moved hW.alike hK, hDc.weaken (fun _ _ _ _ => trivial)⟩⟩ rfl rfl hl.1 rfl (lv_room (Nat.le_of_ble_eq_true rfl)) dX11_most_50 ⟨Nat.le_of_ble_eq_true rfl, Nat.le_of_ble_eq_true rfl⟩) hS (fun q _ h => hFc q h) hFc (fun rz518 u t H1 locs ht hvm gz517 hB hz1 hk1 hS => ?_)
                  obtain ⟨nz519, az520, hnz519, hP1⟩ := hB
                  rw [ht] at hP1
                  obtain ⟨hP, hD⟩ := w_callR hP hD hk1 hP1 [0] rfl rfl (wk_mem [3, 4, 5, 6, 7, 8, 9, 10, 11, 12, 13, 14, 15, 70, 71, 72] rfl) rfl [some 0] rfl rfl
                  clear hPc hC hDc hFc hk1 hP1
                  generalize H1 = H at hP hS ⊢
                  have hP : va_P (dC, dI) vwCl (List.flatten [(wMem qM k nz519 az520)] ++ List.flatten [(wSag qX k tapeX (qV 0) actsX nowX trialX (qY 0) attemptX orderSearchX routeSearchX setSearchX (qM 0) slot0X slot1X slot2X slot3X image0X image1X image2X aX), (wValley qV k vV bV cV wV aV eV), (wStoO qY k (qV 0) planY (sY 0 0) (sY 1 0) (sY 2 0) (sY 3 0) (sY 4 0) (sY 5 0) (sY 6 0) (sY 7 0)), (wState (sY 0) k (vY 0) (nY 0) (aY 0)), (wState (sY 1) k (vY 1) (nY 1) (aY 1)), (wState (sY 2) k (vY 2) (nY 2) (aY 2)), (wState (sY 3) k (vY 3) (nY 3) (aY 3)), (wState (sY 4) k (vY 4) (nY 4) (aY 4)), (wState (sY 5) k (vY 5) (nY 5) (aY 5)), (wState (sY 6) k (vY 6) (nY 6) (aY 6)), (wState (sY 7) k (vY 7) (nY 7) (aY 7))]) H := hP
                  have hD : va_D A (List.flatten [(wMem qM k nz519 az520)] ++ List.flatten [(wSag qX k tapeX (qV 0) actsX nowX trialX (qY 0) attemptX orderSearchX routeSearchX setSearchX (qM 0) slot0X slot1X slot2X slot3X image0X image1X image2X aX), (wValley qV k vV bV cV wV aV eV), (wStoO qY k (qV 0) planY (sY 0 0) (sY 1 0) (sY 2 0) (sY 3 0) (sY 4 0) (sY 5 0) (sY 6 0) (sY 7 0)), (wState (sY 0) k (vY 0) (nY 0) (aY 0)), (wState (sY 1) k (vY 1) (nY 1) (aY 1)), (wState (sY 2) k (vY 2) (nY 2) (aY 2)), (wState (sY 3) k (vY 3) (nY 3) (aY 3)), (wState (sY 4) k (vY 4) (nY 4) (aY 4)), (wState (sY 5) k (vY 5) (nY 5) (aY 5)), (wState (sY 6) k (vY 6) (nY 6) (aY 6)), (wState (sY 7) k (vY 7) (nY 7) (aY 7))]) := hD
                  refine W.widen (k := 0) (n := 0) (Nat.le_refl 0) (Nat.le_refl 0) ?_
                  refine lv_aload_n hx hb dX11_most_53 rfl (lv_at hl 0 rfl) ?_
                  refine va_get (D := (dC, dI)) (ci := 11) (v := .ref (qV 0)) (C := RX11) (T := TX11) (N := 15) hx hb hts (fun w h => List.mem_cons_of_mem _ (List.mem_append_right _ (List.mem_append_right _ (List.mem_append_left _ h)))) hown hK hP 3 rfl rfl 1 (by decide) (hts (.fieldLink RX11 19 "SagMemory" "told" "LSagMemory$Valley;") (wl_mem 17 rfl)) (fun _ h9 => h9) rfl dX11_most_54 ?_
                  refine va_get (D := (dC, dI)) (ci := 10) (v := .ref (qV 1)) (C := RX10) (T := TX10) (N := 16) hx hb hts (fun w h => List.mem_cons_of_mem _ (List.mem_append_right _ (List.mem_append_right _ (List.mem_append_right _ (List.mem_append_right _ (List.mem_append_right _ (List.mem_append_right _ (List.mem_append_right _ (List.mem_append_left _ h))))))))) hown hK hP 8 rfl rfl 0 (by decide) (hts (.fieldLink RX11 135 "SagMemory$Valley" "holds" "[I") (wl_mem 18 rfl)) (fun _ h9 => h9) rfl dX11_most_57 ?_
                  refine lv_iload_n hx hb dX11_most_60 rfl (lv_at hl 1 rfl) ?_
                  refine va_iald hx hb hK hP 9 0 rfl rfl (vp_in_iff.mpr ⟨by omega, by omega⟩) dX11_most_61 ?_
                  refine lv_topi (fun xz521 exz521 => ?_)
                  refine lv_icmp_le (tgt := 68) hx hb dX11_most_62 (by decide) (fun cz522 => ?_) (fun cz522 => ?_)
                  · skip
                    have bz523 := fb_rng rz518
                    have bz524 := fb_rng xz521
                    have zz525 : rz518.toInt ≤ xz521.toInt := zi_le.mp cz522
                    obtain ⟨xz526, exz526⟩ : ∃ y : Int32, y = xz479 + Int32.ofInt (1) := ⟨_, rfl⟩
                    have fxz526 : xz526.toInt = xz479.toInt + (1) := by rw [exz526]; exact fb_addI (y := Int32.ofInt (1)) (by show -2147483648 ≤ xz479.toInt + (1); omega) (by show xz479.toInt + (1) < 2147483648; omega)
                    refine lv_iinc (v := xz526) (lv' := [(4, .int xz526), (0, .ref (qX 0)), (1, .int p1), (3, .ref (sY 4 0))]) hx hb dX11_most_68 hl (k := 3) rfl exz526.symm (by decide) rfl (fun ls hl => ?_)
                    refine lv_goto (tgt := 34) hx hb dX11_most_71 (by decide) ?_
                    exact ih34 H locs ls az520 nz519 xz526 (by show (2147483647 - xz526.toInt).toNat < n9_34; omega) hnz519 (by show 1 ≤ xz526.toInt; omega) hP hD hS (lv_sub hl [1, 2, 3, 0] rfl)
                  · skip
                    have bz527 := fb_rng rz518
                    have bz528 := fb_rng xz521
                    have zz529 : ¬ rz518.toInt ≤ xz521.toInt := fun h9 => cz522 (zi_le.mpr h9)
                    refine lv_iload hx hb dX11_most_65 (lv_at hl 3 rfl) ?_
                    rw [hQ]
                    exact W.iret (v := xz479) hx hb hr (fun t ht hW => ⟨⟨xz479, (), rfl, trivial, nz519, az520, hnz519, by rw [ht]; exact hP⟩, hS.F ht⟩) hS.2.2 dX11_most_67
          exact lp34_kz480 _ s.heap [] ls aM nM (1 : Int32) (Nat.lt_succ_self _) hnM (by show 1 ≤ (1 : Int); omega) hP hD hS (lv_sub hl [2, 3, 1, 0] rfl)
        · skip
          have zz530 : ¬ rz422.toInt = (0 : Int) := fun h9 => cz424 (zi_eq.mpr h9)
          refine lv_iconst (v := (-1)) hx hb dX11_most_29 (by decide) ?_
          rw [hQ]
          exact W.iret (v := (-1 : Int32)) hx hb hr (fun t ht hW => ⟨⟨(-1 : Int32), (), rfl, trivial, nM, aM, hnM, by rw [ht]; exact hP⟩, hS.F ht⟩) hS.2.2 dX11_most_30
      · skip
        have zz531 : ¬ p2.toInt < (0 : Int) := fun h9 => cz67 (zi_lt.mpr h9)
        have zz532 : ¬ (7 : Int) ≤ p2.toInt := fun h9 => cz68 (zi_le.mpr h9)
        have zz533 : p2.toInt = (4 : Int) := zi_eq.mp cz69
        refine W.eq (g2 := F0 m 20 ls [.ref (sY 5 0)]) rfl ?_
        refine lv_astore_n (lv' := [(3, .ref (sY 5 0)), (0, .ref (qX 0)), (1, .int p1), (2, .int p2)]) hx hb dX11_most_20 rfl hl (by decide) rfl (fun ls hl => ?_)
        refine lv_aload_n hx hb dX11_most_21 rfl (lv_at hl 0 rfl) ?_
        refine lv_iload_n hx hb dX11_most_22 rfl (lv_at hl 2 rfl) ?_
        have hPc := hP.sub (ws' := (List.flatten [(wState (sY 5) k (vY 5) (nY 5) (aY 5))])) [73, 74, 75, 76, 77, 78, 79, 80, 81, 82, 83] rfl
        refine vp_callSi (va_Run.run (va_runV (As := [.int p1]) (rest := []) ⟨hx, hb, hml, hown, hts⟩ (c_X7_isBroken l dC dI k (sY 5) (vY 5) (nY 5) (aY 5) p1 (hnY 5)) (cwV 1 hts (gk_V (wl_mem 9 rfl) (wl_mem 10 rfl) (wl_mem 11 rfl) (wl_mem 12 rfl) (fun w h => List.mem_cons_of_mem _ (List.mem_append_right _ (List.mem_append_right _ (List.mem_append_right _ (List.mem_append_right _ (List.mem_append_left _ h)))))) wkg_c_X7_isBroken) rfl rfl rfl (by decide +kernel) ⟨Nat.le_of_ble_eq_true rfl, Nat.le_of_ble_eq_true rfl⟩) ⟨fun a U g mk q => by obtain ⟨q0, qP, qK⟩ := q; exact ⟨q0, qP, va_K.moved (u := U) (U := U.calling g mk a) (Vm.Alike.refl U.vm) qK⟩, va_recv hK hPc (ci := 7) (q0 := 0) rfl rfl, fun U hU hW => ⟨rfl, by rw [hU]; exact hPc, va_K.moved hW.alike hK⟩⟩ rfl rfl hl.1 rfl (lv_room (Nat.le_of_ble_eq_true rfl)) dX11_most_23 ⟨Nat.le_of_ble_eq_true rfl, Nat.le_of_ble_eq_true rfl⟩)) (fun rz535 gz534 => ?_)
        clear hPc
        have pz536 := gz534
        have pz536 : rz535.toInt = 0 ∨ rz535.toInt = 1 := pz536
        refine lv_if_eq (tgt := 31) hx hb dX11_most_26 (by decide) (fun cz537 => ?_) (fun cz537 => ?_)
        · skip
          have zz538 : rz535.toInt = (0 : Int) := zi_eq.mp cz537
          refine lv_iconst (v := 1) hx hb dX11_most_31 (by decide) ?_
          refine lv_istore (lv' := [(4, .int 1), (3, .ref (sY 5 0)), (0, .ref (qX 0)), (1, .int p1), (2, .int p2)]) hx hb dX11_most_32 hl (by decide) rfl (fun ls hl => ?_)
          have lp34_kz593 : ∀ (n9_34 : Nat) (H : Heap) (locs : List Loc) (ls : Array Slot) (az590 : Nat → Nat → Int32) (nz591 : Nat → Int32) (xz592 : Int32), (2147483647 - xz592.toInt).toNat < n9_34 → Rg 0 8 nz591 → 1 ≤ xz592.toInt → va_P (dC, dI) vwCl (List.flatten [(wMem qM k nz591 az590)] ++ List.flatten [(wSag qX k tapeX (qV 0) actsX nowX trialX (qY 0) attemptX orderSearchX routeSearchX setSearchX (qM 0) slot0X slot1X slot2X slot3X image0X image1X image2X aX), (wValley qV k vV bV cV wV aV eV), (wStoO qY k (qV 0) planY (sY 0 0) (sY 1 0) (sY 2 0) (sY 3 0) (sY 4 0) (sY 5 0) (sY 6 0) (sY 7 0)), (wState (sY 0) k (vY 0) (nY 0) (aY 0)), (wState (sY 1) k (vY 1) (nY 1) (aY 1)), (wState (sY 2) k (vY 2) (nY 2) (aY 2)), (wState (sY 3) k (vY 3) (nY 3) (aY 3)), (wState (sY 4) k (vY 4) (nY 4) (aY 4)), (wState (sY 5) k (vY 5) (nY 5) (aY 5)), (wState (sY 6) k (vY 6) (nY 6) (aY 6)), (wState (sY 7) k (vY 7) (nY 7) (aY 7))]) H → va_D A (List.flatten [(wMem qM k nz591 az590)] ++ List.flatten [(wSag qX k tapeX (qV 0) actsX nowX trialX (qY 0) attemptX orderSearchX routeSearchX setSearchX (qM 0) slot0X slot1X slot2X slot3X image0X image1X image2X aX), (wValley qV k vV bV cV wV aV eV), (wStoO qY k (qV 0) planY (sY 0 0) (sY 1 0) (sY 2 0) (sY 3 0) (sY 4 0) (sY 5 0) (sY 6 0) (sY 7 0)), (wState (sY 0) k (vY 0) (nY 0) (aY 0)), (wState (sY 1) k (vY 1) (nY 1) (aY 1)), (wState (sY 2) k (vY 2) (nY 2) (aY 2)), (wState (sY 3) k (vY 3) (nY 3) (aY 3)), (wState (sY 4) k (vY 4) (nY 4) (aY 4)), (wState (sY 5) k (vY 5) (nY 5) (aY 5)), (wState (sY 6) k (vY 6) (nY 6) (aY 6)), (wState (sY 7) k (vY 7) (nY 7) (aY 7))]) → va_S A s.heap H locs → lv_has ls 5 [(0, .ref (qX 0)), (1, .int p1), (3, .ref (sY 5 0)), (4, .int xz592)] → W p l e (headSpec wk_c_X11_most ({ frames := 2, cells := 0, slots := 0, locals := 49 })).room s m ([.ref (qX 0), .int p1, .int p2] : List Value).toArray below meth c H locs 0 0 Q (F0 m 34 ls []) := by
            intro n9_34
            induction n9_34 with
            | zero => intro H locs ls az590 nz591 xz592 hm; exact absurd hm (Nat.not_lt_zero _)
            | succ n9_34 ih34 =>
              intro H locs ls az590 nz591 xz592 hm34 hnz591 jz594 hP hD hS hl
              refine lv_iload hx hb dX11_most_34 (lv_at hl 3 rfl) ?_
              refine lv_bipush (v := 99) hx hb dX11_most_36 (by decide) ?_
              refine lv_icmp_gt (tgt := 74) hx hb dX11_most_38 (by decide) (fun cz595 => ?_) (fun cz595 => ?_)
              · skip
                have bz596 := fb_rng xz592
                have zz597 : (99 : Int) < xz592.toInt := zi_lt.mp cz595
                refine lv_iconst (v := (-1)) hx hb dX11_most_74 (by decide) ?_
                rw [hQ]
                exact W.iret (v := (-1 : Int32)) hx hb hr (fun t ht hW => ⟨⟨(-1 : Int32), (), rfl, trivial, nz591, az590, hnz591, by rw [ht]; exact hP⟩, hS.F ht⟩) hS.2.2 dX11_most_75
              · skip
                have bz598 := fb_rng xz592
                have zz599 : ¬ (99 : Int) < xz592.toInt := fun h9 => cz595 (zi_lt.mpr h9)
                refine lv_aload_n hx hb dX11_most_41 rfl (lv_at hl 0 rfl) ?_
                refine lv_aload_n hx hb dX11_most_42 rfl (lv_at hl 2 rfl) ?_
                refine va_get (D := (dC, dI)) (ci := 7) (v := .ref (sY 5 1)) (C := RX7) (T := TX7) (N := 9) hx hb hts (fun w h => List.mem_cons_of_mem _ (List.mem_append_right _ (List.mem_append_right _ (List.mem_append_right _ (List.mem_append_right _ (List.mem_append_right _ (List.mem_append_left _ h))))))) hown hK hP 73 rfl rfl 0 (by decide) (hts (.fieldLink RX11 194 "SagMemory$State" "memories" "[LSagMemory$Memory;") (wl_mem 13 rfl)) (fun _ h9 => h9) rfl dX11_most_43 ?_
                refine lv_iload_n hx hb dX11_most_46 rfl (lv_at hl 1 rfl) ?_
                rcases (show p1 = 0 ∨ p1 = 1 ∨ p1 = 2 by simp only [zi_eq]; show p1.toInt = 0 ∨ p1.toInt = 1 ∨ p1.toInt = 2; omega) with cz600 | cz600 | cz600
                · skip
                  have zz601 : p1.toInt = (0 : Int) := zi_eq.mp cz600
                  refine W.eq (g2 := F0 m 47 ls [.int 0, .ref (sY 5 1), .ref (qX 0)]) (by rw [cz600]) ?_
                  refine va_aldq hx hb hK hP 74 4 rfl rfl (by unfold vp_in; decide) dX11_most_47 ?_
                  refine W.eq (g2 := F0 m 48 ls [.ref (sY 5 2), .ref (qX 0)]) rfl ?_
                  refine lv_iload hx hb dX11_most_48 (lv_at hl 3 rfl) ?_
                  have hPc := hP.sub (ws' := (List.flatten [(wMem qM k nz591 az590)] ++ List.flatten [(wSag qX k tapeX (qV 0) actsX nowX trialX (qY 0) attemptX orderSearchX routeSearchX setSearchX (qM 0) slot0X slot1X slot2X slot3X image0X image1X image2X aX), (wValley qV k vV bV cV wV aV eV), (wMem (fun i => sY 5 (i + 2)) k (nY 5) (aY 5))])) [0, 1, 2, 3, 4, 5, 6, 7, 8, 9, 10, 11, 12, 13, 14, 15, 75, 76, 77] rfl
                  have hC : [0, 1, 2, 3, 4, 5, 6, 7, 8, 9, 10, 11, 12, 13, 14, 15, 75, 76, 77].map (fun i => (List.flatten [(wMem qM k nz591 az590)] ++ List.flatten [(wSag qX k tapeX (qV 0) actsX nowX trialX (qY 0) attemptX orderSearchX routeSearchX setSearchX (qM 0) slot0X slot1X slot2X slot3X image0X image1X image2X aX), (wValley qV k vV bV cV wV aV eV), (wStoO qY k (qV 0) planY (sY 0 0) (sY 1 0) (sY 2 0) (sY 3 0) (sY 4 0) (sY 5 0) (sY 6 0) (sY 7 0)), (wState (sY 0) k (vY 0) (nY 0) (aY 0)), (wState (sY 1) k (vY 1) (nY 1) (aY 1)), (wState (sY 2) k (vY 2) (nY 2) (aY 2)), (wState (sY 3) k (vY 3) (nY 3) (aY 3)), (wState (sY 4) k (vY 4) (nY 4) (aY 4)), (wState (sY 5) k (vY 5) (nY 5) (aY 5)), (wState (sY 6) k (vY 6) (nY 6) (aY 6)), (wState (sY 7) k (vY 7) (nY 7) (aY 7))])[i]?) = (List.flatten [(wMem qM k nz591 az590)] ++ List.flatten [(wSag qX k tapeX (qV 0) actsX nowX trialX (qY 0) attemptX orderSearchX routeSearchX setSearchX (qM 0) slot0X slot1X slot2X slot3X image0X image1X image2X aX), (wValley qV k vV bV cV wV aV eV), (wMem (fun i => sY 5 (i + 2)) k (nY 5) (aY 5))]).map some := rfl
                  have hDc := hD.sub [0, 1, 2, 3, 4, 5, 6, 7, 8, 9, 10, 11, 12, 13, 14, 15, 75, 76, 77] (by decide) hC
                  have hFc := va_free hD hS hA [0, 1, 2, 3, 4, 5, 6, 7, 8, 9, 10, 11, 12, 13, 14, 15, 75, 76, 77] hC
                  refine va_calli (va_runV (As := [.ref (sY 5 2), .int xz592]) (rest := []) ⟨hx, hb, hml, hown, hts⟩ (c_X11_depthWith l dC dI k H.size qX tapeX actsX nowX trialX (qY 0) attemptX orderSearchX routeSearchX setSearchX slot0X slot1X slot2X slot3X image0X image1X image2X aX qV vV bV cV wV aV eV qM nz591 az590 (fun i => sY 5 (i + 2)) (nY 5) (aY 5) xz592 hbV hcV hwV heV hnz591 (hnY 5) (by show 0 ≤ xz592.toInt ∧ xz592.toInt ≤ 99; omega)) (cwV 2 hts (gk_V (wl_mem 14 rfl) (wl_mem 15 rfl) (wl_mem 16 rfl) (wl_mem 3 rfl) (fun w h => List.mem_cons_of_mem _ (List.mem_append_right _ (List.mem_append_right _ (List.mem_append_right _ (List.mem_append_right _ (List.mem_append_right _ (List.mem_append_right _ (List.mem_append_left _ h)))))))) wkg_c_X11_depthWith) rfl rfl rfl (by decide +kernel) ⟨Nat.le_of_ble_eq_true rfl, Nat.le_of_ble_eq_true rfl⟩) ⟨fun a U g mk q => by obtain ⟨q0, q1, qP, qK, qD⟩ := q; exact ⟨q0, q1, qP, va_K.moved (u := U) (U := U.calling g mk a) (Vm.Alike.refl U.vm) qK, qD⟩, va_recv hK hPc (ci := 11) (q0 := 3) rfl rfl, fun U hU hW => ⟨rfl, by rw [hU], by rw [hU]; exact hPc, va_K.moved hW.alike hK, hDc.weaken (fun _ _ _ _ => trivial)⟩⟩ rfl rfl hl.1 rfl (lv_room (Nat.le_of_ble_eq_true rfl)) dX11_most_50 ⟨Nat.le_of_ble_eq_true rfl, Nat.le_of_ble_eq_true rfl⟩) hS (fun q _ h => hFc q h) hFc (fun rz603 u t H1 locs ht hvm gz602 hB hz1 hk1 hS => ?_)
                  obtain ⟨nz604, az605, hnz604, hP1⟩ := hB
                  rw [ht] at hP1
                  obtain ⟨hP, hD⟩ := w_callR hP hD hk1 hP1 [0] rfl rfl (wk_mem [3, 4, 5, 6, 7, 8, 9, 10, 11, 12, 13, 14, 15, 75, 76, 77] rfl) rfl [some 0] rfl rfl
                  clear hPc hC hDc hFc hk1 hP1
                  generalize H1 = H at hP hS ⊢
                  have hP : va_P (dC, dI) vwCl (List.flatten [(wMem qM k nz604 az605)] ++ List.flatten [(wSag qX k tapeX (qV 0) actsX nowX trialX (qY 0) attemptX orderSearchX routeSearchX setSearchX (qM 0) slot0X slot1X slot2X slot3X image0X image1X image2X aX), (wValley qV k vV bV cV wV aV eV), (wStoO qY k (qV 0) planY (sY 0 0) (sY 1 0) (sY 2 0) (sY 3 0) (sY 4 0) (sY 5 0) (sY 6 0) (sY 7 0)), (wState (sY 0) k (vY 0) (nY 0) (aY 0)), (wState (sY 1) k (vY 1) (nY 1) (aY 1)), (wState (sY 2) k (vY 2) (nY 2) (aY 2)), (wState (sY 3) k (vY 3) (nY 3) (aY 3)), (wState (sY 4) k (vY 4) (nY 4) (aY 4)), (wState (sY 5) k (vY 5) (nY 5) (aY 5)), (wState (sY 6) k (vY 6) (nY 6) (aY 6)), (wState (sY 7) k (vY 7) (nY 7) (aY 7))]) H := hP
                  have hD : va_D A (List.flatten [(wMem qM k nz604 az605)] ++ List.flatten [(wSag qX k tapeX (qV 0) actsX nowX trialX (qY 0) attemptX orderSearchX routeSearchX setSearchX (qM 0) slot0X slot1X slot2X slot3X image0X image1X image2X aX), (wValley qV k vV bV cV wV aV eV), (wStoO qY k (qV 0) planY (sY 0 0) (sY 1 0) (sY 2 0) (sY 3 0) (sY 4 0) (sY 5 0) (sY 6 0) (sY 7 0)), (wState (sY 0) k (vY 0) (nY 0) (aY 0)), (wState (sY 1) k (vY 1) (nY 1) (aY 1)), (wState (sY 2) k (vY 2) (nY 2) (aY 2)), (wState (sY 3) k (vY 3) (nY 3) (aY 3)), (wState (sY 4) k (vY 4) (nY 4) (aY 4)), (wState (sY 5) k (vY 5) (nY 5) (aY 5)), (wState (sY 6) k (vY 6) (nY 6) (aY 6)), (wState (sY 7) k (vY 7) (nY 7) (aY 7))]) := hD
                  refine W.widen (k := 0) (n := 0) (Nat.le_refl 0) (Nat.le_refl 0) ?_
                  refine lv_aload_n hx hb dX11_most_53 rfl (lv_at hl 0 rfl) ?_
                  refine va_get (D := (dC, dI)) (ci := 11) (v := .ref (qV 0)) (C := RX11) (T := TX11) (N := 15) hx hb hts (fun w h => List.mem_cons_of_mem _ (List.mem_append_right _ (List.mem_append_right _ (List.mem_append_left _ h)))) hown hK hP 3 rfl rfl 1 (by decide) (hts (.fieldLink RX11 19 "SagMemory" "told" "LSagMemory$Valley;") (wl_mem 17 rfl)) (fun _ h9 => h9) rfl dX11_most_54 ?_
                  refine va_get (D := (dC, dI)) (ci := 10) (v := .ref (qV 1)) (C := RX10) (T := TX10) (N := 16) hx hb hts (fun w h => List.mem_cons_of_mem _ (List.mem_append_right _ (List.mem_append_right _ (List.mem_append_right _ (List.mem_append_right _ (List.mem_append_right _ (List.mem_append_right _ (List.mem_append_right _ (List.mem_append_left _ h))))))))) hown hK hP 8 rfl rfl 0 (by decide) (hts (.fieldLink RX11 135 "SagMemory$Valley" "holds" "[I") (wl_mem 18 rfl)) (fun _ h9 => h9) rfl dX11_most_57 ?_
                  refine lv_iload_n hx hb dX11_most_60 rfl (lv_at hl 1 rfl) ?_
                  refine va_iald hx hb hK hP 9 0 rfl rfl (vp_in_iff.mpr ⟨by omega, by omega⟩) dX11_most_61 ?_
                  refine lv_topi (fun xz606 exz606 => ?_)
                  refine lv_icmp_le (tgt := 68) hx hb dX11_most_62 (by decide) (fun cz607 => ?_) (fun cz607 => ?_)
                  · skip
                    have bz608 := fb_rng rz603
                    have bz609 := fb_rng xz606
                    have zz610 : rz603.toInt ≤ xz606.toInt := zi_le.mp cz607
                    obtain ⟨xz611, exz611⟩ : ∃ y : Int32, y = xz592 + Int32.ofInt (1) := ⟨_, rfl⟩
                    have fxz611 : xz611.toInt = xz592.toInt + (1) := by rw [exz611]; exact fb_addI (y := Int32.ofInt (1)) (by show -2147483648 ≤ xz592.toInt + (1); omega) (by show xz592.toInt + (1) < 2147483648; omega)
                    refine lv_iinc (v := xz611) (lv' := [(4, .int xz611), (0, .ref (qX 0)), (1, .int p1), (3, .ref (sY 5 0))]) hx hb dX11_most_68 hl (k := 3) rfl exz611.symm (by decide) rfl (fun ls hl => ?_)
                    refine lv_goto (tgt := 34) hx hb dX11_most_71 (by decide) ?_
                    exact ih34 H locs ls az605 nz604 xz611 (by show (2147483647 - xz611.toInt).toNat < n9_34; omega) hnz604 (by show 1 ≤ xz611.toInt; omega) hP hD hS (lv_sub hl [1, 2, 3, 0] rfl)
                  · skip
                    have bz612 := fb_rng rz603
                    have bz613 := fb_rng xz606
                    have zz614 : ¬ rz603.toInt ≤ xz606.toInt := fun h9 => cz607 (zi_le.mpr h9)
                    refine lv_iload hx hb dX11_most_65 (lv_at hl 3 rfl) ?_
                    rw [hQ]
                    exact W.iret (v := xz592) hx hb hr (fun t ht hW => ⟨⟨xz592, (), rfl, trivial, nz604, az605, hnz604, by rw [ht]; exact hP⟩, hS.F ht⟩) hS.2.2 dX11_most_67
                · skip
                  have zz615 : p1.toInt = (1 : Int) := zi_eq.mp cz600
                  refine W.eq (g2 := F0 m 47 ls [.int 1, .ref (sY 5 1), .ref (qX 0)]) (by rw [cz600]) ?_
                  refine va_aldq hx hb hK hP 74 4 rfl rfl (by unfold vp_in; decide) dX11_most_47 ?_
                  refine W.eq (g2 := F0 m 48 ls [.ref (sY 5 5), .ref (qX 0)]) rfl ?_
                  refine lv_iload hx hb dX11_most_48 (lv_at hl 3 rfl) ?_
                  have hPc := hP.sub (ws' := (List.flatten [(wMem qM k nz591 az590)] ++ List.flatten [(wSag qX k tapeX (qV 0) actsX nowX trialX (qY 0) attemptX orderSearchX routeSearchX setSearchX (qM 0) slot0X slot1X slot2X slot3X image0X image1X image2X aX), (wValley qV k vV bV cV wV aV eV), (wMem (fun i => sY 5 (i + 5)) k (fun i => (nY 5) (i + 1)) (fun i => (aY 5) (i + 2)))])) [0, 1, 2, 3, 4, 5, 6, 7, 8, 9, 10, 11, 12, 13, 14, 15, 78, 79, 80] rfl
                  have hC : [0, 1, 2, 3, 4, 5, 6, 7, 8, 9, 10, 11, 12, 13, 14, 15, 78, 79, 80].map (fun i => (List.flatten [(wMem qM k nz591 az590)] ++ List.flatten [(wSag qX k tapeX (qV 0) actsX nowX trialX (qY 0) attemptX orderSearchX routeSearchX setSearchX (qM 0) slot0X slot1X slot2X slot3X image0X image1X image2X aX), (wValley qV k vV bV cV wV aV eV), (wStoO qY k (qV 0) planY (sY 0 0) (sY 1 0) (sY 2 0) (sY 3 0) (sY 4 0) (sY 5 0) (sY 6 0) (sY 7 0)), (wState (sY 0) k (vY 0) (nY 0) (aY 0)), (wState (sY 1) k (vY 1) (nY 1) (aY 1)), (wState (sY 2) k (vY 2) (nY 2) (aY 2)), (wState (sY 3) k (vY 3) (nY 3) (aY 3)), (wState (sY 4) k (vY 4) (nY 4) (aY 4)), (wState (sY 5) k (vY 5) (nY 5) (aY 5)), (wState (sY 6) k (vY 6) (nY 6) (aY 6)), (wState (sY 7) k (vY 7) (nY 7) (aY 7))])[i]?) = (List.flatten [(wMem qM k nz591 az590)] ++ List.flatten [(wSag qX k tapeX (qV 0) actsX nowX trialX (qY 0) attemptX orderSearchX routeSearchX setSearchX (qM 0) slot0X slot1X slot2X slot3X image0X image1X image2X aX), (wValley qV k vV bV cV wV aV eV), (wMem (fun i => sY 5 (i + 5)) k (fun i => (nY 5) (i + 1)) (fun i => (aY 5) (i + 2)))]).map some := rfl
                  have hDc := hD.sub [0, 1, 2, 3, 4, 5, 6, 7, 8, 9, 10, 11, 12, 13, 14, 15, 78, 79, 80] (by decide) hC
                  have hFc := va_free hD hS hA [0, 1, 2, 3, 4, 5, 6, 7, 8, 9, 10, 11, 12, 13, 14, 15, 78, 79, 80] hC
                  refine va_calli (va_runV (As := [.ref (sY 5 5), .int xz592]) (rest := []) ⟨hx, hb, hml, hown, hts⟩ (c_X11_depthWith l dC dI k H.size qX tapeX actsX nowX trialX (qY 0) attemptX orderSearchX routeSearchX setSearchX slot0X slot1X slot2X slot3X image0X image1X image2X aX qV vV bV cV wV aV eV qM nz591 az590 (fun i => sY 5 (i + 5)) (fun i => (nY 5) (i + 1)) (fun i => (aY 5) (i + 2)) xz592 hbV hcV hwV heV hnz591 (fun i => (hnY 5) (i + 1)) (by show 0 ≤ xz592.toInt ∧ xz592.toInt ≤ 99; omega)) (cwV 2 hts (gk_V (wl_mem 14 rfl) (wl_mem 15 rfl) (wl_mem 16 rfl) (wl_mem 3 rfl) (fun w h => List.mem_cons_of_mem _ (List.mem_append_right _ (List.mem_append_right _ (List.mem_append_right _ (List.mem_append_right _ (List.mem_append_right _ (List.mem_append_right _ (List.mem_append_left _ h)))))))) wkg_c_X11_depthWith) rfl rfl rfl (by decide +kernel) ⟨Nat.le_of_ble_eq_true rfl, Nat.le_of_ble_eq_true rfl⟩) ⟨fun a U g mk q => by obtain ⟨q0, q1, qP, qK, qD⟩ := q; exact ⟨q0, q1, qP, va_K.moved (u := U) (U := U.calling g mk a) (Vm.Alike.refl U.vm) qK, qD⟩, va_recv hK hPc (ci := 11) (q0 := 3) rfl rfl, fun U hU hW => ⟨rfl, by rw [hU], by rw [hU]; exact hPc, va_K.moved hW.alike hK, hDc.weaken (fun _ _ _ _ => trivial)⟩⟩ rfl rfl hl.1 rfl (lv_room (Nat.le_of_ble_eq_true rfl)) dX11_most_50 ⟨Nat.le_of_ble_eq_true rfl, Nat.le_of_ble_eq_true rfl⟩) hS (fun q _ h => hFc q h) hFc (fun rz617 u t H1 locs ht hvm gz616 hB hz1 hk1 hS => ?_)
                  obtain ⟨nz618, az619, hnz618, hP1⟩ := hB
                  rw [ht] at hP1
                  obtain ⟨hP, hD⟩ := w_callR hP hD hk1 hP1 [0] rfl rfl (wk_mem [3, 4, 5, 6, 7, 8, 9, 10, 11, 12, 13, 14, 15, 78, 79, 80] rfl) rfl [some 0] rfl rfl
                  clear hPc hC hDc hFc hk1 hP1
                  generalize H1 = H at hP hS ⊢
                  have hP : va_P (dC, dI) vwCl (List.flatten [(wMem qM k nz618 az619)] ++ List.flatten [(wSag qX k tapeX (qV 0) actsX nowX trialX (qY 0) attemptX orderSearchX routeSearchX setSearchX (qM 0) slot0X slot1X slot2X slot3X image0X image1X image2X aX), (wValley qV k vV bV cV wV aV eV), (wStoO qY k (qV 0) planY (sY 0 0) (sY 1 0) (sY 2 0) (sY 3 0) (sY 4 0) (sY 5 0) (sY 6 0) (sY 7 0)), (wState (sY 0) k (vY 0) (nY 0) (aY 0)), (wState (sY 1) k (vY 1) (nY 1) (aY 1)), (wState (sY 2) k (vY 2) (nY 2) (aY 2)), (wState (sY 3) k (vY 3) (nY 3) (aY 3)), (wState (sY 4) k (vY 4) (nY 4) (aY 4)), (wState (sY 5) k (vY 5) (nY 5) (aY 5)), (wState (sY 6) k (vY 6) (nY 6) (aY 6)), (wState (sY 7) k (vY 7) (nY 7) (aY 7))]) H := hP
                  have hD : va_D A (List.flatten [(wMem qM k nz618 az619)] ++ List.flatten [(wSag qX k tapeX (qV 0) actsX nowX trialX (qY 0) attemptX orderSearchX routeSearchX setSearchX (qM 0) slot0X slot1X slot2X slot3X image0X image1X image2X aX), (wValley qV k vV bV cV wV aV eV), (wStoO qY k (qV 0) planY (sY 0 0) (sY 1 0) (sY 2 0) (sY 3 0) (sY 4 0) (sY 5 0) (sY 6 0) (sY 7 0)), (wState (sY 0) k (vY 0) (nY 0) (aY 0)), (wState (sY 1) k (vY 1) (nY 1) (aY 1)), (wState (sY 2) k (vY 2) (nY 2) (aY 2)), (wState (sY 3) k (vY 3) (nY 3) (aY 3)), (wState (sY 4) k (vY 4) (nY 4) (aY 4)), (wState (sY 5) k (vY 5) (nY 5) (aY 5)), (wState (sY 6) k (vY 6) (nY 6) (aY 6)), (wState (sY 7) k (vY 7) (nY 7) (aY 7))]) := hD
                  refine W.widen (k := 0) (n := 0) (Nat.le_refl 0) (Nat.le_refl 0) ?_
                  refine lv_aload_n hx hb dX11_most_53 rfl (lv_at hl 0 rfl) ?_
                  refine va_get (D := (dC, dI)) (ci := 11) (v := .ref (qV 0)) (C := RX11) (T := TX11) (N := 15) hx hb hts (fun w h => List.mem_cons_of_mem _ (List.mem_append_right _ (List.mem_append_right _ (List.mem_append_left _ h)))) hown hK hP 3 rfl rfl 1 (by decide) (hts (.fieldLink RX11 19 "SagMemory" "told" "LSagMemory$Valley;") (wl_mem 17 rfl)) (fun _ h9 => h9) rfl dX11_most_54 ?_
                  refine va_get (D := (dC, dI)) (ci := 10) (v := .ref (qV 1)) (C := RX10) (T := TX10) (N := 16) hx hb hts (fun w h => List.mem_cons_of_mem _ (List.mem_append_right _ (List.mem_append_right _ (List.mem_append_right _ (List.mem_append_right _ (List.mem_append_right _ (List.mem_append_right _ (List.mem_append_right _ (List.mem_append_left _ h))))))))) hown hK hP 8 rfl rfl 0 (by decide) (hts (.fieldLink RX11 135 "SagMemory$Valley" "holds" "[I") (wl_mem 18 rfl)) (fun _ h9 => h9) rfl dX11_most_57 ?_
                  refine lv_iload_n hx hb dX11_most_60 rfl (lv_at hl 1 rfl) ?_
                  refine va_iald hx hb hK hP 9 0 rfl rfl (vp_in_iff.mpr ⟨by omega, by omega⟩) dX11_most_61 ?_
                  refine lv_topi (fun xz620 exz620 => ?_)
                  refine lv_icmp_le (tgt := 68) hx hb dX11_most_62 (by decide) (fun cz621 => ?_) (fun cz621 => ?_)
                  · skip
                    have bz622 := fb_rng rz617
                    have bz623 := fb_rng xz620
                    have zz624 : rz617.toInt ≤ xz620.toInt := zi_le.mp cz621
                    obtain ⟨xz625, exz625⟩ : ∃ y : Int32, y = xz592 + Int32.ofInt (1) := ⟨_, rfl⟩
                    have fxz625 : xz625.toInt = xz592.toInt + (1) := by rw [exz625]; exact fb_addI (y := Int32.ofInt (1)) (by show -2147483648 ≤ xz592.toInt + (1); omega) (by show xz592.toInt + (1) < 2147483648; omega)
                    refine lv_iinc (v := xz625) (lv' := [(4, .int xz625), (0, .ref (qX 0)), (1, .int p1), (3, .ref (sY 5 0))]) hx hb dX11_most_68 hl (k := 3) rfl exz625.symm (by decide) rfl (fun ls hl => ?_)
                    refine lv_goto (tgt := 34) hx hb dX11_most_71 (by decide) ?_
                    exact ih34 H locs ls az619 nz618 xz625 (by show (2147483647 - xz625.toInt).toNat < n9_34; omega) hnz618 (by show 1 ≤ xz625.toInt; omega) hP hD hS (lv_sub hl [1, 2, 3, 0] rfl)
                  · skip
                    have bz626 := fb_rng rz617
                    have bz627 := fb_rng xz620
                    have zz628 : ¬ rz617.toInt ≤ xz620.toInt := fun h9 => cz621 (zi_le.mpr h9)
                    refine lv_iload hx hb dX11_most_65 (lv_at hl 3 rfl) ?_
                    rw [hQ]
                    exact W.iret (v := xz592) hx hb hr (fun t ht hW => ⟨⟨xz592, (), rfl, trivial, nz618, az619, hnz618, by rw [ht]; exact hP⟩, hS.F ht⟩) hS.2.2 dX11_most_67
                · skip
                  have zz629 : p1.toInt = (2 : Int) := zi_eq.mp cz600
                  refine W.eq (g2 := F0 m 47 ls [.int 2, .ref (sY 5 1), .ref (qX 0)]) (by rw [cz600]) ?_
                  refine va_aldq hx hb hK hP 74 4 rfl rfl (by unfold vp_in; decide) dX11_most_47 ?_
                  refine W.eq (g2 := F0 m 48 ls [.ref (sY 5 8), .ref (qX 0)]) rfl ?_
                  refine lv_iload hx hb dX11_most_48 (lv_at hl 3 rfl) ?_
                  have hPc := hP.sub (ws' := (List.flatten [(wMem qM k nz591 az590)] ++ List.flatten [(wSag qX k tapeX (qV 0) actsX nowX trialX (qY 0) attemptX orderSearchX routeSearchX setSearchX (qM 0) slot0X slot1X slot2X slot3X image0X image1X image2X aX), (wValley qV k vV bV cV wV aV eV), (wMem (fun i => sY 5 (i + 8)) k (fun i => (nY 5) (i + 2)) (fun i => (aY 5) (i + 4)))])) [0, 1, 2, 3, 4, 5, 6, 7, 8, 9, 10, 11, 12, 13, 14, 15, 81, 82, 83] rfl
                  have hC : [0, 1, 2, 3, 4, 5, 6, 7, 8, 9, 10, 11, 12, 13, 14, 15, 81, 82, 83].map (fun i => (List.flatten [(wMem qM k nz591 az590)] ++ List.flatten [(wSag qX k tapeX (qV 0) actsX nowX trialX (qY 0) attemptX orderSearchX routeSearchX setSearchX (qM 0) slot0X slot1X slot2X slot3X image0X image1X image2X aX), (wValley qV k vV bV cV wV aV eV), (wStoO qY k (qV 0) planY (sY 0 0) (sY 1 0) (sY 2 0) (sY 3 0) (sY 4 0) (sY 5 0) (sY 6 0) (sY 7 0)), (wState (sY 0) k (vY 0) (nY 0) (aY 0)), (wState (sY 1) k (vY 1) (nY 1) (aY 1)), (wState (sY 2) k (vY 2) (nY 2) (aY 2)), (wState (sY 3) k (vY 3) (nY 3) (aY 3)), (wState (sY 4) k (vY 4) (nY 4) (aY 4)), (wState (sY 5) k (vY 5) (nY 5) (aY 5)), (wState (sY 6) k (vY 6) (nY 6) (aY 6)), (wState (sY 7) k (vY 7) (nY 7) (aY 7))])[i]?) = (List.flatten [(wMem qM k nz591 az590)] ++ List.flatten [(wSag qX k tapeX (qV 0) actsX nowX trialX (qY 0) attemptX orderSearchX routeSearchX setSearchX (qM 0) slot0X slot1X slot2X slot3X image0X image1X image2X aX), (wValley qV k vV bV cV wV aV eV), (wMem (fun i => sY 5 (i + 8)) k (fun i => (nY 5) (i + 2)) (fun i => (aY 5) (i + 4)))]).map some := rfl
                  have hDc := hD.sub [0, 1, 2, 3, 4, 5, 6, 7, 8, 9, 10, 11, 12, 13, 14, 15, 81, 82, 83] (by decide) hC
                  have hFc := va_free hD hS hA [0, 1, 2, 3, 4, 5, 6, 7, 8, 9, 10, 11, 12, 13, 14, 15, 81, 82, 83] hC
                  refine va_calli (va_runV (As := [.ref (sY 5 8), .int xz592]) (rest := []) ⟨hx, hb, hml, hown, hts⟩ (c_X11_depthWith l dC dI k H.size qX tapeX actsX nowX trialX (qY 0) attemptX orderSearchX routeSearchX setSearchX slot0X slot1X slot2X slot3X image0X image1X image2X aX qV vV bV cV wV aV eV qM nz591 az590 (fun i => sY 5 (i + 8)) (fun i => (nY 5) (i + 2)) (fun i => (aY 5) (i + 4)) xz592 hbV hcV hwV heV hnz591 (fun i => (hnY 5) (i + 2)) (by show 0 ≤ xz592.toInt ∧ xz592.toInt ≤ 99; omega)) (cwV 2 hts (gk_V (wl_mem 14 rfl) (wl_mem 15 rfl) (wl_mem 16 rfl) (wl_mem 3 rfl) (fun w h => List.mem_cons_of_mem _ (List.mem_append_right _ (List.mem_append_right _ (List.mem_append_right _ (List.mem_append_right _ (List.mem_append_right _ (List.mem_append_right _ (List.mem_append_left _ h)))))))) wkg_c_X11_depthWith) rfl rfl rfl (by decide +kernel) ⟨Nat.le_of_ble_eq_true rfl, Nat.le_of_ble_eq_true rfl⟩) ⟨fun a U g mk q => by obtain ⟨q0, q1, qP, qK, qD⟩ := q; exact ⟨q0, q1, qP, va_K.moved (u := U) (U := U.calling g mk a) (Vm.Alike.refl U.vm) qK, qD⟩, va_recv hK hPc (ci := 11) (q0 := 3) rfl rfl, fun U hU hW => ⟨rfl, by rw [hU], by rw [hU]; exact hPc, va_K.moved hW.alike hK, hDc.weaken (fun _ _ _ _ => trivial)⟩⟩ rfl rfl hl.1 rfl (lv_room (Nat.le_of_ble_eq_true rfl)) dX11_most_50 ⟨Nat.le_of_ble_eq_true rfl, Nat.le_of_ble_eq_true rfl⟩) hS (fun q _ h => hFc q h) hFc (fun rz631 u t H1 locs ht hvm gz630 hB hz1 hk1 hS => ?_)
                  obtain ⟨nz632, az633, hnz632, hP1⟩ := hB
                  rw [ht] at hP1
                  obtain ⟨hP, hD⟩ := w_callR hP hD hk1 hP1 [0] rfl rfl (wk_mem [3, 4, 5, 6, 7, 8, 9, 10, 11, 12, 13, 14, 15, 81, 82, 83] rfl) rfl [some 0] rfl rfl
                  clear hPc hC hDc hFc hk1 hP1
                  generalize H1 = H at hP hS ⊢
                  have hP : va_P (dC, dI) vwCl (List.flatten [(wMem qM k nz632 az633)] ++ List.flatten [(wSag qX k tapeX (qV 0) actsX nowX trialX (qY 0) attemptX orderSearchX routeSearchX setSearchX (qM 0) slot0X slot1X slot2X slot3X image0X image1X image2X aX), (wValley qV k vV bV cV wV aV eV), (wStoO qY k (qV 0) planY (sY 0 0) (sY 1 0) (sY 2 0) (sY 3 0) (sY 4 0) (sY 5 0) (sY 6 0) (sY 7 0)), (wState (sY 0) k (vY 0) (nY 0) (aY 0)), (wState (sY 1) k (vY 1) (nY 1) (aY 1)), (wState (sY 2) k (vY 2) (nY 2) (aY 2)), (wState (sY 3) k (vY 3) (nY 3) (aY 3)), (wState (sY 4) k (vY 4) (nY 4) (aY 4)), (wState (sY 5) k (vY 5) (nY 5) (aY 5)), (wState (sY 6) k (vY 6) (nY 6) (aY 6)), (wState (sY 7) k (vY 7) (nY 7) (aY 7))]) H := hP
                  have hD : va_D A (List.flatten [(wMem qM k nz632 az633)] ++ List.flatten [(wSag qX k tapeX (qV 0) actsX nowX trialX (qY 0) attemptX orderSearchX routeSearchX setSearchX (qM 0) slot0X slot1X slot2X slot3X image0X image1X image2X aX), (wValley qV k vV bV cV wV aV eV), (wStoO qY k (qV 0) planY (sY 0 0) (sY 1 0) (sY 2 0) (sY 3 0) (sY 4 0) (sY 5 0) (sY 6 0) (sY 7 0)), (wState (sY 0) k (vY 0) (nY 0) (aY 0)), (wState (sY 1) k (vY 1) (nY 1) (aY 1)), (wState (sY 2) k (vY 2) (nY 2) (aY 2)), (wState (sY 3) k (vY 3) (nY 3) (aY 3)), (wState (sY 4) k (vY 4) (nY 4) (aY 4)), (wState (sY 5) k (vY 5) (nY 5) (aY 5)), (wState (sY 6) k (vY 6) (nY 6) (aY 6)), (wState (sY 7) k (vY 7) (nY 7) (aY 7))]) := hD
                  refine W.widen (k := 0) (n := 0) (Nat.le_refl 0) (Nat.le_refl 0) ?_
                  refine lv_aload_n hx hb dX11_most_53 rfl (lv_at hl 0 rfl) ?_
                  refine va_get (D := (dC, dI)) (ci := 11) (v := .ref (qV 0)) (C := RX11) (T := TX11) (N := 15) hx hb hts (fun w h => List.mem_cons_of_mem _ (List.mem_append_right _ (List.mem_append_right _ (List.mem_append_left _ h)))) hown hK hP 3 rfl rfl 1 (by decide) (hts (.fieldLink RX11 19 "SagMemory" "told" "LSagMemory$Valley;") (wl_mem 17 rfl)) (fun _ h9 => h9) rfl dX11_most_54 ?_
                  refine va_get (D := (dC, dI)) (ci := 10) (v := .ref (qV 1)) (C := RX10) (T := TX10) (N := 16) hx hb hts (fun w h => List.mem_cons_of_mem _ (List.mem_append_right _ (List.mem_append_right _ (List.mem_append_right _ (List.mem_append_right _ (List.mem_append_right _ (List.mem_append_right _ (List.mem_append_right _ (List.mem_append_left _ h))))))))) hown hK hP 8 rfl rfl 0 (by decide) (hts (.fieldLink RX11 135 "SagMemory$Valley" "holds" "[I") (wl_mem 18 rfl)) (fun _ h9 => h9) rfl dX11_most_57 ?_
                  refine lv_iload_n hx hb dX11_most_60 rfl (lv_at hl 1 rfl) ?_
                  refine va_iald hx hb hK hP 9 0 rfl rfl (vp_in_iff.mpr ⟨by omega, by omega⟩) dX11_most_61 ?_
                  refine lv_topi (fun xz634 exz634 => ?_)
                  refine lv_icmp_le (tgt := 68) hx hb dX11_most_62 (by decide) (fun cz635 => ?_) (fun cz635 => ?_)
                  · skip
                    have bz636 := fb_rng rz631
                    have bz637 := fb_rng xz634
                    have zz638 : rz631.toInt ≤ xz634.toInt := zi_le.mp cz635
                    obtain ⟨xz639, exz639⟩ : ∃ y : Int32, y = xz592 + Int32.ofInt (1) := ⟨_, rfl⟩
                    have fxz639 : xz639.toInt = xz592.toInt + (1) := by rw [exz639]; exact fb_addI (y := Int32.ofInt (1)) (by show -2147483648 ≤ xz592.toInt + (1); omega) (by show xz592.toInt + (1) < 2147483648; omega)
                    refine lv_iinc (v := xz639) (lv' := [(4, .int xz639), (0, .ref (qX 0)), (1, .int p1), (3, .ref (sY 5 0))]) hx hb dX11_most_68 hl (k := 3) rfl exz639.symm (by decide) rfl (fun ls hl => ?_)
                    refine lv_goto (tgt := 34) hx hb dX11_most_71 (by decide) ?_
                    exact ih34 H locs ls az633 nz632 xz639 (by show (2147483647 - xz639.toInt).toNat < n9_34; omega) hnz632 (by show 1 ≤ xz639.toInt; omega) hP hD hS (lv_sub hl [1, 2, 3, 0] rfl)
                  · skip
                    have bz640 := fb_rng rz631
                    have bz641 := fb_rng xz634
                    have zz642 : ¬ rz631.toInt ≤ xz634.toInt := fun h9 => cz635 (zi_le.mpr h9)
                    refine lv_iload hx hb dX11_most_65 (lv_at hl 3 rfl) ?_
                    rw [hQ]
                    exact W.iret (v := xz592) hx hb hr (fun t ht hW => ⟨⟨xz592, (), rfl, trivial, nz632, az633, hnz632, by rw [ht]; exact hP⟩, hS.F ht⟩) hS.2.2 dX11_most_67
          exact lp34_kz593 _ s.heap [] ls aM nM (1 : Int32) (Nat.lt_succ_self _) hnM (by show 1 ≤ (1 : Int); omega) hP hD hS (lv_sub hl [2, 3, 1, 0] rfl)
        · skip
          have zz643 : ¬ rz535.toInt = (0 : Int) := fun h9 => cz537 (zi_eq.mpr h9)
          refine lv_iconst (v := (-1)) hx hb dX11_most_29 (by decide) ?_
          rw [hQ]
          exact W.iret (v := (-1 : Int32)) hx hb hr (fun t ht hW => ⟨⟨(-1 : Int32), (), rfl, trivial, nM, aM, hnM, by rw [ht]; exact hP⟩, hS.F ht⟩) hS.2.2 dX11_most_30
      · skip
        have zz644 : ¬ p2.toInt < (0 : Int) := fun h9 => cz70 (zi_lt.mpr h9)
        have zz645 : ¬ (7 : Int) ≤ p2.toInt := fun h9 => cz71 (zi_le.mpr h9)
        have zz646 : p2.toInt = (5 : Int) := zi_eq.mp cz72
        refine W.eq (g2 := F0 m 20 ls [.ref (sY 6 0)]) rfl ?_
        refine lv_astore_n (lv' := [(3, .ref (sY 6 0)), (0, .ref (qX 0)), (1, .int p1), (2, .int p2)]) hx hb dX11_most_20 rfl hl (by decide) rfl (fun ls hl => ?_)
        refine lv_aload_n hx hb dX11_most_21 rfl (lv_at hl 0 rfl) ?_
        refine lv_iload_n hx hb dX11_most_22 rfl (lv_at hl 2 rfl) ?_
        have hPc := hP.sub (ws' := (List.flatten [(wState (sY 6) k (vY 6) (nY 6) (aY 6))])) [84, 85, 86, 87, 88, 89, 90, 91, 92, 93, 94] rfl
        refine vp_callSi (va_Run.run (va_runV (As := [.int p1]) (rest := []) ⟨hx, hb, hml, hown, hts⟩ (c_X7_isBroken l dC dI k (sY 6) (vY 6) (nY 6) (aY 6) p1 (hnY 6)) (cwV 1 hts (gk_V (wl_mem 9 rfl) (wl_mem 10 rfl) (wl_mem 11 rfl) (wl_mem 12 rfl) (fun w h => List.mem_cons_of_mem _ (List.mem_append_right _ (List.mem_append_right _ (List.mem_append_right _ (List.mem_append_right _ (List.mem_append_left _ h)))))) wkg_c_X7_isBroken) rfl rfl rfl (by decide +kernel) ⟨Nat.le_of_ble_eq_true rfl, Nat.le_of_ble_eq_true rfl⟩) ⟨fun a U g mk q => by obtain ⟨q0, qP, qK⟩ := q; exact ⟨q0, qP, va_K.moved (u := U) (U := U.calling g mk a) (Vm.Alike.refl U.vm) qK⟩, va_recv hK hPc (ci := 7) (q0 := 0) rfl rfl, fun U hU hW => ⟨rfl, by rw [hU]; exact hPc, va_K.moved hW.alike hK⟩⟩ rfl rfl hl.1 rfl (lv_room (Nat.le_of_ble_eq_true rfl)) dX11_most_23 ⟨Nat.le_of_ble_eq_true rfl, Nat.le_of_ble_eq_true rfl⟩)) (fun rz648 gz647 => ?_)
        clear hPc
        have pz649 := gz647
        have pz649 : rz648.toInt = 0 ∨ rz648.toInt = 1 := pz649
        refine lv_if_eq (tgt := 31) hx hb dX11_most_26 (by decide) (fun cz650 => ?_) (fun cz650 => ?_)
        · skip
          have zz651 : rz648.toInt = (0 : Int) := zi_eq.mp cz650
          refine lv_iconst (v := 1) hx hb dX11_most_31 (by decide) ?_
          refine lv_istore (lv' := [(4, .int 1), (3, .ref (sY 6 0)), (0, .ref (qX 0)), (1, .int p1), (2, .int p2)]) hx hb dX11_most_32 hl (by decide) rfl (fun ls hl => ?_)
          have lp34_kz706 : ∀ (n9_34 : Nat) (H : Heap) (locs : List Loc) (ls : Array Slot) (az703 : Nat → Nat → Int32) (nz704 : Nat → Int32) (xz705 : Int32), (2147483647 - xz705.toInt).toNat < n9_34 → Rg 0 8 nz704 → 1 ≤ xz705.toInt → va_P (dC, dI) vwCl (List.flatten [(wMem qM k nz704 az703)] ++ List.flatten [(wSag qX k tapeX (qV 0) actsX nowX trialX (qY 0) attemptX orderSearchX routeSearchX setSearchX (qM 0) slot0X slot1X slot2X slot3X image0X image1X image2X aX), (wValley qV k vV bV cV wV aV eV), (wStoO qY k (qV 0) planY (sY 0 0) (sY 1 0) (sY 2 0) (sY 3 0) (sY 4 0) (sY 5 0) (sY 6 0) (sY 7 0)), (wState (sY 0) k (vY 0) (nY 0) (aY 0)), (wState (sY 1) k (vY 1) (nY 1) (aY 1)), (wState (sY 2) k (vY 2) (nY 2) (aY 2)), (wState (sY 3) k (vY 3) (nY 3) (aY 3)), (wState (sY 4) k (vY 4) (nY 4) (aY 4)), (wState (sY 5) k (vY 5) (nY 5) (aY 5)), (wState (sY 6) k (vY 6) (nY 6) (aY 6)), (wState (sY 7) k (vY 7) (nY 7) (aY 7))]) H → va_D A (List.flatten [(wMem qM k nz704 az703)] ++ List.flatten [(wSag qX k tapeX (qV 0) actsX nowX trialX (qY 0) attemptX orderSearchX routeSearchX setSearchX (qM 0) slot0X slot1X slot2X slot3X image0X image1X image2X aX), (wValley qV k vV bV cV wV aV eV), (wStoO qY k (qV 0) planY (sY 0 0) (sY 1 0) (sY 2 0) (sY 3 0) (sY 4 0) (sY 5 0) (sY 6 0) (sY 7 0)), (wState (sY 0) k (vY 0) (nY 0) (aY 0)), (wState (sY 1) k (vY 1) (nY 1) (aY 1)), (wState (sY 2) k (vY 2) (nY 2) (aY 2)), (wState (sY 3) k (vY 3) (nY 3) (aY 3)), (wState (sY 4) k (vY 4) (nY 4) (aY 4)), (wState (sY 5) k (vY 5) (nY 5) (aY 5)), (wState (sY 6) k (vY 6) (nY 6) (aY 6)), (wState (sY 7) k (vY 7) (nY 7) (aY 7))]) → va_S A s.heap H locs → lv_has ls 5 [(0, .ref (qX 0)), (1, .int p1), (3, .ref (sY 6 0)), (4, .int xz705)] → W p l e (headSpec wk_c_X11_most ({ frames := 2, cells := 0, slots := 0, locals := 49 })).room s m ([.ref (qX 0), .int p1, .int p2] : List Value).toArray below meth c H locs 0 0 Q (F0 m 34 ls []) := by
            intro n9_34
            induction n9_34 with
            | zero => intro H locs ls az703 nz704 xz705 hm; exact absurd hm (Nat.not_lt_zero _)
            | succ n9_34 ih34 =>
              intro H locs ls az703 nz704 xz705 hm34 hnz704 jz707 hP hD hS hl
              refine lv_iload hx hb dX11_most_34 (lv_at hl 3 rfl) ?_
              refine lv_bipush (v := 99) hx hb dX11_most_36 (by decide) ?_
              refine lv_icmp_gt (tgt := 74) hx hb dX11_most_38 (by decide) (fun cz708 => ?_) (fun cz708 => ?_)
              · skip
                have bz709 := fb_rng xz705
                have zz710 : (99 : Int) < xz705.toInt := zi_lt.mp cz708
                refine lv_iconst (v := (-1)) hx hb dX11_most_74 (by decide) ?_
                rw [hQ]
                exact W.iret (v := (-1 : Int32)) hx hb hr (fun t ht hW => ⟨⟨(-1 : Int32), (), rfl, trivial, nz704, az703, hnz704, by rw [ht]; exact hP⟩, hS.F ht⟩) hS.2.2 dX11_most_75
              · skip
                have bz711 := fb_rng xz705
                have zz712 : ¬ (99 : Int) < xz705.toInt := fun h9 => cz708 (zi_lt.mpr h9)
                refine lv_aload_n hx hb dX11_most_41 rfl (lv_at hl 0 rfl) ?_
                refine lv_aload_n hx hb dX11_most_42 rfl (lv_at hl 2 rfl) ?_
                refine va_get (D := (dC, dI)) (ci := 7) (v := .ref (sY 6 1)) (C := RX7) (T := TX7) (N := 9) hx hb hts (fun w h => List.mem_cons_of_mem _ (List.mem_append_right _ (List.mem_append_right _ (List.mem_append_right _ (List.mem_append_right _ (List.mem_append_right _ (List.mem_append_left _ h))))))) hown hK hP 84 rfl rfl 0 (by decide) (hts (.fieldLink RX11 194 "SagMemory$State" "memories" "[LSagMemory$Memory;") (wl_mem 13 rfl)) (fun _ h9 => h9) rfl dX11_most_43 ?_
                refine lv_iload_n hx hb dX11_most_46 rfl (lv_at hl 1 rfl) ?_
                rcases (show p1 = 0 ∨ p1 = 1 ∨ p1 = 2 by simp only [zi_eq]; show p1.toInt = 0 ∨ p1.toInt = 1 ∨ p1.toInt = 2; omega) with cz713 | cz713 | cz713
                · skip
                  have zz714 : p1.toInt = (0 : Int) := zi_eq.mp cz713
                  refine W.eq (g2 := F0 m 47 ls [.int 0, .ref (sY 6 1), .ref (qX 0)]) (by rw [cz713]) ?_
                  refine va_aldq hx hb hK hP 85 4 rfl rfl (by unfold vp_in; decide) dX11_most_47 ?_
                  refine W.eq (g2 := F0 m 48 ls [.ref (sY 6 2), .ref (qX 0)]) rfl ?_
                  refine lv_iload hx hb dX11_most_48 (lv_at hl 3 rfl) ?_
                  have hPc := hP.sub (ws' := (List.flatten [(wMem qM k nz704 az703)] ++ List.flatten [(wSag qX k tapeX (qV 0) actsX nowX trialX (qY 0) attemptX orderSearchX routeSearchX setSearchX (qM 0) slot0X slot1X slot2X slot3X image0X image1X image2X aX), (wValley qV k vV bV cV wV aV eV), (wMem (fun i => sY 6 (i + 2)) k (nY 6) (aY 6))])) [0, 1, 2, 3, 4, 5, 6, 7, 8, 9, 10, 11, 12, 13, 14, 15, 86, 87, 88] rfl
                  have hC : [0, 1, 2, 3, 4, 5, 6, 7, 8, 9, 10, 11, 12, 13, 14, 15, 86, 87, 88].map (fun i => (List.flatten [(wMem qM k nz704 az703)] ++ List.flatten [(wSag qX k tapeX (qV 0) actsX nowX trialX (qY 0) attemptX orderSearchX routeSearchX setSearchX (qM 0) slot0X slot1X slot2X slot3X image0X image1X image2X aX), (wValley qV k vV bV cV wV aV eV), (wStoO qY k (qV 0) planY (sY 0 0) (sY 1 0) (sY 2 0) (sY 3 0) (sY 4 0) (sY 5 0) (sY 6 0) (sY 7 0)), (wState (sY 0) k (vY 0) (nY 0) (aY 0)), (wState (sY 1) k (vY 1) (nY 1) (aY 1)), (wState (sY 2) k (vY 2) (nY 2) (aY 2)), (wState (sY 3) k (vY 3) (nY 3) (aY 3)), (wState (sY 4) k (vY 4) (nY 4) (aY 4)), (wState (sY 5) k (vY 5) (nY 5) (aY 5)), (wState (sY 6) k (vY 6) (nY 6) (aY 6)), (wState (sY 7) k (vY 7) (nY 7) (aY 7))])[i]?) = (List.flatten [(wMem qM k nz704 az703)] ++ List.flatten [(wSag qX k tapeX (qV 0) actsX nowX trialX (qY 0) attemptX orderSearchX routeSearchX setSearchX (qM 0) slot0X slot1X slot2X slot3X image0X image1X image2X aX), (wValley qV k vV bV cV wV aV eV), (wMem (fun i => sY 6 (i + 2)) k (nY 6) (aY 6))]).map some := rfl
                  have hDc := hD.sub [0, 1, 2, 3, 4, 5, 6, 7, 8, 9, 10, 11, 12, 13, 14, 15, 86, 87, 88] (by decide) hC
                  have hFc := va_free hD hS hA [0, 1, 2, 3, 4, 5, 6, 7, 8, 9, 10, 11, 12, 13, 14, 15, 86, 87, 88] hC
                  refine va_calli (va_runV (As := [.ref (sY 6 2), .int xz705]) (rest := []) ⟨hx, hb, hml, hown, hts⟩ (c_X11_depthWith l dC dI k H.size qX tapeX actsX nowX trialX (qY 0) attemptX orderSearchX routeSearchX setSearchX slot0X slot1X slot2X slot3X image0X image1X image2X aX qV vV bV cV wV aV eV qM nz704 az703 (fun i => sY 6 (i + 2)) (nY 6) (aY 6) xz705 hbV hcV hwV heV hnz704 (hnY 6) (by show 0 ≤ xz705.toInt ∧ xz705.toInt ≤ 99; omega)) (cwV 2 hts (gk_V (wl_mem 14 rfl) (wl_mem 15 rfl) (wl_mem 16 rfl) (wl_mem 3 rfl) (fun w h => List.mem_cons_of_mem _ (List.mem_append_right _ (List.mem_append_right _ (List.mem_append_right _ (List.mem_append_right _ (List.mem_append_right _ (List.mem_append_right _ (List.mem_append_left _ h)))))))) wkg_c_X11_depthWith) rfl rfl rfl (by decide +kernel) ⟨Nat.le_of_ble_eq_true rfl, Nat.le_of_ble_eq_true rfl⟩) ⟨fun a U g mk q => by obtain ⟨q0, q1, qP, qK, qD⟩ := q; exact ⟨q0, q1, qP, va_K.moved (u := U) (U := U.calling g mk a) (Vm.Alike.refl U.vm) qK, qD⟩, va_recv hK hPc (ci := 11) (q0 := 3) rfl rfl, fun U hU hW => ⟨rfl, by rw [hU], by rw [hU]; exact hPc, va_K.moved hW.alike hK, hDc.weaken (fun _ _ _ _ => trivial)⟩⟩ rfl rfl hl.1 rfl (lv_room (Nat.le_of_ble_eq_true rfl)) dX11_most_50 ⟨Nat.le_of_ble_eq_true rfl, Nat.le_of_ble_eq_true rfl⟩) hS (fun q _ h => hFc q h) hFc (fun rz716 u t H1 locs ht hvm gz715 hB hz1 hk1 hS => ?_)
                  obtain ⟨nz717, az718, hnz717, hP1⟩ := hB
                  rw [ht] at hP1
                  obtain ⟨hP, hD⟩ := w_callR hP hD hk1 hP1 [0] rfl rfl (wk_mem [3, 4, 5, 6, 7, 8, 9, 10, 11, 12, 13, 14, 15, 86, 87, 88] rfl) rfl [some 0] rfl rfl
                  clear hPc hC hDc hFc hk1 hP1
                  generalize H1 = H at hP hS ⊢
                  have hP : va_P (dC, dI) vwCl (List.flatten [(wMem qM k nz717 az718)] ++ List.flatten [(wSag qX k tapeX (qV 0) actsX nowX trialX (qY 0) attemptX orderSearchX routeSearchX setSearchX (qM 0) slot0X slot1X slot2X slot3X image0X image1X image2X aX), (wValley qV k vV bV cV wV aV eV), (wStoO qY k (qV 0) planY (sY 0 0) (sY 1 0) (sY 2 0) (sY 3 0) (sY 4 0) (sY 5 0) (sY 6 0) (sY 7 0)), (wState (sY 0) k (vY 0) (nY 0) (aY 0)), (wState (sY 1) k (vY 1) (nY 1) (aY 1)), (wState (sY 2) k (vY 2) (nY 2) (aY 2)), (wState (sY 3) k (vY 3) (nY 3) (aY 3)), (wState (sY 4) k (vY 4) (nY 4) (aY 4)), (wState (sY 5) k (vY 5) (nY 5) (aY 5)), (wState (sY 6) k (vY 6) (nY 6) (aY 6)), (wState (sY 7) k (vY 7) (nY 7) (aY 7))]) H := hP
                  have hD : va_D A (List.flatten [(wMem qM k nz717 az718)] ++ List.flatten [(wSag qX k tapeX (qV 0) actsX nowX trialX (qY 0) attemptX orderSearchX routeSearchX setSearchX (qM 0) slot0X slot1X slot2X slot3X image0X image1X image2X aX), (wValley qV k vV bV cV wV aV eV), (wStoO qY k (qV 0) planY (sY 0 0) (sY 1 0) (sY 2 0) (sY 3 0) (sY 4 0) (sY 5 0) (sY 6 0) (sY 7 0)), (wState (sY 0) k (vY 0) (nY 0) (aY 0)), (wState (sY 1) k (vY 1) (nY 1) (aY 1)), (wState (sY 2) k (vY 2) (nY 2) (aY 2)), (wState (sY 3) k (vY 3) (nY 3) (aY 3)), (wState (sY 4) k (vY 4) (nY 4) (aY 4)), (wState (sY 5) k (vY 5) (nY 5) (aY 5)), (wState (sY 6) k (vY 6) (nY 6) (aY 6)), (wState (sY 7) k (vY 7) (nY 7) (aY 7))]) := hD
                  refine W.widen (k := 0) (n := 0) (Nat.le_refl 0) (Nat.le_refl 0) ?_
                  refine lv_aload_n hx hb dX11_most_53 rfl (lv_at hl 0 rfl) ?_
                  refine va_get (D := (dC, dI)) (ci := 11) (v := .ref (qV 0)) (C := RX11) (T := TX11) (N := 15) hx hb hts (fun w h => List.mem_cons_of_mem _ (List.mem_append_right _ (List.mem_append_right _ (List.mem_append_left _ h)))) hown hK hP 3 rfl rfl 1 (by decide) (hts (.fieldLink RX11 19 "SagMemory" "told" "LSagMemory$Valley;") (wl_mem 17 rfl)) (fun _ h9 => h9) rfl dX11_most_54 ?_
                  refine va_get (D := (dC, dI)) (ci := 10) (v := .ref (qV 1)) (C := RX10) (T := TX10) (N := 16) hx hb hts (fun w h => List.mem_cons_of_mem _ (List.mem_append_right _ (List.mem_append_right _ (List.mem_append_right _ (List.mem_append_right _ (List.mem_append_right _ (List.mem_append_right _ (List.mem_append_right _ (List.mem_append_left _ h))))))))) hown hK hP 8 rfl rfl 0 (by decide) (hts (.fieldLink RX11 135 "SagMemory$Valley" "holds" "[I") (wl_mem 18 rfl)) (fun _ h9 => h9) rfl dX11_most_57 ?_
                  refine lv_iload_n hx hb dX11_most_60 rfl (lv_at hl 1 rfl) ?_
                  refine va_iald hx hb hK hP 9 0 rfl rfl (vp_in_iff.mpr ⟨by omega, by omega⟩) dX11_most_61 ?_
                  refine lv_topi (fun xz719 exz719 => ?_)
                  refine lv_icmp_le (tgt := 68) hx hb dX11_most_62 (by decide) (fun cz720 => ?_) (fun cz720 => ?_)
                  · skip
                    have bz721 := fb_rng rz716
                    have bz722 := fb_rng xz719
                    have zz723 : rz716.toInt ≤ xz719.toInt := zi_le.mp cz720
                    obtain ⟨xz724, exz724⟩ : ∃ y : Int32, y = xz705 + Int32.ofInt (1) := ⟨_, rfl⟩
                    have fxz724 : xz724.toInt = xz705.toInt + (1) := by rw [exz724]; exact fb_addI (y := Int32.ofInt (1)) (by show -2147483648 ≤ xz705.toInt + (1); omega) (by show xz705.toInt + (1) < 2147483648; omega)
                    refine lv_iinc (v := xz724) (lv' := [(4, .int xz724), (0, .ref (qX 0)), (1, .int p1), (3, .ref (sY 6 0))]) hx hb dX11_most_68 hl (k := 3) rfl exz724.symm (by decide) rfl (fun ls hl => ?_)
                    refine lv_goto (tgt := 34) hx hb dX11_most_71 (by decide) ?_
                    exact ih34 H locs ls az718 nz717 xz724 (by show (2147483647 - xz724.toInt).toNat < n9_34; omega) hnz717 (by show 1 ≤ xz724.toInt; omega) hP hD hS (lv_sub hl [1, 2, 3, 0] rfl)
                  · skip
                    have bz725 := fb_rng rz716
                    have bz726 := fb_rng xz719
                    have zz727 : ¬ rz716.toInt ≤ xz719.toInt := fun h9 => cz720 (zi_le.mpr h9)
                    refine lv_iload hx hb dX11_most_65 (lv_at hl 3 rfl) ?_
                    rw [hQ]
                    exact W.iret (v := xz705) hx hb hr (fun t ht hW => ⟨⟨xz705, (), rfl, trivial, nz717, az718, hnz717, by rw [ht]; exact hP⟩, hS.F ht⟩) hS.2.2 dX11_most_67
                · skip
                  have zz728 : p1.toInt = (1 : Int) := zi_eq.mp cz713
                  refine W.eq (g2 := F0 m 47 ls [.int 1, .ref (sY 6 1), .ref (qX 0)]) (by rw [cz713]) ?_
                  refine va_aldq hx hb hK hP 85 4 rfl rfl (by unfold vp_in; decide) dX11_most_47 ?_
                  refine W.eq (g2 := F0 m 48 ls [.ref (sY 6 5), .ref (qX 0)]) rfl ?_
                  refine lv_iload hx hb dX11_most_48 (lv_at hl 3 rfl) ?_
                  have hPc := hP.sub (ws' := (List.flatten [(wMem qM k nz704 az703)] ++ List.flatten [(wSag qX k tapeX (qV 0) actsX nowX trialX (qY 0) attemptX orderSearchX routeSearchX setSearchX (qM 0) slot0X slot1X slot2X slot3X image0X image1X image2X aX), (wValley qV k vV bV cV wV aV eV), (wMem (fun i => sY 6 (i + 5)) k (fun i => (nY 6) (i + 1)) (fun i => (aY 6) (i + 2)))])) [0, 1, 2, 3, 4, 5, 6, 7, 8, 9, 10, 11, 12, 13, 14, 15, 89, 90, 91] rfl
                  have hC : [0, 1, 2, 3, 4, 5, 6, 7, 8, 9, 10, 11, 12, 13, 14, 15, 89, 90, 91].map (fun i => (List.flatten [(wMem qM k nz704 az703)] ++ List.flatten [(wSag qX k tapeX (qV 0) actsX nowX trialX (qY 0) attemptX orderSearchX routeSearchX setSearchX (qM 0) slot0X slot1X slot2X slot3X image0X image1X image2X aX), (wValley qV k vV bV cV wV aV eV), (wStoO qY k (qV 0) planY (sY 0 0) (sY 1 0) (sY 2 0) (sY 3 0) (sY 4 0) (sY 5 0) (sY 6 0) (sY 7 0)), (wState (sY 0) k (vY 0) (nY 0) (aY 0)), (wState (sY 1) k (vY 1) (nY 1) (aY 1)), (wState (sY 2) k (vY 2) (nY 2) (aY 2)), (wState (sY 3) k (vY 3) (nY 3) (aY 3)), (wState (sY 4) k (vY 4) (nY 4) (aY 4)), (wState (sY 5) k (vY 5) (nY 5) (aY 5)), (wState (sY 6) k (vY 6) (nY 6) (aY 6)), (wState (sY 7) k (vY 7) (nY 7) (aY 7))])[i]?) = (List.flatten [(wMem qM k nz704 az703)] ++ List.flatten [(wSag qX k tapeX (qV 0) actsX nowX trialX (qY 0) attemptX orderSearchX routeSearchX setSearchX (qM 0) slot0X slot1X slot2X slot3X image0X image1X image2X aX), (wValley qV k vV bV cV wV aV eV), (wMem (fun i => sY 6 (i + 5)) k (fun i => (nY 6) (i + 1)) (fun i => (aY 6) (i + 2)))]).map some := rfl
                  have hDc := hD.sub [0, 1, 2, 3, 4, 5, 6, 7, 8, 9, 10, 11, 12, 13, 14, 15, 89, 90, 91] (by decide) hC
                  have hFc := va_free hD hS hA [0, 1, 2, 3, 4, 5, 6, 7, 8, 9, 10, 11, 12, 13, 14, 15, 89, 90, 91] hC
                  refine va_calli (va_runV (As := [.ref (sY 6 5), .int xz705]) (rest := []) ⟨hx, hb, hml, hown, hts⟩ (c_X11_depthWith l dC dI k H.size qX tapeX actsX nowX trialX (qY 0) attemptX orderSearchX routeSearchX setSearchX slot0X slot1X slot2X slot3X image0X image1X image2X aX qV vV bV cV wV aV eV qM nz704 az703 (fun i => sY 6 (i + 5)) (fun i => (nY 6) (i + 1)) (fun i => (aY 6) (i + 2)) xz705 hbV hcV hwV heV hnz704 (fun i => (hnY 6) (i + 1)) (by show 0 ≤ xz705.toInt ∧ xz705.toInt ≤ 99; omega)) (cwV 2 hts (gk_V (wl_mem 14 rfl) (wl_mem 15 rfl) (wl_mem 16 rfl) (wl_mem 3 rfl) (fun w h => List.mem_cons_of_mem _ (List.mem_append_right _ (List.mem_append_right _ (List.mem_append_right _ (List.mem_append_right _ (List.mem_append_right _ (List.mem_append_right _ (List.mem_append_left _ h)))))))) wkg_c_X11_depthWith) rfl rfl rfl (by decide +kernel) ⟨Nat.le_of_ble_eq_true rfl, Nat.le_of_ble_eq_true rfl⟩) ⟨fun a U g mk q => by obtain ⟨q0, q1, qP, qK, qD⟩ := q; exact ⟨q0, q1, qP, va_K.moved (u := U) (U := U.calling g mk a) (Vm.Alike.refl U.vm) qK, qD⟩, va_recv hK hPc (ci := 11) (q0 := 3) rfl rfl, fun U hU hW => ⟨rfl, by rw [hU], by rw [hU]; exact hPc, va_K.moved hW.alike hK, hDc.weaken (fun _ _ _ _ => trivial)⟩⟩ rfl rfl hl.1 rfl (lv_room (Nat.le_of_ble_eq_true rfl)) dX11_most_50 ⟨Nat.le_of_ble_eq_true rfl, Nat.le_of_ble_eq_true rfl⟩) hS (fun q _ h => hFc q h) hFc (fun rz730 u t H1 locs ht hvm gz729 hB hz1 hk1 hS => ?_)
                  obtain ⟨nz731, az732, hnz731, hP1⟩ := hB
                  rw [ht] at hP1
                  obtain ⟨hP, hD⟩ := w_callR hP hD hk1 hP1 [0] rfl rfl (wk_mem [3, 4, 5, 6, 7, 8, 9, 10, 11, 12, 13, 14, 15, 89, 90, 91] rfl) rfl [some 0] rfl rfl
                  clear hPc hC hDc hFc hk1 hP1
                  generalize H1 = H at hP hS ⊢
                  have hP : va_P (dC, dI) vwCl (List.flatten [(wMem qM k nz731 az732)] ++ List.flatten [(wSag qX k tapeX (qV 0) actsX nowX trialX (qY 0) attemptX orderSearchX routeSearchX setSearchX (qM 0) slot0X slot1X slot2X slot3X image0X image1X image2X aX), (wValley qV k vV bV cV wV aV eV), (wStoO qY k (qV 0) planY (sY 0 0) (sY 1 0) (sY 2 0) (sY 3 0) (sY 4 0) (sY 5 0) (sY 6 0) (sY 7 0)), (wState (sY 0) k (vY 0) (nY 0) (aY 0)), (wState (sY 1) k (vY 1) (nY 1) (aY 1)), (wState (sY 2) k (vY 2) (nY 2) (aY 2)), (wState (sY 3) k (vY 3) (nY 3) (aY 3)), (wState (sY 4) k (vY 4) (nY 4) (aY 4)), (wState (sY 5) k (vY 5) (nY 5) (aY 5)), (wState (sY 6) k (vY 6) (nY 6) (aY 6)), (wState (sY 7) k (vY 7) (nY 7) (aY 7))]) H := hP
                  have hD : va_D A (List.flatten [(wMem qM k nz731 az732)] ++ List.flatten [(wSag qX k tapeX (qV 0) actsX nowX trialX (qY 0) attemptX orderSearchX routeSearchX setSearchX (qM 0) slot0X slot1X slot2X slot3X image0X image1X image2X aX), (wValley qV k vV bV cV wV aV eV), (wStoO qY k (qV 0) planY (sY 0 0) (sY 1 0) (sY 2 0) (sY 3 0) (sY 4 0) (sY 5 0) (sY 6 0) (sY 7 0)), (wState (sY 0) k (vY 0) (nY 0) (aY 0)), (wState (sY 1) k (vY 1) (nY 1) (aY 1)), (wState (sY 2) k (vY 2) (nY 2) (aY 2)), (wState (sY 3) k (vY 3) (nY 3) (aY 3)), (wState (sY 4) k (vY 4) (nY 4) (aY 4)), (wState (sY 5) k (vY 5) (nY 5) (aY 5)), (wState (sY 6) k (vY 6) (nY 6) (aY 6)), (wState (sY 7) k (vY 7) (nY 7) (aY 7))]) := hD
                  refine W.widen (k := 0) (n := 0) (Nat.le_refl 0) (Nat.le_refl 0) ?_
                  refine lv_aload_n hx hb dX11_most_53 rfl (lv_at hl 0 rfl) ?_
                  refine va_get (D := (dC, dI)) (ci := 11) (v := .ref (qV 0)) (C := RX11) (T := TX11) (N := 15) hx hb hts (fun w h => List.mem_cons_of_mem _ (List.mem_append_right _ (List.mem_append_right _ (List.mem_append_left _ h)))) hown hK hP 3 rfl rfl 1 (by decide) (hts (.fieldLink RX11 19 "SagMemory" "told" "LSagMemory$Valley;") (wl_mem 17 rfl)) (fun _ h9 => h9) rfl dX11_most_54 ?_
                  refine va_get (D := (dC, dI)) (ci := 10) (v := .ref (qV 1)) (C := RX10) (T := TX10) (N := 16) hx hb hts (fun w h => List.mem_cons_of_mem _ (List.mem_append_right _ (List.mem_append_right _ (List.mem_append_right _ (List.mem_append_right _ (List.mem_append_right _ (List.mem_append_right _ (List.mem_append_right _ (List.mem_append_left _ h))))))))) hown hK hP 8 rfl rfl 0 (by decide) (hts (.fieldLink RX11 135 "SagMemory$Valley" "holds" "[I") (wl_mem 18 rfl)) (fun _ h9 => h9) rfl dX11_most_57 ?_
                  refine lv_iload_n hx hb dX11_most_60 rfl (lv_at hl 1 rfl) ?_
                  refine va_iald hx hb hK hP 9 0 rfl rfl (vp_in_iff.mpr ⟨by omega, by omega⟩) dX11_most_61 ?_
                  refine lv_topi (fun xz733 exz733 => ?_)
                  refine lv_icmp_le (tgt := 68) hx hb dX11_most_62 (by decide) (fun cz734 => ?_) (fun cz734 => ?_)
                  · skip
                    have bz735 := fb_rng rz730
                    have bz736 := fb_rng xz733
                    have zz737 : rz730.toInt ≤ xz733.toInt := zi_le.mp cz734
                    obtain ⟨xz738, exz738⟩ : ∃ y : Int32, y = xz705 + Int32.ofInt (1) := ⟨_, rfl⟩
                    have fxz738 : xz738.toInt = xz705.toInt + (1) := by rw [exz738]; exact fb_addI (y := Int32.ofInt (1)) (by show -2147483648 ≤ xz705.toInt + (1); omega) (by show xz705.toInt + (1) < 2147483648; omega)
                    refine lv_iinc (v := xz738) (lv' := [(4, .int xz738), (0, .ref (qX 0)), (1, .int p1), (3, .ref (sY 6 0))]) hx hb dX11_most_68 hl (k := 3) rfl exz738.symm (by decide) rfl (fun ls hl => ?_)
                    refine lv_goto (tgt := 34) hx hb dX11_most_71 (by decide) ?_
                    exact ih34 H locs ls az732 nz731 xz738 (by show (2147483647 - xz738.toInt).toNat < n9_34; omega) hnz731 (by show 1 ≤ xz738.toInt; omega) hP hD hS (lv_sub hl [1, 2, 3, 0] rfl)
                  · skip
                    have bz739 := fb_rng rz730
                    have bz740 := fb_rng xz733
                    have zz741 : ¬ rz730.toInt ≤ xz733.toInt := fun h9 => cz734 (zi_le.mpr h9)
                    refine lv_iload hx hb dX11_most_65 (lv_at hl 3 rfl) ?_
                    rw [hQ]
                    exact W.iret (v := xz705) hx hb hr (fun t ht hW => ⟨⟨xz705, (), rfl, trivial, nz731, az732, hnz731, by rw [ht]; exact hP⟩, hS.F ht⟩) hS.2.2 dX11_most_67
                · skip
                  have zz742 : p1.toInt = (2 : Int) := zi_eq.mp cz713
                  refine W.eq (g2 := F0 m 47 ls [.int 2, .ref (sY 6 1), .ref (qX 0)]) (by rw [cz713]) ?_
                  refine va_aldq hx hb hK hP 85 4 rfl rfl (by unfold vp_in; decide) dX11_most_47 ?_
                  refine W.eq (g2 := F0 m 48 ls [.ref (sY 6 8), .ref (qX 0)]) rfl ?_
                  refine lv_iload hx hb dX11_most_48 (lv_at hl 3 rfl) ?_
                  have hPc := hP.sub (ws' := (List.flatten [(wMem qM k nz704 az703)] ++ List.flatten [(wSag qX k tapeX (qV 0) actsX nowX trialX (qY 0) attemptX orderSearchX routeSearchX setSearchX (qM 0) slot0X slot1X slot2X slot3X image0X image1X image2X aX), (wValley qV k vV bV cV wV aV eV), (wMem (fun i => sY 6 (i + 8)) k (fun i => (nY 6) (i + 2)) (fun i => (aY 6) (i + 4)))])) [0, 1, 2, 3, 4, 5, 6, 7, 8, 9, 10, 11, 12, 13, 14, 15, 92, 93, 94] rfl
                  have hC : [0, 1, 2, 3, 4, 5, 6, 7, 8, 9, 10, 11, 12, 13, 14, 15, 92, 93, 94].map (fun i => (List.flatten [(wMem qM k nz704 az703)] ++ List.flatten [(wSag qX k tapeX (qV 0) actsX nowX trialX (qY 0) attemptX orderSearchX routeSearchX setSearchX (qM 0) slot0X slot1X slot2X slot3X image0X image1X image2X aX), (wValley qV k vV bV cV wV aV eV), (wStoO qY k (qV 0) planY (sY 0 0) (sY 1 0) (sY 2 0) (sY 3 0) (sY 4 0) (sY 5 0) (sY 6 0) (sY 7 0)), (wState (sY 0) k (vY 0) (nY 0) (aY 0)), (wState (sY 1) k (vY 1) (nY 1) (aY 1)), (wState (sY 2) k (vY 2) (nY 2) (aY 2)), (wState (sY 3) k (vY 3) (nY 3) (aY 3)), (wState (sY 4) k (vY 4) (nY 4) (aY 4)), (wState (sY 5) k (vY 5) (nY 5) (aY 5)), (wState (sY 6) k (vY 6) (nY 6) (aY 6)), (wState (sY 7) k (vY 7) (nY 7) (aY 7))])[i]?) = (List.flatten [(wMem qM k nz704 az703)] ++ List.flatten [(wSag qX k tapeX (qV 0) actsX nowX trialX (qY 0) attemptX orderSearchX routeSearchX setSearchX (qM 0) slot0X slot1X slot2X slot3X image0X image1X image2X aX), (wValley qV k vV bV cV wV aV eV), (wMem (fun i => sY 6 (i + 8)) k (fun i => (nY 6) (i + 2)) (fun i => (aY 6) (i + 4)))]).map some := rfl
                  have hDc := hD.sub [0, 1, 2, 3, 4, 5, 6, 7, 8, 9, 10, 11, 12, 13, 14, 15, 92, 93, 94] (by decide) hC
                  have hFc := va_free hD hS hA [0, 1, 2, 3, 4, 5, 6, 7, 8, 9, 10, 11, 12, 13, 14, 15, 92, 93, 94] hC
                  refine va_calli (va_runV (As := [.ref (sY 6 8), .int xz705]) (rest := []) ⟨hx, hb, hml, hown, hts⟩ (c_X11_depthWith l dC dI k H.size qX tapeX actsX nowX trialX (qY 0) attemptX orderSearchX routeSearchX setSearchX slot0X slot1X slot2X slot3X image0X image1X image2X aX qV vV bV cV wV aV eV qM nz704 az703 (fun i => sY 6 (i + 8)) (fun i => (nY 6) (i + 2)) (fun i => (aY 6) (i + 4)) xz705 hbV hcV hwV heV hnz704 (fun i => (hnY 6) (i + 2)) (by show 0 ≤ xz705.toInt ∧ xz705.toInt ≤ 99; omega)) (cwV 2 hts (gk_V (wl_mem 14 rfl) (wl_mem 15 rfl) (wl_mem 16 rfl) (wl_mem 3 rfl) (fun w h => List.mem_cons_of_mem _ (List.mem_append_right _ (List.mem_append_right _ (List.mem_append_right _ (List.mem_append_right _ (List.mem_append_right _ (List.mem_append_right _ (List.mem_append_left _ h)))))))) wkg_c_X11_depthWith) rfl rfl rfl (by decide +kernel) ⟨Nat.le_of_ble_eq_true rfl, Nat.le_of_ble_eq_true rfl⟩) ⟨fun a U g mk q => by obtain ⟨q0, q1, qP, qK, qD⟩ := q; exact ⟨q0, q1, qP, va_K.moved (u := U) (U := U.calling g mk a) (Vm.Alike.refl U.vm) qK, qD⟩, va_recv hK hPc (ci := 11) (q0 := 3) rfl rfl, fun U hU hW => ⟨rfl, by rw [hU], by rw [hU]; exact hPc, va_K.moved hW.alike hK, hDc.weaken (fun _ _ _ _ => trivial)⟩⟩ rfl rfl hl.1 rfl (lv_room (Nat.le_of_ble_eq_true rfl)) dX11_most_50 ⟨Nat.le_of_ble_eq_true rfl, Nat.le_of_ble_eq_true rfl⟩) hS (fun q _ h => hFc q h) hFc (fun rz744 u t H1 locs ht hvm gz743 hB hz1 hk1 hS => ?_)
                  obtain ⟨nz745, az746, hnz745, hP1⟩ := hB
                  rw [ht] at hP1
                  obtain ⟨hP, hD⟩ := w_callR hP hD hk1 hP1 [0] rfl rfl (wk_mem [3, 4, 5, 6, 7, 8, 9, 10, 11, 12, 13, 14, 15, 92, 93, 94] rfl) rfl [some 0] rfl rfl
                  clear hPc hC hDc hFc hk1 hP1
                  generalize H1 = H at hP hS ⊢
                  have hP : va_P (dC, dI) vwCl (List.flatten [(wMem qM k nz745 az746)] ++ List.flatten [(wSag qX k tapeX (qV 0) actsX nowX trialX (qY 0) attemptX orderSearchX routeSearchX setSearchX (qM 0) slot0X slot1X slot2X slot3X image0X image1X image2X aX), (wValley qV k vV bV cV wV aV eV), (wStoO qY k (qV 0) planY (sY 0 0) (sY 1 0) (sY 2 0) (sY 3 0) (sY 4 0) (sY 5 0) (sY 6 0) (sY 7 0)), (wState (sY 0) k (vY 0) (nY 0) (aY 0)), (wState (sY 1) k (vY 1) (nY 1) (aY 1)), (wState (sY 2) k (vY 2) (nY 2) (aY 2)), (wState (sY 3) k (vY 3) (nY 3) (aY 3)), (wState (sY 4) k (vY 4) (nY 4) (aY 4)), (wState (sY 5) k (vY 5) (nY 5) (aY 5)), (wState (sY 6) k (vY 6) (nY 6) (aY 6)), (wState (sY 7) k (vY 7) (nY 7) (aY 7))]) H := hP
                  have hD : va_D A (List.flatten [(wMem qM k nz745 az746)] ++ List.flatten [(wSag qX k tapeX (qV 0) actsX nowX trialX (qY 0) attemptX orderSearchX routeSearchX setSearchX (qM 0) slot0X slot1X slot2X slot3X image0X image1X image2X aX), (wValley qV k vV bV cV wV aV eV), (wStoO qY k (qV 0) planY (sY 0 0) (sY 1 0) (sY 2 0) (sY 3 0) (sY 4 0) (sY 5 0) (sY 6 0) (sY 7 0)), (wState (sY 0) k (vY 0) (nY 0) (aY 0)), (wState (sY 1) k (vY 1) (nY 1) (aY 1)), (wState (sY 2) k (vY 2) (nY 2) (aY 2)), (wState (sY 3) k (vY 3) (nY 3) (aY 3)), (wState (sY 4) k (vY 4) (nY 4) (aY 4)), (wState (sY 5) k (vY 5) (nY 5) (aY 5)), (wState (sY 6) k (vY 6) (nY 6) (aY 6)), (wState (sY 7) k (vY 7) (nY 7) (aY 7))]) := hD
                  refine W.widen (k := 0) (n := 0) (Nat.le_refl 0) (Nat.le_refl 0) ?_
                  refine lv_aload_n hx hb dX11_most_53 rfl (lv_at hl 0 rfl) ?_
                  refine va_get (D := (dC, dI)) (ci := 11) (v := .ref (qV 0)) (C := RX11) (T := TX11) (N := 15) hx hb hts (fun w h => List.mem_cons_of_mem _ (List.mem_append_right _ (List.mem_append_right _ (List.mem_append_left _ h)))) hown hK hP 3 rfl rfl 1 (by decide) (hts (.fieldLink RX11 19 "SagMemory" "told" "LSagMemory$Valley;") (wl_mem 17 rfl)) (fun _ h9 => h9) rfl dX11_most_54 ?_
                  refine va_get (D := (dC, dI)) (ci := 10) (v := .ref (qV 1)) (C := RX10) (T := TX10) (N := 16) hx hb hts (fun w h => List.mem_cons_of_mem _ (List.mem_append_right _ (List.mem_append_right _ (List.mem_append_right _ (List.mem_append_right _ (List.mem_append_right _ (List.mem_append_right _ (List.mem_append_right _ (List.mem_append_left _ h))))))))) hown hK hP 8 rfl rfl 0 (by decide) (hts (.fieldLink RX11 135 "SagMemory$Valley" "holds" "[I") (wl_mem 18 rfl)) (fun _ h9 => h9) rfl dX11_most_57 ?_
                  refine lv_iload_n hx hb dX11_most_60 rfl (lv_at hl 1 rfl) ?_
                  refine va_iald hx hb hK hP 9 0 rfl rfl (vp_in_iff.mpr ⟨by omega, by omega⟩) dX11_most_61 ?_
                  refine lv_topi (fun xz747 exz747 => ?_)
                  refine lv_icmp_le (tgt := 68) hx hb dX11_most_62 (by decide) (fun cz748 => ?_) (fun cz748 => ?_)
                  · skip
                    have bz749 := fb_rng rz744
                    have bz750 := fb_rng xz747
                    have zz751 : rz744.toInt ≤ xz747.toInt := zi_le.mp cz748
                    obtain ⟨xz752, exz752⟩ : ∃ y : Int32, y = xz705 + Int32.ofInt (1) := ⟨_, rfl⟩
                    have fxz752 : xz752.toInt = xz705.toInt + (1) := by rw [exz752]; exact fb_addI (y := Int32.ofInt (1)) (by show -2147483648 ≤ xz705.toInt + (1); omega) (by show xz705.toInt + (1) < 2147483648; omega)
                    refine lv_iinc (v := xz752) (lv' := [(4, .int xz752), (0, .ref (qX 0)), (1, .int p1), (3, .ref (sY 6 0))]) hx hb dX11_most_68 hl (k := 3) rfl exz752.symm (by decide) rfl (fun ls hl => ?_)
                    refine lv_goto (tgt := 34) hx hb dX11_most_71 (by decide) ?_
                    exact ih34 H locs ls az746 nz745 xz752 (by show (2147483647 - xz752.toInt).toNat < n9_34; omega) hnz745 (by show 1 ≤ xz752.toInt; omega) hP hD hS (lv_sub hl [1, 2, 3, 0] rfl)
                  · skip
                    have bz753 := fb_rng rz744
                    have bz754 := fb_rng xz747
                    have zz755 : ¬ rz744.toInt ≤ xz747.toInt := fun h9 => cz748 (zi_le.mpr h9)
                    refine lv_iload hx hb dX11_most_65 (lv_at hl 3 rfl) ?_
                    rw [hQ]
                    exact W.iret (v := xz705) hx hb hr (fun t ht hW => ⟨⟨xz705, (), rfl, trivial, nz745, az746, hnz745, by rw [ht]; exact hP⟩, hS.F ht⟩) hS.2.2 dX11_most_67
          exact lp34_kz706 _ s.heap [] ls aM nM (1 : Int32) (Nat.lt_succ_self _) hnM (by show 1 ≤ (1 : Int); omega) hP hD hS (lv_sub hl [2, 3, 1, 0] rfl)
        · skip
          have zz756 : ¬ rz648.toInt = (0 : Int) := fun h9 => cz650 (zi_eq.mpr h9)
          refine lv_iconst (v := (-1)) hx hb dX11_most_29 (by decide) ?_
          rw [hQ]
          exact W.iret (v := (-1 : Int32)) hx hb hr (fun t ht hW => ⟨⟨(-1 : Int32), (), rfl, trivial, nM, aM, hnM, by rw [ht]; exact hP⟩, hS.F ht⟩) hS.2.2 dX11_most_30
      · skip
        have zz757 : ¬ p2.toInt < (0 : Int) := fun h9 => cz73 (zi_lt.mpr h9)
        have zz758 : ¬ (7 : Int) ≤ p2.toInt := fun h9 => cz74 (zi_le.mpr h9)
        have zz759 : p2.toInt = (6 : Int) := zi_eq.mp cz75
        refine W.eq (g2 := F0 m 20 ls [.ref (sY 7 0)]) rfl ?_
        refine lv_astore_n (lv' := [(3, .ref (sY 7 0)), (0, .ref (qX 0)), (1, .int p1), (2, .int p2)]) hx hb dX11_most_20 rfl hl (by decide) rfl (fun ls hl => ?_)
        refine lv_aload_n hx hb dX11_most_21 rfl (lv_at hl 0 rfl) ?_
        refine lv_iload_n hx hb dX11_most_22 rfl (lv_at hl 2 rfl) ?_
        have hPc := hP.sub (ws' := (List.flatten [(wState (sY 7) k (vY 7) (nY 7) (aY 7))])) [95, 96, 97, 98, 99, 100, 101, 102, 103, 104, 105] rfl
        refine vp_callSi (va_Run.run (va_runV (As := [.int p1]) (rest := []) ⟨hx, hb, hml, hown, hts⟩ (c_X7_isBroken l dC dI k (sY 7) (vY 7) (nY 7) (aY 7) p1 (hnY 7)) (cwV 1 hts (gk_V (wl_mem 9 rfl) (wl_mem 10 rfl) (wl_mem 11 rfl) (wl_mem 12 rfl) (fun w h => List.mem_cons_of_mem _ (List.mem_append_right _ (List.mem_append_right _ (List.mem_append_right _ (List.mem_append_right _ (List.mem_append_left _ h)))))) wkg_c_X7_isBroken) rfl rfl rfl (by decide +kernel) ⟨Nat.le_of_ble_eq_true rfl, Nat.le_of_ble_eq_true rfl⟩) ⟨fun a U g mk q => by obtain ⟨q0, qP, qK⟩ := q; exact ⟨q0, qP, va_K.moved (u := U) (U := U.calling g mk a) (Vm.Alike.refl U.vm) qK⟩, va_recv hK hPc (ci := 7) (q0 := 0) rfl rfl, fun U hU hW => ⟨rfl, by rw [hU]; exact hPc, va_K.moved hW.alike hK⟩⟩ rfl rfl hl.1 rfl (lv_room (Nat.le_of_ble_eq_true rfl)) dX11_most_23 ⟨Nat.le_of_ble_eq_true rfl, Nat.le_of_ble_eq_true rfl⟩)) (fun rz761 gz760 => ?_)
        clear hPc
        have pz762 := gz760
        have pz762 : rz761.toInt = 0 ∨ rz761.toInt = 1 := pz762
        refine lv_if_eq (tgt := 31) hx hb dX11_most_26 (by decide) (fun cz763 => ?_) (fun cz763 => ?_)
        · skip
          have zz764 : rz761.toInt = (0 : Int) := zi_eq.mp cz763
          refine lv_iconst (v := 1) hx hb dX11_most_31 (by decide) ?_
          refine lv_istore (lv' := [(4, .int 1), (3, .ref (sY 7 0)), (0, .ref (qX 0)), (1, .int p1), (2, .int p2)]) hx hb dX11_most_32 hl (by decide) rfl (fun ls hl => ?_)
          have lp34_kz819 : ∀ (n9_34 : Nat) (H : Heap) (locs : List Loc) (ls : Array Slot) (az816 : Nat → Nat → Int32) (nz817 : Nat → Int32) (xz818 : Int32), (2147483647 - xz818.toInt).toNat < n9_34 → Rg 0 8 nz817 → 1 ≤ xz818.toInt → va_P (dC, dI) vwCl (List.flatten [(wMem qM k nz817 az816)] ++ List.flatten [(wSag qX k tapeX (qV 0) actsX nowX trialX (qY 0) attemptX orderSearchX routeSearchX setSearchX (qM 0) slot0X slot1X slot2X slot3X image0X image1X image2X aX), (wValley qV k vV bV cV wV aV eV), (wStoO qY k (qV 0) planY (sY 0 0) (sY 1 0) (sY 2 0) (sY 3 0) (sY 4 0) (sY 5 0) (sY 6 0) (sY 7 0)), (wState (sY 0) k (vY 0) (nY 0) (aY 0)), (wState (sY 1) k (vY 1) (nY 1) (aY 1)), (wState (sY 2) k (vY 2) (nY 2) (aY 2)), (wState (sY 3) k (vY 3) (nY 3) (aY 3)), (wState (sY 4) k (vY 4) (nY 4) (aY 4)), (wState (sY 5) k (vY 5) (nY 5) (aY 5)), (wState (sY 6) k (vY 6) (nY 6) (aY 6)), (wState (sY 7) k (vY 7) (nY 7) (aY 7))]) H → va_D A (List.flatten [(wMem qM k nz817 az816)] ++ List.flatten [(wSag qX k tapeX (qV 0) actsX nowX trialX (qY 0) attemptX orderSearchX routeSearchX setSearchX (qM 0) slot0X slot1X slot2X slot3X image0X image1X image2X aX), (wValley qV k vV bV cV wV aV eV), (wStoO qY k (qV 0) planY (sY 0 0) (sY 1 0) (sY 2 0) (sY 3 0) (sY 4 0) (sY 5 0) (sY 6 0) (sY 7 0)), (wState (sY 0) k (vY 0) (nY 0) (aY 0)), (wState (sY 1) k (vY 1) (nY 1) (aY 1)), (wState (sY 2) k (vY 2) (nY 2) (aY 2)), (wState (sY 3) k (vY 3) (nY 3) (aY 3)), (wState (sY 4) k (vY 4) (nY 4) (aY 4)), (wState (sY 5) k (vY 5) (nY 5) (aY 5)), (wState (sY 6) k (vY 6) (nY 6) (aY 6)), (wState (sY 7) k (vY 7) (nY 7) (aY 7))]) → va_S A s.heap H locs → lv_has ls 5 [(0, .ref (qX 0)), (1, .int p1), (3, .ref (sY 7 0)), (4, .int xz818)] → W p l e (headSpec wk_c_X11_most ({ frames := 2, cells := 0, slots := 0, locals := 49 })).room s m ([.ref (qX 0), .int p1, .int p2] : List Value).toArray below meth c H locs 0 0 Q (F0 m 34 ls []) := by
            intro n9_34
            induction n9_34 with
            | zero => intro H locs ls az816 nz817 xz818 hm; exact absurd hm (Nat.not_lt_zero _)
            | succ n9_34 ih34 =>
              intro H locs ls az816 nz817 xz818 hm34 hnz817 jz820 hP hD hS hl
              refine lv_iload hx hb dX11_most_34 (lv_at hl 3 rfl) ?_
              refine lv_bipush (v := 99) hx hb dX11_most_36 (by decide) ?_
              refine lv_icmp_gt (tgt := 74) hx hb dX11_most_38 (by decide) (fun cz821 => ?_) (fun cz821 => ?_)
              · skip
                have bz822 := fb_rng xz818
                have zz823 : (99 : Int) < xz818.toInt := zi_lt.mp cz821
                refine lv_iconst (v := (-1)) hx hb dX11_most_74 (by decide) ?_
                rw [hQ]
                exact W.iret (v := (-1 : Int32)) hx hb hr (fun t ht hW => ⟨⟨(-1 : Int32), (), rfl, trivial, nz817, az816, hnz817, by rw [ht]; exact hP⟩, hS.F ht⟩) hS.2.2 dX11_most_75
              · skip
                have bz824 := fb_rng xz818
                have zz825 : ¬ (99 : Int) < xz818.toInt := fun h9 => cz821 (zi_lt.mpr h9)
                refine lv_aload_n hx hb dX11_most_41 rfl (lv_at hl 0 rfl) ?_
                refine lv_aload_n hx hb dX11_most_42 rfl (lv_at hl 2 rfl) ?_
                refine va_get (D := (dC, dI)) (ci := 7) (v := .ref (sY 7 1)) (C := RX7) (T := TX7) (N := 9) hx hb hts (fun w h => List.mem_cons_of_mem _ (List.mem_append_right _ (List.mem_append_right _ (List.mem_append_right _ (List.mem_append_right _ (List.mem_append_right _ (List.mem_append_left _ h))))))) hown hK hP 95 rfl rfl 0 (by decide) (hts (.fieldLink RX11 194 "SagMemory$State" "memories" "[LSagMemory$Memory;") (wl_mem 13 rfl)) (fun _ h9 => h9) rfl dX11_most_43 ?_
                refine lv_iload_n hx hb dX11_most_46 rfl (lv_at hl 1 rfl) ?_
                rcases (show p1 = 0 ∨ p1 = 1 ∨ p1 = 2 by simp only [zi_eq]; show p1.toInt = 0 ∨ p1.toInt = 1 ∨ p1.toInt = 2; omega) with cz826 | cz826 | cz826
                · skip
                  have zz827 : p1.toInt = (0 : Int) := zi_eq.mp cz826
                  refine W.eq (g2 := F0 m 47 ls [.int 0, .ref (sY 7 1), .ref (qX 0)]) (by rw [cz826]) ?_
                  refine va_aldq hx hb hK hP 96 4 rfl rfl (by unfold vp_in; decide) dX11_most_47 ?_
                  refine W.eq (g2 := F0 m 48 ls [.ref (sY 7 2), .ref (qX 0)]) rfl ?_
                  refine lv_iload hx hb dX11_most_48 (lv_at hl 3 rfl) ?_
                  have hPc := hP.sub (ws' := (List.flatten [(wMem qM k nz817 az816)] ++ List.flatten [(wSag qX k tapeX (qV 0) actsX nowX trialX (qY 0) attemptX orderSearchX routeSearchX setSearchX (qM 0) slot0X slot1X slot2X slot3X image0X image1X image2X aX), (wValley qV k vV bV cV wV aV eV), (wMem (fun i => sY 7 (i + 2)) k (nY 7) (aY 7))])) [0, 1, 2, 3, 4, 5, 6, 7, 8, 9, 10, 11, 12, 13, 14, 15, 97, 98, 99] rfl
                  have hC : [0, 1, 2, 3, 4, 5, 6, 7, 8, 9, 10, 11, 12, 13, 14, 15, 97, 98, 99].map (fun i => (List.flatten [(wMem qM k nz817 az816)] ++ List.flatten [(wSag qX k tapeX (qV 0) actsX nowX trialX (qY 0) attemptX orderSearchX routeSearchX setSearchX (qM 0) slot0X slot1X slot2X slot3X image0X image1X image2X aX), (wValley qV k vV bV cV wV aV eV), (wStoO qY k (qV 0) planY (sY 0 0) (sY 1 0) (sY 2 0) (sY 3 0) (sY 4 0) (sY 5 0) (sY 6 0) (sY 7 0)), (wState (sY 0) k (vY 0) (nY 0) (aY 0)), (wState (sY 1) k (vY 1) (nY 1) (aY 1)), (wState (sY 2) k (vY 2) (nY 2) (aY 2)), (wState (sY 3) k (vY 3) (nY 3) (aY 3)), (wState (sY 4) k (vY 4) (nY 4) (aY 4)), (wState (sY 5) k (vY 5) (nY 5) (aY 5)), (wState (sY 6) k (vY 6) (nY 6) (aY 6)), (wState (sY 7) k (vY 7) (nY 7) (aY 7))])[i]?) = (List.flatten [(wMem qM k nz817 az816)] ++ List.flatten [(wSag qX k tapeX (qV 0) actsX nowX trialX (qY 0) attemptX orderSearchX routeSearchX setSearchX (qM 0) slot0X slot1X slot2X slot3X image0X image1X image2X aX), (wValley qV k vV bV cV wV aV eV), (wMem (fun i => sY 7 (i + 2)) k (nY 7) (aY 7))]).map some := rfl
                  have hDc := hD.sub [0, 1, 2, 3, 4, 5, 6, 7, 8, 9, 10, 11, 12, 13, 14, 15, 97, 98, 99] (by decide) hC
                  have hFc := va_free hD hS hA [0, 1, 2, 3, 4, 5, 6, 7, 8, 9, 10, 11, 12, 13, 14, 15, 97, 98, 99] hC
                  refine va_calli (va_runV (As := [.ref (sY 7 2), .int xz818]) (rest := []) ⟨hx, hb, hml, hown, hts⟩ (c_X11_depthWith l dC dI k H.size qX tapeX actsX nowX trialX (qY 0) attemptX orderSearchX routeSearchX setSearchX slot0X slot1X slot2X slot3X image0X image1X image2X aX qV vV bV cV wV aV eV qM nz817 az816 (fun i => sY 7 (i + 2)) (nY 7) (aY 7) xz818 hbV hcV hwV heV hnz817 (hnY 7) (by show 0 ≤ xz818.toInt ∧ xz818.toInt ≤ 99; omega)) (cwV 2 hts (gk_V (wl_mem 14 rfl) (wl_mem 15 rfl) (wl_mem 16 rfl) (wl_mem 3 rfl) (fun w h => List.mem_cons_of_mem _ (List.mem_append_right _ (List.mem_append_right _ (List.mem_append_right _ (List.mem_append_right _ (List.mem_append_right _ (List.mem_append_right _ (List.mem_append_left _ h)))))))) wkg_c_X11_depthWith) rfl rfl rfl (by decide +kernel) ⟨Nat.le_of_ble_eq_true rfl, Nat.le_of_ble_eq_true rfl⟩) ⟨fun a U g mk q => by obtain ⟨q0, q1, qP, qK, qD⟩ := q; exact ⟨q0, q1, qP, va_K.moved (u := U) (U := U.calling g mk a) (Vm.Alike.refl U.vm) qK, qD⟩, va_recv hK hPc (ci := 11) (q0 := 3) rfl rfl, fun U hU hW => ⟨rfl, by rw [hU], by rw [hU]; exact hPc, va_K.moved hW.alike hK, hDc.weaken (fun _ _ _ _ => trivial)⟩⟩ rfl rfl hl.1 rfl (lv_room (Nat.le_of_ble_eq_true rfl)) dX11_most_50 ⟨Nat.le_of_ble_eq_true rfl, Nat.le_of_ble_eq_true rfl⟩) hS (fun q _ h => hFc q h) hFc (fun rz829 u t H1 locs ht hvm gz828 hB hz1 hk1 hS => ?_)
                  obtain ⟨nz830, az831, hnz830, hP1⟩ := hB
                  rw [ht] at hP1
                  obtain ⟨hP, hD⟩ := w_callR hP hD hk1 hP1 [0] rfl rfl (wk_mem [3, 4, 5, 6, 7, 8, 9, 10, 11, 12, 13, 14, 15, 97, 98, 99] rfl) rfl [some 0] rfl rfl
                  clear hPc hC hDc hFc hk1 hP1
                  generalize H1 = H at hP hS ⊢
                  have hP : va_P (dC, dI) vwCl (List.flatten [(wMem qM k nz830 az831)] ++ List.flatten [(wSag qX k tapeX (qV 0) actsX nowX trialX (qY 0) attemptX orderSearchX routeSearchX setSearchX (qM 0) slot0X slot1X slot2X slot3X image0X image1X image2X aX), (wValley qV k vV bV cV wV aV eV), (wStoO qY k (qV 0) planY (sY 0 0) (sY 1 0) (sY 2 0) (sY 3 0) (sY 4 0) (sY 5 0) (sY 6 0) (sY 7 0)), (wState (sY 0) k (vY 0) (nY 0) (aY 0)), (wState (sY 1) k (vY 1) (nY 1) (aY 1)), (wState (sY 2) k (vY 2) (nY 2) (aY 2)), (wState (sY 3) k (vY 3) (nY 3) (aY 3)), (wState (sY 4) k (vY 4) (nY 4) (aY 4)), (wState (sY 5) k (vY 5) (nY 5) (aY 5)), (wState (sY 6) k (vY 6) (nY 6) (aY 6)), (wState (sY 7) k (vY 7) (nY 7) (aY 7))]) H := hP
                  have hD : va_D A (List.flatten [(wMem qM k nz830 az831)] ++ List.flatten [(wSag qX k tapeX (qV 0) actsX nowX trialX (qY 0) attemptX orderSearchX routeSearchX setSearchX (qM 0) slot0X slot1X slot2X slot3X image0X image1X image2X aX), (wValley qV k vV bV cV wV aV eV), (wStoO qY k (qV 0) planY (sY 0 0) (sY 1 0) (sY 2 0) (sY 3 0) (sY 4 0) (sY 5 0) (sY 6 0) (sY 7 0)), (wState (sY 0) k (vY 0) (nY 0) (aY 0)), (wState (sY 1) k (vY 1) (nY 1) (aY 1)), (wState (sY 2) k (vY 2) (nY 2) (aY 2)), (wState (sY 3) k (vY 3) (nY 3) (aY 3)), (wState (sY 4) k (vY 4) (nY 4) (aY 4)), (wState (sY 5) k (vY 5) (nY 5) (aY 5)), (wState (sY 6) k (vY 6) (nY 6) (aY 6)), (wState (sY 7) k (vY 7) (nY 7) (aY 7))]) := hD
                  refine W.widen (k := 0) (n := 0) (Nat.le_refl 0) (Nat.le_refl 0) ?_
                  refine lv_aload_n hx hb dX11_most_53 rfl (lv_at hl 0 rfl) ?_
                  refine va_get (D := (dC, dI)) (ci := 11) (v := .ref (qV 0)) (C := RX11) (T := TX11) (N := 15) hx hb hts (fun w h => List.mem_cons_of_mem _ (List.mem_append_right _ (List.mem_append_right _ (List.mem_append_left _ h)))) hown hK hP 3 rfl rfl 1 (by decide) (hts (.fieldLink RX11 19 "SagMemory" "told" "LSagMemory$Valley;") (wl_mem 17 rfl)) (fun _ h9 => h9) rfl dX11_most_54 ?_
                  refine va_get (D := (dC, dI)) (ci := 10) (v := .ref (qV 1)) (C := RX10) (T := TX10) (N := 16) hx hb hts (fun w h => List.mem_cons_of_mem _ (List.mem_append_right _ (List.mem_append_right _ (List.mem_append_right _ (List.mem_append_right _ (List.mem_append_right _ (List.mem_append_right _ (List.mem_append_right _ (List.mem_append_left _ h))))))))) hown hK hP 8 rfl rfl 0 (by decide) (hts (.fieldLink RX11 135 "SagMemory$Valley" "holds" "[I") (wl_mem 18 rfl)) (fun _ h9 => h9) rfl dX11_most_57 ?_
                  refine lv_iload_n hx hb dX11_most_60 rfl (lv_at hl 1 rfl) ?_
                  refine va_iald hx hb hK hP 9 0 rfl rfl (vp_in_iff.mpr ⟨by omega, by omega⟩) dX11_most_61 ?_
                  refine lv_topi (fun xz832 exz832 => ?_)
                  refine lv_icmp_le (tgt := 68) hx hb dX11_most_62 (by decide) (fun cz833 => ?_) (fun cz833 => ?_)
                  · skip
                    have bz834 := fb_rng rz829
                    have bz835 := fb_rng xz832
                    have zz836 : rz829.toInt ≤ xz832.toInt := zi_le.mp cz833
                    obtain ⟨xz837, exz837⟩ : ∃ y : Int32, y = xz818 + Int32.ofInt (1) := ⟨_, rfl⟩
                    have fxz837 : xz837.toInt = xz818.toInt + (1) := by rw [exz837]; exact fb_addI (y := Int32.ofInt (1)) (by show -2147483648 ≤ xz818.toInt + (1); omega) (by show xz818.toInt + (1) < 2147483648; omega)
                    refine lv_iinc (v := xz837) (lv' := [(4, .int xz837), (0, .ref (qX 0)), (1, .int p1), (3, .ref (sY 7 0))]) hx hb dX11_most_68 hl (k := 3) rfl exz837.symm (by decide) rfl (fun ls hl => ?_)
                    refine lv_goto (tgt := 34) hx hb dX11_most_71 (by decide) ?_
                    exact ih34 H locs ls az831 nz830 xz837 (by show (2147483647 - xz837.toInt).toNat < n9_34; omega) hnz830 (by show 1 ≤ xz837.toInt; omega) hP hD hS (lv_sub hl [1, 2, 3, 0] rfl)
                  · skip
                    have bz838 := fb_rng rz829
                    have bz839 := fb_rng xz832
                    have zz840 : ¬ rz829.toInt ≤ xz832.toInt := fun h9 => cz833 (zi_le.mpr h9)
                    refine lv_iload hx hb dX11_most_65 (lv_at hl 3 rfl) ?_
                    rw [hQ]
                    exact W.iret (v := xz818) hx hb hr (fun t ht hW => ⟨⟨xz818, (), rfl, trivial, nz830, az831, hnz830, by rw [ht]; exact hP⟩, hS.F ht⟩) hS.2.2 dX11_most_67
                · skip
                  have zz841 : p1.toInt = (1 : Int) := zi_eq.mp cz826
                  refine W.eq (g2 := F0 m 47 ls [.int 1, .ref (sY 7 1), .ref (qX 0)]) (by rw [cz826]) ?_
                  refine va_aldq hx hb hK hP 96 4 rfl rfl (by unfold vp_in; decide) dX11_most_47 ?_
                  refine W.eq (g2 := F0 m 48 ls [.ref (sY 7 5), .ref (qX 0)]) rfl ?_
                  refine lv_iload hx hb dX11_most_48 (lv_at hl 3 rfl) ?_
                  have hPc := hP.sub (ws' := (List.flatten [(wMem qM k nz817 az816)] ++ List.flatten [(wSag qX k tapeX (qV 0) actsX nowX trialX (qY 0) attemptX orderSearchX routeSearchX setSearchX (qM 0) slot0X slot1X slot2X slot3X image0X image1X image2X aX), (wValley qV k vV bV cV wV aV eV), (wMem (fun i => sY 7 (i + 5)) k (fun i => (nY 7) (i + 1)) (fun i => (aY 7) (i + 2)))])) [0, 1, 2, 3, 4, 5, 6, 7, 8, 9, 10, 11, 12, 13, 14, 15, 100, 101, 102] rfl
                  have hC : [0, 1, 2, 3, 4, 5, 6, 7, 8, 9, 10, 11, 12, 13, 14, 15, 100, 101, 102].map (fun i => (List.flatten [(wMem qM k nz817 az816)] ++ List.flatten [(wSag qX k tapeX (qV 0) actsX nowX trialX (qY 0) attemptX orderSearchX routeSearchX setSearchX (qM 0) slot0X slot1X slot2X slot3X image0X image1X image2X aX), (wValley qV k vV bV cV wV aV eV), (wStoO qY k (qV 0) planY (sY 0 0) (sY 1 0) (sY 2 0) (sY 3 0) (sY 4 0) (sY 5 0) (sY 6 0) (sY 7 0)), (wState (sY 0) k (vY 0) (nY 0) (aY 0)), (wState (sY 1) k (vY 1) (nY 1) (aY 1)), (wState (sY 2) k (vY 2) (nY 2) (aY 2)), (wState (sY 3) k (vY 3) (nY 3) (aY 3)), (wState (sY 4) k (vY 4) (nY 4) (aY 4)), (wState (sY 5) k (vY 5) (nY 5) (aY 5)), (wState (sY 6) k (vY 6) (nY 6) (aY 6)), (wState (sY 7) k (vY 7) (nY 7) (aY 7))])[i]?) = (List.flatten [(wMem qM k nz817 az816)] ++ List.flatten [(wSag qX k tapeX (qV 0) actsX nowX trialX (qY 0) attemptX orderSearchX routeSearchX setSearchX (qM 0) slot0X slot1X slot2X slot3X image0X image1X image2X aX), (wValley qV k vV bV cV wV aV eV), (wMem (fun i => sY 7 (i + 5)) k (fun i => (nY 7) (i + 1)) (fun i => (aY 7) (i + 2)))]).map some := rfl
                  have hDc := hD.sub [0, 1, 2, 3, 4, 5, 6, 7, 8, 9, 10, 11, 12, 13, 14, 15, 100, 101, 102] (by decide) hC
                  have hFc := va_free hD hS hA [0, 1, 2, 3, 4, 5, 6, 7, 8, 9, 10, 11, 12, 13, 14, 15, 100, 101, 102] hC
                  refine va_calli (va_runV (As := [.ref (sY 7 5), .int xz818]) (rest := []) ⟨hx, hb, hml, hown, hts⟩ (c_X11_depthWith l dC dI k H.size qX tapeX actsX nowX trialX (qY 0) attemptX orderSearchX routeSearchX setSearchX slot0X slot1X slot2X slot3X image0X image1X image2X aX qV vV bV cV wV aV eV qM nz817 az816 (fun i => sY 7 (i + 5)) (fun i => (nY 7) (i + 1)) (fun i => (aY 7) (i + 2)) xz818 hbV hcV hwV heV hnz817 (fun i => (hnY 7) (i + 1)) (by show 0 ≤ xz818.toInt ∧ xz818.toInt ≤ 99; omega)) (cwV 2 hts (gk_V (wl_mem 14 rfl) (wl_mem 15 rfl) (wl_mem 16 rfl) (wl_mem 3 rfl) (fun w h => List.mem_cons_of_mem _ (List.mem_append_right _ (List.mem_append_right _ (List.mem_append_right _ (List.mem_append_right _ (List.mem_append_right _ (List.mem_append_right _ (List.mem_append_left _ h)))))))) wkg_c_X11_depthWith) rfl rfl rfl (by decide +kernel) ⟨Nat.le_of_ble_eq_true rfl, Nat.le_of_ble_eq_true rfl⟩) ⟨fun a U g mk q => by obtain ⟨q0, q1, qP, qK, qD⟩ := q; exact ⟨q0, q1, qP, va_K.moved (u := U) (U := U.calling g mk a) (Vm.Alike.refl U.vm) qK, qD⟩, va_recv hK hPc (ci := 11) (q0 := 3) rfl rfl, fun U hU hW => ⟨rfl, by rw [hU], by rw [hU]; exact hPc, va_K.moved hW.alike hK, hDc.weaken (fun _ _ _ _ => trivial)⟩⟩ rfl rfl hl.1 rfl (lv_room (Nat.le_of_ble_eq_true rfl)) dX11_most_50 ⟨Nat.le_of_ble_eq_true rfl, Nat.le_of_ble_eq_true rfl⟩) hS (fun q _ h => hFc q h) hFc (fun rz843 u t H1 locs ht hvm gz842 hB hz1 hk1 hS => ?_)
                  obtain ⟨nz844, az845, hnz844, hP1⟩ := hB
                  rw [ht] at hP1
                  obtain ⟨hP, hD⟩ := w_callR hP hD hk1 hP1 [0] rfl rfl (wk_mem [3, 4, 5, 6, 7, 8, 9, 10, 11, 12, 13, 14, 15, 100, 101, 102] rfl) rfl [some 0] rfl rfl
                  clear hPc hC hDc hFc hk1 hP1
                  generalize H1 = H at hP hS ⊢
                  have hP : va_P (dC, dI) vwCl (List.flatten [(wMem qM k nz844 az845)] ++ List.flatten [(wSag qX k tapeX (qV 0) actsX nowX trialX (qY 0) attemptX orderSearchX routeSearchX setSearchX (qM 0) slot0X slot1X slot2X slot3X image0X image1X image2X aX), (wValley qV k vV bV cV wV aV eV), (wStoO qY k (qV 0) planY (sY 0 0) (sY 1 0) (sY 2 0) (sY 3 0) (sY 4 0) (sY 5 0) (sY 6 0) (sY 7 0)), (wState (sY 0) k (vY 0) (nY 0) (aY 0)), (wState (sY 1) k (vY 1) (nY 1) (aY 1)), (wState (sY 2) k (vY 2) (nY 2) (aY 2)), (wState (sY 3) k (vY 3) (nY 3) (aY 3)), (wState (sY 4) k (vY 4) (nY 4) (aY 4)), (wState (sY 5) k (vY 5) (nY 5) (aY 5)), (wState (sY 6) k (vY 6) (nY 6) (aY 6)), (wState (sY 7) k (vY 7) (nY 7) (aY 7))]) H := hP
                  have hD : va_D A (List.flatten [(wMem qM k nz844 az845)] ++ List.flatten [(wSag qX k tapeX (qV 0) actsX nowX trialX (qY 0) attemptX orderSearchX routeSearchX setSearchX (qM 0) slot0X slot1X slot2X slot3X image0X image1X image2X aX), (wValley qV k vV bV cV wV aV eV), (wStoO qY k (qV 0) planY (sY 0 0) (sY 1 0) (sY 2 0) (sY 3 0) (sY 4 0) (sY 5 0) (sY 6 0) (sY 7 0)), (wState (sY 0) k (vY 0) (nY 0) (aY 0)), (wState (sY 1) k (vY 1) (nY 1) (aY 1)), (wState (sY 2) k (vY 2) (nY 2) (aY 2)), (wState (sY 3) k (vY 3) (nY 3) (aY 3)), (wState (sY 4) k (vY 4) (nY 4) (aY 4)), (wState (sY 5) k (vY 5) (nY 5) (aY 5)), (wState (sY 6) k (vY 6) (nY 6) (aY 6)), (wState (sY 7) k (vY 7) (nY 7) (aY 7))]) := hD
                  refine W.widen (k := 0) (n := 0) (Nat.le_refl 0) (Nat.le_refl 0) ?_
                  refine lv_aload_n hx hb dX11_most_53 rfl (lv_at hl 0 rfl) ?_
                  refine va_get (D := (dC, dI)) (ci := 11) (v := .ref (qV 0)) (C := RX11) (T := TX11) (N := 15) hx hb hts (fun w h => List.mem_cons_of_mem _ (List.mem_append_right _ (List.mem_append_right _ (List.mem_append_left _ h)))) hown hK hP 3 rfl rfl 1 (by decide) (hts (.fieldLink RX11 19 "SagMemory" "told" "LSagMemory$Valley;") (wl_mem 17 rfl)) (fun _ h9 => h9) rfl dX11_most_54 ?_
                  refine va_get (D := (dC, dI)) (ci := 10) (v := .ref (qV 1)) (C := RX10) (T := TX10) (N := 16) hx hb hts (fun w h => List.mem_cons_of_mem _ (List.mem_append_right _ (List.mem_append_right _ (List.mem_append_right _ (List.mem_append_right _ (List.mem_append_right _ (List.mem_append_right _ (List.mem_append_right _ (List.mem_append_left _ h))))))))) hown hK hP 8 rfl rfl 0 (by decide) (hts (.fieldLink RX11 135 "SagMemory$Valley" "holds" "[I") (wl_mem 18 rfl)) (fun _ h9 => h9) rfl dX11_most_57 ?_
                  refine lv_iload_n hx hb dX11_most_60 rfl (lv_at hl 1 rfl) ?_
                  refine va_iald hx hb hK hP 9 0 rfl rfl (vp_in_iff.mpr ⟨by omega, by omega⟩) dX11_most_61 ?_
                  refine lv_topi (fun xz846 exz846 => ?_)
                  refine lv_icmp_le (tgt := 68) hx hb dX11_most_62 (by decide) (fun cz847 => ?_) (fun cz847 => ?_)
                  · skip
                    have bz848 := fb_rng rz843
                    have bz849 := fb_rng xz846
                    have zz850 : rz843.toInt ≤ xz846.toInt := zi_le.mp cz847
                    obtain ⟨xz851, exz851⟩ : ∃ y : Int32, y = xz818 + Int32.ofInt (1) := ⟨_, rfl⟩
                    have fxz851 : xz851.toInt = xz818.toInt + (1) := by rw [exz851]; exact fb_addI (y := Int32.ofInt (1)) (by show -2147483648 ≤ xz818.toInt + (1); omega) (by show xz818.toInt + (1) < 2147483648; omega)
                    refine lv_iinc (v := xz851) (lv' := [(4, .int xz851), (0, .ref (qX 0)), (1, .int p1), (3, .ref (sY 7 0))]) hx hb dX11_most_68 hl (k := 3) rfl exz851.symm (by decide) rfl (fun ls hl => ?_)
                    refine lv_goto (tgt := 34) hx hb dX11_most_71 (by decide) ?_
                    exact ih34 H locs ls az845 nz844 xz851 (by show (2147483647 - xz851.toInt).toNat < n9_34; omega) hnz844 (by show 1 ≤ xz851.toInt; omega) hP hD hS (lv_sub hl [1, 2, 3, 0] rfl)
                  · skip
                    have bz852 := fb_rng rz843
                    have bz853 := fb_rng xz846
                    have zz854 : ¬ rz843.toInt ≤ xz846.toInt := fun h9 => cz847 (zi_le.mpr h9)
                    refine lv_iload hx hb dX11_most_65 (lv_at hl 3 rfl) ?_
                    rw [hQ]
                    exact W.iret (v := xz818) hx hb hr (fun t ht hW => ⟨⟨xz818, (), rfl, trivial, nz844, az845, hnz844, by rw [ht]; exact hP⟩, hS.F ht⟩) hS.2.2 dX11_most_67
                · skip
                  have zz855 : p1.toInt = (2 : Int) := zi_eq.mp cz826
                  refine W.eq (g2 := F0 m 47 ls [.int 2, .ref (sY 7 1), .ref (qX 0)]) (by rw [cz826]) ?_
                  refine va_aldq hx hb hK hP 96 4 rfl rfl (by unfold vp_in; decide) dX11_most_47 ?_
                  refine W.eq (g2 := F0 m 48 ls [.ref (sY 7 8), .ref (qX 0)]) rfl ?_
                  refine lv_iload hx hb dX11_most_48 (lv_at hl 3 rfl) ?_
                  have hPc := hP.sub (ws' := (List.flatten [(wMem qM k nz817 az816)] ++ List.flatten [(wSag qX k tapeX (qV 0) actsX nowX trialX (qY 0) attemptX orderSearchX routeSearchX setSearchX (qM 0) slot0X slot1X slot2X slot3X image0X image1X image2X aX), (wValley qV k vV bV cV wV aV eV), (wMem (fun i => sY 7 (i + 8)) k (fun i => (nY 7) (i + 2)) (fun i => (aY 7) (i + 4)))])) [0, 1, 2, 3, 4, 5, 6, 7, 8, 9, 10, 11, 12, 13, 14, 15, 103, 104, 105] rfl
                  have hC : [0, 1, 2, 3, 4, 5, 6, 7, 8, 9, 10, 11, 12, 13, 14, 15, 103, 104, 105].map (fun i => (List.flatten [(wMem qM k nz817 az816)] ++ List.flatten [(wSag qX k tapeX (qV 0) actsX nowX trialX (qY 0) attemptX orderSearchX routeSearchX setSearchX (qM 0) slot0X slot1X slot2X slot3X image0X image1X image2X aX), (wValley qV k vV bV cV wV aV eV), (wStoO qY k (qV 0) planY (sY 0 0) (sY 1 0) (sY 2 0) (sY 3 0) (sY 4 0) (sY 5 0) (sY 6 0) (sY 7 0)), (wState (sY 0) k (vY 0) (nY 0) (aY 0)), (wState (sY 1) k (vY 1) (nY 1) (aY 1)), (wState (sY 2) k (vY 2) (nY 2) (aY 2)), (wState (sY 3) k (vY 3) (nY 3) (aY 3)), (wState (sY 4) k (vY 4) (nY 4) (aY 4)), (wState (sY 5) k (vY 5) (nY 5) (aY 5)), (wState (sY 6) k (vY 6) (nY 6) (aY 6)), (wState (sY 7) k (vY 7) (nY 7) (aY 7))])[i]?) = (List.flatten [(wMem qM k nz817 az816)] ++ List.flatten [(wSag qX k tapeX (qV 0) actsX nowX trialX (qY 0) attemptX orderSearchX routeSearchX setSearchX (qM 0) slot0X slot1X slot2X slot3X image0X image1X image2X aX), (wValley qV k vV bV cV wV aV eV), (wMem (fun i => sY 7 (i + 8)) k (fun i => (nY 7) (i + 2)) (fun i => (aY 7) (i + 4)))]).map some := rfl
                  have hDc := hD.sub [0, 1, 2, 3, 4, 5, 6, 7, 8, 9, 10, 11, 12, 13, 14, 15, 103, 104, 105] (by decide) hC
                  have hFc := va_free hD hS hA [0, 1, 2, 3, 4, 5, 6, 7, 8, 9, 10, 11, 12, 13, 14, 15, 103, 104, 105] hC
                  refine va_calli (va_runV (As := [.ref (sY 7 8), .int xz818]) (rest := []) ⟨hx, hb, hml, hown, hts⟩ (c_X11_depthWith l dC dI k H.size qX tapeX actsX nowX trialX (qY 0) attemptX orderSearchX routeSearchX setSearchX slot0X slot1X slot2X slot3X image0X image1X image2X aX qV vV bV cV wV aV eV qM nz817 az816 (fun i => sY 7 (i + 8)) (fun i => (nY 7) (i + 2)) (fun i => (aY 7) (i + 4)) xz818 hbV hcV hwV heV hnz817 (fun i => (hnY 7) (i + 2)) (by show 0 ≤ xz818.toInt ∧ xz818.toInt ≤ 99; omega)) (cwV 2 hts (gk_V (wl_mem 14 rfl) (wl_mem 15 rfl) (wl_mem 16 rfl) (wl_mem 3 rfl) (fun w h => List.mem_cons_of_mem _ (List.mem_append_right _ (List.mem_append_right _ (List.mem_append_right _ (List.mem_append_right _ (List.mem_append_right _ (List.mem_append_right _ (List.mem_append_left _ h)))))))) wkg_c_X11_depthWith) rfl rfl rfl (by decide +kernel) ⟨Nat.le_of_ble_eq_true rfl, Nat.le_of_ble_eq_true rfl⟩) ⟨fun a U g mk q => by obtain ⟨q0, q1, qP, qK, qD⟩ := q; exact ⟨q0, q1, qP, va_K.moved (u := U) (U := U.calling g mk a) (Vm.Alike.refl U.vm) qK, qD⟩, va_recv hK hPc (ci := 11) (q0 := 3) rfl rfl, fun U hU hW => ⟨rfl, by rw [hU], by rw [hU]; exact hPc, va_K.moved hW.alike hK, hDc.weaken (fun _ _ _ _ => trivial)⟩⟩ rfl rfl hl.1 rfl (lv_room (Nat.le_of_ble_eq_true rfl)) dX11_most_50 ⟨Nat.le_of_ble_eq_true rfl, Nat.le_of_ble_eq_true rfl⟩) hS (fun q _ h => hFc q h) hFc (fun rz857 u t H1 locs ht hvm gz856 hB hz1 hk1 hS => ?_)
                  obtain ⟨nz858, az859, hnz858, hP1⟩ := hB
                  rw [ht] at hP1
                  obtain ⟨hP, hD⟩ := w_callR hP hD hk1 hP1 [0] rfl rfl (wk_mem [3, 4, 5, 6, 7, 8, 9, 10, 11, 12, 13, 14, 15, 103, 104, 105] rfl) rfl [some 0] rfl rfl
                  clear hPc hC hDc hFc hk1 hP1
                  generalize H1 = H at hP hS ⊢
                  have hP : va_P (dC, dI) vwCl (List.flatten [(wMem qM k nz858 az859)] ++ List.flatten [(wSag qX k tapeX (qV 0) actsX nowX trialX (qY 0) attemptX orderSearchX routeSearchX setSearchX (qM 0) slot0X slot1X slot2X slot3X image0X image1X image2X aX), (wValley qV k vV bV cV wV aV eV), (wStoO qY k (qV 0) planY (sY 0 0) (sY 1 0) (sY 2 0) (sY 3 0) (sY 4 0) (sY 5 0) (sY 6 0) (sY 7 0)), (wState (sY 0) k (vY 0) (nY 0) (aY 0)), (wState (sY 1) k (vY 1) (nY 1) (aY 1)), (wState (sY 2) k (vY 2) (nY 2) (aY 2)), (wState (sY 3) k (vY 3) (nY 3) (aY 3)), (wState (sY 4) k (vY 4) (nY 4) (aY 4)), (wState (sY 5) k (vY 5) (nY 5) (aY 5)), (wState (sY 6) k (vY 6) (nY 6) (aY 6)), (wState (sY 7) k (vY 7) (nY 7) (aY 7))]) H := hP
                  have hD : va_D A (List.flatten [(wMem qM k nz858 az859)] ++ List.flatten [(wSag qX k tapeX (qV 0) actsX nowX trialX (qY 0) attemptX orderSearchX routeSearchX setSearchX (qM 0) slot0X slot1X slot2X slot3X image0X image1X image2X aX), (wValley qV k vV bV cV wV aV eV), (wStoO qY k (qV 0) planY (sY 0 0) (sY 1 0) (sY 2 0) (sY 3 0) (sY 4 0) (sY 5 0) (sY 6 0) (sY 7 0)), (wState (sY 0) k (vY 0) (nY 0) (aY 0)), (wState (sY 1) k (vY 1) (nY 1) (aY 1)), (wState (sY 2) k (vY 2) (nY 2) (aY 2)), (wState (sY 3) k (vY 3) (nY 3) (aY 3)), (wState (sY 4) k (vY 4) (nY 4) (aY 4)), (wState (sY 5) k (vY 5) (nY 5) (aY 5)), (wState (sY 6) k (vY 6) (nY 6) (aY 6)), (wState (sY 7) k (vY 7) (nY 7) (aY 7))]) := hD
                  refine W.widen (k := 0) (n := 0) (Nat.le_refl 0) (Nat.le_refl 0) ?_
                  refine lv_aload_n hx hb dX11_most_53 rfl (lv_at hl 0 rfl) ?_
                  refine va_get (D := (dC, dI)) (ci := 11) (v := .ref (qV 0)) (C := RX11) (T := TX11) (N := 15) hx hb hts (fun w h => List.mem_cons_of_mem _ (List.mem_append_right _ (List.mem_append_right _ (List.mem_append_left _ h)))) hown hK hP 3 rfl rfl 1 (by decide) (hts (.fieldLink RX11 19 "SagMemory" "told" "LSagMemory$Valley;") (wl_mem 17 rfl)) (fun _ h9 => h9) rfl dX11_most_54 ?_
                  refine va_get (D := (dC, dI)) (ci := 10) (v := .ref (qV 1)) (C := RX10) (T := TX10) (N := 16) hx hb hts (fun w h => List.mem_cons_of_mem _ (List.mem_append_right _ (List.mem_append_right _ (List.mem_append_right _ (List.mem_append_right _ (List.mem_append_right _ (List.mem_append_right _ (List.mem_append_right _ (List.mem_append_left _ h))))))))) hown hK hP 8 rfl rfl 0 (by decide) (hts (.fieldLink RX11 135 "SagMemory$Valley" "holds" "[I") (wl_mem 18 rfl)) (fun _ h9 => h9) rfl dX11_most_57 ?_
                  refine lv_iload_n hx hb dX11_most_60 rfl (lv_at hl 1 rfl) ?_
                  refine va_iald hx hb hK hP 9 0 rfl rfl (vp_in_iff.mpr ⟨by omega, by omega⟩) dX11_most_61 ?_
                  refine lv_topi (fun xz860 exz860 => ?_)
                  refine lv_icmp_le (tgt := 68) hx hb dX11_most_62 (by decide) (fun cz861 => ?_) (fun cz861 => ?_)
                  · skip
                    have bz862 := fb_rng rz857
                    have bz863 := fb_rng xz860
                    have zz864 : rz857.toInt ≤ xz860.toInt := zi_le.mp cz861
                    obtain ⟨xz865, exz865⟩ : ∃ y : Int32, y = xz818 + Int32.ofInt (1) := ⟨_, rfl⟩
                    have fxz865 : xz865.toInt = xz818.toInt + (1) := by rw [exz865]; exact fb_addI (y := Int32.ofInt (1)) (by show -2147483648 ≤ xz818.toInt + (1); omega) (by show xz818.toInt + (1) < 2147483648; omega)
                    refine lv_iinc (v := xz865) (lv' := [(4, .int xz865), (0, .ref (qX 0)), (1, .int p1), (3, .ref (sY 7 0))]) hx hb dX11_most_68 hl (k := 3) rfl exz865.symm (by decide) rfl (fun ls hl => ?_)
                    refine lv_goto (tgt := 34) hx hb dX11_most_71 (by decide) ?_
                    exact ih34 H locs ls az859 nz858 xz865 (by show (2147483647 - xz865.toInt).toNat < n9_34; omega) hnz858 (by show 1 ≤ xz865.toInt; omega) hP hD hS (lv_sub hl [1, 2, 3, 0] rfl)
                  · skip
                    have bz866 := fb_rng rz857
                    have bz867 := fb_rng xz860
                    have zz868 : ¬ rz857.toInt ≤ xz860.toInt := fun h9 => cz861 (zi_le.mpr h9)
                    refine lv_iload hx hb dX11_most_65 (lv_at hl 3 rfl) ?_
                    rw [hQ]
                    exact W.iret (v := xz818) hx hb hr (fun t ht hW => ⟨⟨xz818, (), rfl, trivial, nz858, az859, hnz858, by rw [ht]; exact hP⟩, hS.F ht⟩) hS.2.2 dX11_most_67
          exact lp34_kz819 _ s.heap [] ls aM nM (1 : Int32) (Nat.lt_succ_self _) hnM (by show 1 ≤ (1 : Int); omega) hP hD hS (lv_sub hl [2, 3, 1, 0] rfl)
        · skip
          have zz869 : ¬ rz761.toInt = (0 : Int) := fun h9 => cz763 (zi_eq.mpr h9)
          refine lv_iconst (v := (-1)) hx hb dX11_most_29 (by decide) ?_
          rw [hQ]
          exact W.iret (v := (-1 : Int32)) hx hb hr (fun t ht hW => ⟨⟨(-1 : Int32), (), rfl, trivial, nM, aM, hnM, by rw [ht]; exact hP⟩, hS.F ht⟩) hS.2.2 dX11_most_30
    · skip
      exact absurd cz49 (by decide)
