def wk_c_X11_rests : List Cond := .code yX11_rests cX11_rests 6 (some .int) :: ([.fieldLink RX11 19 "SagMemory" "told" "LSagMemory$Valley;", .methodLink RX11 141 yX10_hasCart, .instanceMethod yX10_hasCart, .selects RX10 yX10_hasCart yX10_hasCart, .initialized RX10, .methodLink RX11 323 yX11_playAll, .instanceMethod yX11_playAll, .selects RX11 yX11_playAll yX11_playAll, .initialized RX11, .fieldLink RX11 212 "SagMemory$Valley" "bridges" "I", .methodLink RX11 327 yX11_isAtRest, .instanceMethod yX11_isAtRest, .selects RX11 yX11_isAtRest yX11_isAtRest] ++ (wsX110 ++ (wk_c_X10_hasCart ++ (wk_c_X11_playAll ++ (wsX100 ++ (wk_c_X11_isAtRest ++ []))))))
theorem wkg_c_X11_rests : wk_c_X11_rests.all goodWord = true := by decide +kernel
set_option maxHeartbeats 4000000 in
set_option maxRecDepth 100000 in
theorem c_X11_rests (l : Launch) (dC : Nat → ClassId) (dI : Nat → Nat → Nat) (k : Nat → ClassId) (sz : Nat) (qX : Nat → Nat) (tapeX : Nat) (actsX : Nat) (storyX : Nat) (orderSearchX : Nat) (routeSearchX : Nat) (setSearchX : Nat) (probeX : Nat) (slot0X : Nat) (slot1X : Nat) (slot2X : Nat) (slot3X : Nat) (image0X : Nat) (image1X : Nat) (image2X : Nat) (aX : Nat → Nat → Int32) (qV : Nat → Nat) (vV : Nat → Int32) (bV : Nat → Int32) (cV : Nat → Int32) (wV : Nat → Int32) (aV : Nat → Nat → Int32) (eV : Nat → Nat → Int32) (qN : Nat → Nat) (vN : Nat → Int32) (aN : Nat → Nat → Int32) (eN : Nat → Nat → Int32) (qP : Nat → Nat) (vP : Nat → Int32) (aP : Nat → Nat → Int32) (eP : Nat → Nat → Int32) (qZ : Nat → Nat) (sZ : Nat → Nat → Nat) (vZ : Nat → Nat → Int32) (nZ : Nat → Nat → Int32) (aZ : Nat → Nat → Nat → Int32) (p1 : Int32) (p2 : Int32) (hbV : Rg 0 3 bV) (hcV : Rg 0 7 cV) (hwV : Rg 0 5 wV) (heV : RgA 0 99 eV) (heN : RgA 0 99 eN) (heP : RgA 0 99 eP) (hnZ : ∀ t9, Rg 0 8 (nZ t9)) : Met l yX11_rests wk_c_X11_rests ({ frames := 5, cells := 0, slots := 0, locals := 176 }) (va_Pc [.ref (qX 0), .int p1, .int p2] (fun U => U.heap.size = sz ∧ va_P (dC, dI) vwCl (List.flatten [(wSag qX k tapeX (qV 0) actsX (qN 0) (qP 0) storyX (qZ 0) orderSearchX routeSearchX setSearchX probeX slot0X slot1X slot2X slot3X image0X image1X image2X aX), (wPlan qP k vP aP eP), (wState (sZ 0) k (vZ 0) (nZ 0) (aZ 0)), (wState (sZ 1) k (vZ 1) (nZ 1) (aZ 1)), (wState (sZ 2) k (vZ 2) (nZ 2) (aZ 2)), (wState (sZ 3) k (vZ 3) (nZ 3) (aZ 3)), (wState (sZ 4) k (vZ 4) (nZ 4) (aZ 4)), (wState (sZ 5) k (vZ 5) (nZ 5) (aZ 5)), (wState (sZ 6) k (vZ 6) (nZ 6) (aZ 6)), (wState (sZ 7) k (vZ 7) (nZ 7) (aZ 7))] ++ List.flatten [(wValley qV k vV bV cV wV aV eV), (wPlan qN k vN aN eN), (wStoO qZ k (qV 0) (qP 0) (sZ 0 0) (sZ 1 0) (sZ 2 0) (sZ 3 0) (sZ 4 0) (sZ 5 0) (sZ 6 0) (sZ 7 0))]) U.heap ∧ va_K (dC, dI) vwCl (tK k) U ∧ va_D (fun _ => True) (List.flatten [(wSag qX k tapeX (qV 0) actsX (qN 0) (qP 0) storyX (qZ 0) orderSearchX routeSearchX setSearchX probeX slot0X slot1X slot2X slot3X image0X image1X image2X aX), (wPlan qP k vP aP eP), (wState (sZ 0) k (vZ 0) (nZ 0) (aZ 0)), (wState (sZ 1) k (vZ 1) (nZ 1) (aZ 1)), (wState (sZ 2) k (vZ 2) (nZ 2) (aZ 2)), (wState (sZ 3) k (vZ 3) (nZ 3) (aZ 3)), (wState (sZ 4) k (vZ 4) (nZ 4) (aZ 4)), (wState (sZ 5) k (vZ 5) (nZ 5) (aZ 5)), (wState (sZ 6) k (vZ 6) (nZ 6) (aZ 6)), (wState (sZ 7) k (vZ 7) (nZ 7) (aZ 7))] ++ List.flatten [(wValley qV k vV bV cV wV aV eV), (wPlan qN k vN aN eN), (wStoO qZ k (qV 0) (qP 0) (sZ 0 0) (sZ 1 0) (sZ 2 0) (sZ 3 0) (sZ 4 0) (sZ 5 0) (sZ 6 0) (sZ 7 0))]))) (va_Qi (fun (r : Int32) (_ : Unit) => True) (fun (_ : Unit) (t : State) => ∃ (aX' : Nat → Nat → Int32) (vP' : Nat → Int32) (aP' : Nat → Nat → Int32) (eP' : Nat → Nat → Int32) (vZ' : Nat → Nat → Int32) (nZ' : Nat → Nat → Int32) (aZ' : Nat → Nat → Nat → Int32), RgA 0 99 eP' ∧ (∀ t9, Rg 0 8 (nZ' t9)) ∧ va_P (dC, dI) vwCl (List.flatten [(wSag qX k tapeX (qV 0) actsX (qN 0) (qP 0) storyX (qZ 0) orderSearchX routeSearchX setSearchX probeX slot0X slot1X slot2X slot3X image0X image1X image2X aX'), (wPlan qP k vP' aP' eP'), (wState (sZ 0) k (vZ' 0) (nZ' 0) (aZ' 0)), (wState (sZ 1) k (vZ' 1) (nZ' 1) (aZ' 1)), (wState (sZ 2) k (vZ' 2) (nZ' 2) (aZ' 2)), (wState (sZ 3) k (vZ' 3) (nZ' 3) (aZ' 3)), (wState (sZ 4) k (vZ' 4) (nZ' 4) (aZ' 4)), (wState (sZ 5) k (vZ' 5) (nZ' 5) (aZ' 5)), (wState (sZ 6) k (vZ' 6) (nZ' 6) (aZ' 6)), (wState (sZ 7) k (vZ' 7) (nZ' 7) (aZ' 7))] ++ List.flatten [(wValley qV k vV bV cV wV aV eV), (wPlan qN k vN aN eN), (wStoO qZ k (qV 0) (qP 0) (sZ 0 0) (sZ 1 0) (sZ 2 0) (sZ 3 0) (sZ 4 0) (sZ 5 0) (sZ 6 0) (sZ 7 0))]) t.heap) (va_A (List.flatten [(wSag qX k tapeX (qV 0) actsX (qN 0) (qP 0) storyX (qZ 0) orderSearchX routeSearchX setSearchX probeX slot0X slot1X slot2X slot3X image0X image1X image2X aX), (wPlan qP k vP aP eP), (wState (sZ 0) k (vZ 0) (nZ 0) (aZ 0)), (wState (sZ 1) k (vZ 1) (nZ 1) (aZ 1)), (wState (sZ 2) k (vZ 2) (nZ 2) (aZ 2)), (wState (sZ 3) k (vZ 3) (nZ 3) (aZ 3)), (wState (sZ 4) k (vZ 4) (nZ 4) (aZ 4)), (wState (sZ 5) k (vZ 5) (nZ 5) (aZ 5)), (wState (sZ 6) k (vZ 6) (nZ 6) (aZ 6)), (wState (sZ 7) k (vZ 7) (nZ 7) (aZ 7))] ++ List.flatten [(wValley qV k vV bV cV wV aV eV), (wPlan qN k vN aN eN), (wStoO qZ k (qV 0) (qP 0) (sZ 0 0) (sZ 1 0) (sZ 2 0) (sZ 3 0) (sZ 4 0) (sZ 5 0) (sZ 6 0) (sZ 7 0))]) sz)) 0 0 (va_A (List.flatten [(wSag qX k tapeX (qV 0) actsX (qN 0) (qP 0) storyX (qZ 0) orderSearchX routeSearchX setSearchX probeX slot0X slot1X slot2X slot3X image0X image1X image2X aX), (wPlan qP k vP aP eP), (wState (sZ 0) k (vZ 0) (nZ 0) (aZ 0)), (wState (sZ 1) k (vZ 1) (nZ 1) (aZ 1)), (wState (sZ 2) k (vZ 2) (nZ 2) (aZ 2)), (wState (sZ 3) k (vZ 3) (nZ 3) (aZ 3)), (wState (sZ 4) k (vZ 4) (nZ 4) (aZ 4)), (wState (sZ 5) k (vZ 5) (nZ 5) (aZ 5)), (wState (sZ 6) k (vZ 6) (nZ 6) (aZ 6)), (wState (sZ 7) k (vZ 7) (nZ 7) (aZ 7))] ++ List.flatten [(wValley qV k vV bV cV wV aV eV), (wPlan qN k vN aN eN), (wStoO qZ k (qV 0) (qP 0) (sZ 0 0) (sZ 1 0) (sZ 2 0) (sZ 3 0) (sZ 4 0) (sZ 5 0) (sZ 6 0) (sZ 7 0))]) sz) := by
  refine Met.ofW (cc := cX11_rests) (maxL := 6) (ret := (some .int)) (by decide) rfl ?_
  intro p e s m args below meth c s₁ B hml hv
  obtain ⟨rfl, hsz, hP, hK, hD0⟩ := hv
  have hx := B.exec
  have hb := B.bytes
  have hr := B.returns
  have hts := atoms_spec (ws := wk_c_X11_rests) B.pre
  have hown : s.vm.findClass RX11 = some m.cls := findClass_of_methodNamed B.named
  have hlocks := B.notSynchronized
  subst hsz
  have hD := hD0.self (sz := s.heap.size)
  generalize hAe : va_A (List.flatten [(wSag qX k tapeX (qV 0) actsX (qN 0) (qP 0) storyX (qZ 0) orderSearchX routeSearchX setSearchX probeX slot0X slot1X slot2X slot3X image0X image1X image2X aX), (wPlan qP k vP aP eP), (wState (sZ 0) k (vZ 0) (nZ 0) (aZ 0)), (wState (sZ 1) k (vZ 1) (nZ 1) (aZ 1)), (wState (sZ 2) k (vZ 2) (nZ 2) (aZ 2)), (wState (sZ 3) k (vZ 3) (nZ 3) (aZ 3)), (wState (sZ 4) k (vZ 4) (nZ 4) (aZ 4)), (wState (sZ 5) k (vZ 5) (nZ 5) (aZ 5)), (wState (sZ 6) k (vZ 6) (nZ 6) (aZ 6)), (wState (sZ 7) k (vZ 7) (nZ 7) (aZ 7))] ++ List.flatten [(wValley qV k vV bV cV wV aV eV), (wPlan qN k vN aN eN), (wStoO qZ k (qV 0) (qP 0) (sZ 0 0) (sZ 1 0) (sZ 2 0) (sZ 3 0) (sZ 4 0) (sZ 5 0) (sZ 6 0) (sZ 7 0))]) s.heap.size = A at hD ⊢
  have hA : ∀ q : Nat, s.heap.size ≤ q → A q := fun q h => by rw [← hAe]; exact Or.inr h
  have hS : va_S A s.heap s.heap [] := va_S.rf
  have hP : va_P (dC, dI) vwCl (List.flatten [(wSag qX k tapeX (qV 0) actsX (qN 0) (qP 0) storyX (qZ 0) orderSearchX routeSearchX setSearchX probeX slot0X slot1X slot2X slot3X image0X image1X image2X aX), (wPlan qP k vP aP eP), (wState (sZ 0) k (vZ 0) (nZ 0) (aZ 0)), (wState (sZ 1) k (vZ 1) (nZ 1) (aZ 1)), (wState (sZ 2) k (vZ 2) (nZ 2) (aZ 2)), (wState (sZ 3) k (vZ 3) (nZ 3) (aZ 3)), (wState (sZ 4) k (vZ 4) (nZ 4) (aZ 4)), (wState (sZ 5) k (vZ 5) (nZ 5) (aZ 5)), (wState (sZ 6) k (vZ 6) (nZ 6) (aZ 6)), (wState (sZ 7) k (vZ 7) (nZ 7) (aZ 7))] ++ List.flatten [(wValley qV k vV bV cV wV aV eV), (wPlan qN k vN aN eN), (wStoO qZ k (qV 0) (qP 0) (sZ 0 0) (sZ 1 0) (sZ 2 0) (sZ 3 0) (sZ 4 0) (sZ 5 0) (sZ 6 0) (sZ 7 0))]) s.heap := hP
  have hl := lv_entry ([.ref (qX 0), .int p1, .int p2]) (n := 6) (Nat.le_of_ble_eq_true rfl)
  rw [lg_entry_eq]
  generalize (lg_sl ([.ref (qX 0), .int p1, .int p2]) ++ List.replicate (6 - (lg_sl ([.ref (qX 0), .int p1, .int p2])).length) Slot.unset).toArray = ls at hl ⊢
  have hl : lv_has ls 6 [(0, .ref (qX 0)), (1, .int p1), (2, .int p2)] := hl
  refine w_gen (fun Q hQ => ?_)
  refine lv_aload_n hx hb dX11_rests_0 rfl (lv_at hl 0 rfl) ?_
  refine va_get (D := (dC, dI)) (ci := 11) (v := .ref (qV 0)) (C := RX11) (T := TX11) (N := 15) hx hb hts (fun w h => List.mem_cons_of_mem _ (List.mem_append_right _ (List.mem_append_left _ h))) hown hK hP 0 rfl rfl 1 (by decide) (hts (.fieldLink RX11 19 "SagMemory" "told" "LSagMemory$Valley;") (wl_mem 0 rfl)) (fun _ h9 => h9) rfl dX11_rests_1 ?_
  refine lv_iload_n hx hb dX11_rests_4 rfl (lv_at hl 1 rfl) ?_
  have hPc := hP.sub (ws' := (List.flatten [(wValley qV k vV bV cV wV aV eV)])) [96, 97, 98, 99, 100, 101, 102, 103] rfl
  refine vp_callSi (va_Run.run (va_runV (As := [.int p1]) (rest := []) ⟨hx, hb, hml, hown, hts⟩ (c_X10_hasCart l dC dI k qV vV bV cV wV aV eV p1 hbV hcV hwV heV) (cwV 1 hts (gk_V (wl_mem 1 rfl) (wl_mem 2 rfl) (wl_mem 3 rfl) (wl_mem 4 rfl) (fun w h => List.mem_cons_of_mem _ (List.mem_append_right _ (List.mem_append_right _ (List.mem_append_left _ h)))) wkg_c_X10_hasCart) rfl rfl rfl (by decide +kernel) ⟨Nat.le_of_ble_eq_true rfl, Nat.le_of_ble_eq_true rfl⟩) ⟨fun a U g mk q => by obtain ⟨q0, qP, qK⟩ := q; exact ⟨q0, qP, va_K.moved (u := U) (U := U.calling g mk a) (Vm.Alike.refl U.vm) qK⟩, va_recv hK hPc (ci := 10) (q0 := 0) rfl rfl, fun U hU hW => ⟨rfl, by rw [hU]; exact hPc, va_K.moved hW.alike hK⟩⟩ rfl rfl hl.1 rfl (lv_room (Nat.le_of_ble_eq_true rfl)) dX11_rests_5 ⟨Nat.le_of_ble_eq_true rfl, Nat.le_of_ble_eq_true rfl⟩)) (fun rz2 gz1 => ?_)
  clear hPc
  rcases gz1 with ⟨er, cz3⟩ | ⟨er, cz4, cz5⟩ | ⟨er, cz6, cz7⟩
  · obtain rfl := er.symm
    have bz8 := fb_rng p1
    have zz9 : p1.toInt < (0 : Int) := zi_lt.mp cz3
    refine lv_if_eq (tgt := 27) hx hb dX11_rests_8 (by decide) (fun cz10 => ?_) (fun cz10 => ?_)
    · skip
      refine lv_bipush (v := (-2)) hx hb dX11_rests_27 (by decide) ?_
      rw [hQ]
      exact W.iret (v := (-2 : Int32)) hx hb hr (fun t ht hW => ⟨⟨(-2 : Int32), (), rfl, trivial, aX, vP, aP, eP, vZ, nZ, aZ, heP, hnZ, by rw [ht]; exact hP⟩, hS.F ht⟩) hS.2.2 dX11_rests_29
    · skip
      exact absurd cz10 (by decide)
  · obtain rfl := er.symm
    have bz11 := fb_rng p1
    have zz12 : ¬ p1.toInt < (0 : Int) := fun h9 => cz4 (zi_lt.mpr h9)
    have bz13 := hcV 0
    have zz14 : (cV 0).toInt ≤ p1.toInt := zi_le.mp cz5
    refine lv_if_eq (tgt := 27) hx hb dX11_rests_8 (by decide) (fun cz15 => ?_) (fun cz15 => ?_)
    · skip
      refine lv_bipush (v := (-2)) hx hb dX11_rests_27 (by decide) ?_
      rw [hQ]
      exact W.iret (v := (-2 : Int32)) hx hb hr (fun t ht hW => ⟨⟨(-2 : Int32), (), rfl, trivial, aX, vP, aP, eP, vZ, nZ, aZ, heP, hnZ, by rw [ht]; exact hP⟩, hS.F ht⟩) hS.2.2 dX11_rests_29
    · skip
      exact absurd cz15 (by decide)
  · obtain rfl := er.symm
    have bz16 := fb_rng p1
    have zz17 : ¬ p1.toInt < (0 : Int) := fun h9 => cz6 (zi_lt.mpr h9)
    have bz18 := hcV 0
    have zz19 : ¬ (cV 0).toInt ≤ p1.toInt := fun h9 => cz7 (zi_le.mpr h9)
    refine lv_if_eq (tgt := 27) hx hb dX11_rests_8 (by decide) (fun cz20 => ?_) (fun cz20 => ?_)
    · skip
      exact absurd cz20 (by decide)
    · skip
      refine lv_aload_n hx hb dX11_rests_11 rfl (lv_at hl 0 rfl) ?_
      refine va_get (D := (dC, dI)) (ci := 11) (v := .ref (qV 0)) (C := RX11) (T := TX11) (N := 15) hx hb hts (fun w h => List.mem_cons_of_mem _ (List.mem_append_right _ (List.mem_append_left _ h))) hown hK hP 0 rfl rfl 1 (by decide) (hts (.fieldLink RX11 19 "SagMemory" "told" "LSagMemory$Valley;") (wl_mem 0 rfl)) (fun _ h9 => h9) rfl dX11_rests_12 ?_
      refine lv_iload_n hx hb dX11_rests_15 rfl (lv_at hl 2 rfl) ?_
      have hPc := hP.sub (ws' := (List.flatten [(wValley qV k vV bV cV wV aV eV)])) [96, 97, 98, 99, 100, 101, 102, 103] rfl
      refine vp_callSi (va_Run.run (va_runV (As := [.int p2]) (rest := []) ⟨hx, hb, hml, hown, hts⟩ (c_X10_hasCart l dC dI k qV vV bV cV wV aV eV p2 hbV hcV hwV heV) (cwV 1 hts (gk_V (wl_mem 1 rfl) (wl_mem 2 rfl) (wl_mem 3 rfl) (wl_mem 4 rfl) (fun w h => List.mem_cons_of_mem _ (List.mem_append_right _ (List.mem_append_right _ (List.mem_append_left _ h)))) wkg_c_X10_hasCart) rfl rfl rfl (by decide +kernel) ⟨Nat.le_of_ble_eq_true rfl, Nat.le_of_ble_eq_true rfl⟩) ⟨fun a U g mk q => by obtain ⟨q0, qP, qK⟩ := q; exact ⟨q0, qP, va_K.moved (u := U) (U := U.calling g mk a) (Vm.Alike.refl U.vm) qK⟩, va_recv hK hPc (ci := 10) (q0 := 0) rfl rfl, fun U hU hW => ⟨rfl, by rw [hU]; exact hPc, va_K.moved hW.alike hK⟩⟩ rfl rfl hl.1 rfl (lv_room (Nat.le_of_ble_eq_true rfl)) dX11_rests_16 ⟨Nat.le_of_ble_eq_true rfl, Nat.le_of_ble_eq_true rfl⟩)) (fun rz22 gz21 => ?_)
      clear hPc
      rcases gz21 with ⟨er, cz23⟩ | ⟨er, cz24, cz25⟩ | ⟨er, cz26, cz27⟩
      · obtain rfl := er.symm
        have bz28 := fb_rng p2
        have zz29 : p2.toInt < (0 : Int) := zi_lt.mp cz23
        refine lv_if_eq (tgt := 27) hx hb dX11_rests_19 (by decide) (fun cz30 => ?_) (fun cz30 => ?_)
        · skip
          refine lv_bipush (v := (-2)) hx hb dX11_rests_27 (by decide) ?_
          rw [hQ]
          exact W.iret (v := (-2 : Int32)) hx hb hr (fun t ht hW => ⟨⟨(-2 : Int32), (), rfl, trivial, aX, vP, aP, eP, vZ, nZ, aZ, heP, hnZ, by rw [ht]; exact hP⟩, hS.F ht⟩) hS.2.2 dX11_rests_29
        · skip
          exact absurd cz30 (by decide)
      · obtain rfl := er.symm
        have bz31 := fb_rng p2
        have zz32 : ¬ p2.toInt < (0 : Int) := fun h9 => cz24 (zi_lt.mpr h9)
        have zz33 : (cV 0).toInt ≤ p2.toInt := zi_le.mp cz25
        refine lv_if_eq (tgt := 27) hx hb dX11_rests_19 (by decide) (fun cz34 => ?_) (fun cz34 => ?_)
        · skip
          refine lv_bipush (v := (-2)) hx hb dX11_rests_27 (by decide) ?_
          rw [hQ]
          exact W.iret (v := (-2 : Int32)) hx hb hr (fun t ht hW => ⟨⟨(-2 : Int32), (), rfl, trivial, aX, vP, aP, eP, vZ, nZ, aZ, heP, hnZ, by rw [ht]; exact hP⟩, hS.F ht⟩) hS.2.2 dX11_rests_29
        · skip
          exact absurd cz34 (by decide)
      · obtain rfl := er.symm
        have bz35 := fb_rng p2
        have zz36 : ¬ p2.toInt < (0 : Int) := fun h9 => cz26 (zi_lt.mpr h9)
        have zz37 : ¬ (cV 0).toInt ≤ p2.toInt := fun h9 => cz27 (zi_le.mpr h9)
        refine lv_if_eq (tgt := 27) hx hb dX11_rests_19 (by decide) (fun cz38 => ?_) (fun cz38 => ?_)
        · skip
          exact absurd cz38 (by decide)
        · skip
          refine lv_iload_n hx hb dX11_rests_22 rfl (lv_at hl 1 rfl) ?_
          refine lv_iload_n hx hb dX11_rests_23 rfl (lv_at hl 2 rfl) ?_
          refine lv_icmp_ne (tgt := 30) hx hb dX11_rests_24 (by decide) (fun cz39 => ?_) (fun cz39 => ?_)
          · skip
            have zz40 : ¬ p1.toInt = p2.toInt := fun h9 => cz39 (zi_eq.mpr h9)
            refine lv_aload_n hx hb dX11_rests_30 rfl (lv_at hl 0 rfl) ?_
            refine lv_iload_n hx hb dX11_rests_31 rfl (lv_at hl 1 rfl) ?_
            refine lv_iload_n hx hb dX11_rests_32 rfl (lv_at hl 2 rfl) ?_
            have hPc := hP
            have hDc : va_D A (List.flatten [(wSag qX k tapeX (qV 0) actsX (qN 0) (qP 0) storyX (qZ 0) orderSearchX routeSearchX setSearchX probeX slot0X slot1X slot2X slot3X image0X image1X image2X aX), (wPlan qP k vP aP eP), (wState (sZ 0) k (vZ 0) (nZ 0) (aZ 0)), (wState (sZ 1) k (vZ 1) (nZ 1) (aZ 1)), (wState (sZ 2) k (vZ 2) (nZ 2) (aZ 2)), (wState (sZ 3) k (vZ 3) (nZ 3) (aZ 3)), (wState (sZ 4) k (vZ 4) (nZ 4) (aZ 4)), (wState (sZ 5) k (vZ 5) (nZ 5) (aZ 5)), (wState (sZ 6) k (vZ 6) (nZ 6) (aZ 6)), (wState (sZ 7) k (vZ 7) (nZ 7) (aZ 7))] ++ List.flatten [(wValley qV k vV bV cV wV aV eV), (wPlan qN k vN aN eN), (wStoO qZ k (qV 0) (qP 0) (sZ 0 0) (sZ 1 0) (sZ 2 0) (sZ 3 0) (sZ 4 0) (sZ 5 0) (sZ 6 0) (sZ 7 0))]) := wc_subD hD [0, 1, 2, 3, 4, 5, 6, 7, 8, 9, 10, 11, 12] rfl rfl
            have hFc := wc_free hDc hS hA
            refine va_callv (va_runV (As := [.int p1, .int p2]) (rest := []) ⟨hx, hb, hml, hown, hts⟩ (c_X11_playAll l dC dI k s.heap.size qX tapeX actsX storyX orderSearchX routeSearchX setSearchX probeX slot0X slot1X slot2X slot3X image0X image1X image2X aX qV vV bV cV wV aV eV qN vN aN eN qP vP aP eP qZ sZ vZ nZ aZ p1 p2 hbV hcV hwV heV heN heP hnZ (by show 0 ≤ p1.toInt ∧ p1.toInt ≤ 6; omega) (by show 0 ≤ p2.toInt ∧ p2.toInt ≤ 6; omega)) (cwV 2 hts (gk_V (wl_mem 5 rfl) (wl_mem 6 rfl) (wl_mem 7 rfl) (wl_mem 8 rfl) (fun w h => List.mem_cons_of_mem _ (List.mem_append_right _ (List.mem_append_right _ (List.mem_append_right _ (List.mem_append_left _ h))))) wkg_c_X11_playAll) rfl rfl rfl (by decide +kernel) ⟨Nat.le_of_ble_eq_true rfl, Nat.le_of_ble_eq_true rfl⟩) ⟨fun a U g mk q => by obtain ⟨q0, q1, qP, qK, qD⟩ := q; exact ⟨q0, q1, qP, va_K.moved (u := U) (U := U.calling g mk a) (Vm.Alike.refl U.vm) qK, qD⟩, va_recv hK hPc (ci := 11) (q0 := 0) rfl rfl, fun U hU hW => ⟨rfl, by rw [hU], by rw [hU]; exact hPc, va_K.moved hW.alike hK, hDc.weaken (fun _ _ _ _ => trivial)⟩⟩ rfl rfl hl.1 rfl (lv_room (Nat.le_of_ble_eq_true rfl)) dX11_rests_33 ⟨Nat.le_of_ble_eq_true rfl, Nat.le_of_ble_eq_true rfl⟩) hS (fun q _ h => hFc q h) hFc (fun u t H1 locs ht hvm gz41 hB hz1 hk1 hS => ?_)
            obtain ⟨az43, vz44, az45, ez46, vz47, nz48, az49, hez46, hnz48, hP1⟩ := hB
            rw [ht] at hP1
            obtain ⟨hP, hD⟩ := w_callR hP hD hk1 hP1 [0, 1, 2, 3, 4, 5, 6, 7, 8, 9] rfl rfl (wk_memC [10, 11, 12] rfl) rfl [some 0, some 1, some 2, some 3, some 4, some 5, some 6, some 7, some 8, some 9] rfl rfl
            clear hPc hDc hFc hk1 hP1
            generalize H1 = H at hP hS ⊢
            have hP : va_P (dC, dI) vwCl (List.flatten [(wSag qX k tapeX (qV 0) actsX (qN 0) (qP 0) storyX (qZ 0) orderSearchX routeSearchX setSearchX probeX slot0X slot1X slot2X slot3X image0X image1X image2X az43), (wPlan qP k vz44 az45 ez46), (wState (sZ 0) k (vz47 0) (nz48 0) (az49 0)), (wState (sZ 1) k (vz47 1) (nz48 1) (az49 1)), (wState (sZ 2) k (vz47 2) (nz48 2) (az49 2)), (wState (sZ 3) k (vz47 3) (nz48 3) (az49 3)), (wState (sZ 4) k (vz47 4) (nz48 4) (az49 4)), (wState (sZ 5) k (vz47 5) (nz48 5) (az49 5)), (wState (sZ 6) k (vz47 6) (nz48 6) (az49 6)), (wState (sZ 7) k (vz47 7) (nz48 7) (az49 7))] ++ List.flatten [(wValley qV k vV bV cV wV aV eV), (wPlan qN k vN aN eN), (wStoO qZ k (qV 0) (qP 0) (sZ 0 0) (sZ 1 0) (sZ 2 0) (sZ 3 0) (sZ 4 0) (sZ 5 0) (sZ 6 0) (sZ 7 0))]) H := hP
            have hD : va_D A (List.flatten [(wSag qX k tapeX (qV 0) actsX (qN 0) (qP 0) storyX (qZ 0) orderSearchX routeSearchX setSearchX probeX slot0X slot1X slot2X slot3X image0X image1X image2X az43), (wPlan qP k vz44 az45 ez46), (wState (sZ 0) k (vz47 0) (nz48 0) (az49 0)), (wState (sZ 1) k (vz47 1) (nz48 1) (az49 1)), (wState (sZ 2) k (vz47 2) (nz48 2) (az49 2)), (wState (sZ 3) k (vz47 3) (nz48 3) (az49 3)), (wState (sZ 4) k (vz47 4) (nz48 4) (az49 4)), (wState (sZ 5) k (vz47 5) (nz48 5) (az49 5)), (wState (sZ 6) k (vz47 6) (nz48 6) (az49 6)), (wState (sZ 7) k (vz47 7) (nz48 7) (az49 7))] ++ List.flatten [(wValley qV k vV bV cV wV aV eV), (wPlan qN k vN aN eN), (wStoO qZ k (qV 0) (qP 0) (sZ 0 0) (sZ 1 0) (sZ 2 0) (sZ 3 0) (sZ 4 0) (sZ 5 0) (sZ 6 0) (sZ 7 0))]) := hD
            refine W.widen (k := 0) (n := 0) (Nat.le_refl 0) (Nat.le_refl 0) ?_
            refine lv_iconst (v := 0) hx hb dX11_rests_36 (by decide) ?_
            refine lv_istore_n (lv' := [(3, .int 0), (0, .ref (qX 0)), (1, .int p1), (2, .int p2)]) hx hb dX11_rests_37 rfl hl (by decide) rfl (fun ls hl => ?_)
            refine lv_iconst (v := 0) hx hb dX11_rests_38 (by decide) ?_
            refine lv_istore (lv' := [(4, .int 0), (3, .int 0), (0, .ref (qX 0)), (1, .int p1), (2, .int p2)]) hx hb dX11_rests_39 hl (by decide) rfl (fun ls hl => ?_)
            have lp41_kz119 : ∀ (n9_41 : Nat) (H : Heap) (locs : List Loc) (ls : Array Slot) (xz117 : Int32) (xz118 : Int32), (2147483647 - xz118.toInt).toNat < n9_41 → 0 ≤ xz118.toInt → va_P (dC, dI) vwCl (List.flatten [(wSag qX k tapeX (qV 0) actsX (qN 0) (qP 0) storyX (qZ 0) orderSearchX routeSearchX setSearchX probeX slot0X slot1X slot2X slot3X image0X image1X image2X az43), (wPlan qP k vz44 az45 ez46), (wState (sZ 0) k (vz47 0) (nz48 0) (az49 0)), (wState (sZ 1) k (vz47 1) (nz48 1) (az49 1)), (wState (sZ 2) k (vz47 2) (nz48 2) (az49 2)), (wState (sZ 3) k (vz47 3) (nz48 3) (az49 3)), (wState (sZ 4) k (vz47 4) (nz48 4) (az49 4)), (wState (sZ 5) k (vz47 5) (nz48 5) (az49 5)), (wState (sZ 6) k (vz47 6) (nz48 6) (az49 6)), (wState (sZ 7) k (vz47 7) (nz48 7) (az49 7))] ++ List.flatten [(wValley qV k vV bV cV wV aV eV), (wPlan qN k vN aN eN), (wStoO qZ k (qV 0) (qP 0) (sZ 0 0) (sZ 1 0) (sZ 2 0) (sZ 3 0) (sZ 4 0) (sZ 5 0) (sZ 6 0) (sZ 7 0))]) H → va_D A (List.flatten [(wSag qX k tapeX (qV 0) actsX (qN 0) (qP 0) storyX (qZ 0) orderSearchX routeSearchX setSearchX probeX slot0X slot1X slot2X slot3X image0X image1X image2X az43), (wPlan qP k vz44 az45 ez46), (wState (sZ 0) k (vz47 0) (nz48 0) (az49 0)), (wState (sZ 1) k (vz47 1) (nz48 1) (az49 1)), (wState (sZ 2) k (vz47 2) (nz48 2) (az49 2)), (wState (sZ 3) k (vz47 3) (nz48 3) (az49 3)), (wState (sZ 4) k (vz47 4) (nz48 4) (az49 4)), (wState (sZ 5) k (vz47 5) (nz48 5) (az49 5)), (wState (sZ 6) k (vz47 6) (nz48 6) (az49 6)), (wState (sZ 7) k (vz47 7) (nz48 7) (az49 7))] ++ List.flatten [(wValley qV k vV bV cV wV aV eV), (wPlan qN k vN aN eN), (wStoO qZ k (qV 0) (qP 0) (sZ 0 0) (sZ 1 0) (sZ 2 0) (sZ 3 0) (sZ 4 0) (sZ 5 0) (sZ 6 0) (sZ 7 0))]) → va_S A s.heap H locs → lv_has ls 6 [(0, .ref (qX 0)), (3, .int xz117), (4, .int xz118)] → W p l e (headSpec wk_c_X11_rests ({ frames := 5, cells := 0, slots := 0, locals := 176 })).room s m ([.ref (qX 0), .int p1, .int p2] : List Value).toArray below meth c H locs 0 0 Q (F0 m 41 ls []) := by
              intro n9_41
              induction n9_41 with
              | zero => intro H locs ls xz117 xz118 hm; exact absurd hm (Nat.not_lt_zero _)
              | succ n9_41 ih41 =>
                intro H locs ls xz117 xz118 hm41 jz120 hP hD hS hl
                refine lv_iload hx hb dX11_rests_41 (lv_at hl 2 rfl) ?_
                refine lv_aload_n hx hb dX11_rests_43 rfl (lv_at hl 0 rfl) ?_
                refine va_get (D := (dC, dI)) (ci := 11) (v := .ref (qV 0)) (C := RX11) (T := TX11) (N := 15) hx hb hts (fun w h => List.mem_cons_of_mem _ (List.mem_append_right _ (List.mem_append_left _ h))) hown hK hP 0 rfl rfl 1 (by decide) (hts (.fieldLink RX11 19 "SagMemory" "told" "LSagMemory$Valley;") (wl_mem 0 rfl)) (fun _ h9 => h9) rfl dX11_rests_44 ?_
                refine va_get (D := (dC, dI)) (ci := 10) (v := .int (bV 0)) (C := RX10) (T := TX10) (N := 16) hx hb hts (fun w h => List.mem_cons_of_mem _ (List.mem_append_right _ (List.mem_append_right _ (List.mem_append_right _ (List.mem_append_right _ (List.mem_append_left _ h)))))) hown hK hP 96 rfl rfl 11 (by decide) (hts (.fieldLink RX11 212 "SagMemory$Valley" "bridges" "I") (wl_mem 9 rfl)) (fun _ h9 => h9) rfl dX11_rests_47 ?_
                have bz121 := hbV 0
                refine lv_icmp_ge (tgt := 94) hx hb dX11_rests_50 (by decide) (fun cz122 => ?_) (fun cz122 => ?_)
                · skip
                  have bz123 := fb_rng xz118
                  have zz124 : (bV 0).toInt ≤ xz118.toInt := zi_le.mp cz122
                  refine lv_iload_n hx hb dX11_rests_94 rfl (lv_at hl 1 rfl) ?_
                  rw [hQ]
                  exact W.iret (v := xz117) hx hb hr (fun t ht hW => ⟨⟨xz117, (), rfl, trivial, az43, vz44, az45, ez46, vz47, nz48, az49, hez46, hnz48, by rw [ht]; exact hP⟩, hS.F ht⟩) hS.2.2 dX11_rests_95
                · skip
                  have bz125 := fb_rng xz118
                  have zz126 : ¬ (bV 0).toInt ≤ xz118.toInt := fun h9 => cz122 (zi_le.mpr h9)
                  refine lv_iconst (v := 0) hx hb dX11_rests_53 (by decide) ?_
                  refine lv_istore (lv' := [(5, .int 0), (0, .ref (qX 0)), (3, .int xz117), (4, .int xz118)]) hx hb dX11_rests_54 hl (by decide) rfl (fun ls hl => ?_)
                  have lp56_kz157 : ∀ (n9_56 : Nat) (H : Heap) (locs : List Loc) (ls : Array Slot) (xz155 : Int32) (xz156 : Int32), (2147483647 - xz156.toInt).toNat < n9_56 → 0 ≤ xz156.toInt → va_P (dC, dI) vwCl (List.flatten [(wSag qX k tapeX (qV 0) actsX (qN 0) (qP 0) storyX (qZ 0) orderSearchX routeSearchX setSearchX probeX slot0X slot1X slot2X slot3X image0X image1X image2X az43), (wPlan qP k vz44 az45 ez46), (wState (sZ 0) k (vz47 0) (nz48 0) (az49 0)), (wState (sZ 1) k (vz47 1) (nz48 1) (az49 1)), (wState (sZ 2) k (vz47 2) (nz48 2) (az49 2)), (wState (sZ 3) k (vz47 3) (nz48 3) (az49 3)), (wState (sZ 4) k (vz47 4) (nz48 4) (az49 4)), (wState (sZ 5) k (vz47 5) (nz48 5) (az49 5)), (wState (sZ 6) k (vz47 6) (nz48 6) (az49 6)), (wState (sZ 7) k (vz47 7) (nz48 7) (az49 7))] ++ List.flatten [(wValley qV k vV bV cV wV aV eV), (wPlan qN k vN aN eN), (wStoO qZ k (qV 0) (qP 0) (sZ 0 0) (sZ 1 0) (sZ 2 0) (sZ 3 0) (sZ 4 0) (sZ 5 0) (sZ 6 0) (sZ 7 0))]) H → va_D A (List.flatten [(wSag qX k tapeX (qV 0) actsX (qN 0) (qP 0) storyX (qZ 0) orderSearchX routeSearchX setSearchX probeX slot0X slot1X slot2X slot3X image0X image1X image2X az43), (wPlan qP k vz44 az45 ez46), (wState (sZ 0) k (vz47 0) (nz48 0) (az49 0)), (wState (sZ 1) k (vz47 1) (nz48 1) (az49 1)), (wState (sZ 2) k (vz47 2) (nz48 2) (az49 2)), (wState (sZ 3) k (vz47 3) (nz48 3) (az49 3)), (wState (sZ 4) k (vz47 4) (nz48 4) (az49 4)), (wState (sZ 5) k (vz47 5) (nz48 5) (az49 5)), (wState (sZ 6) k (vz47 6) (nz48 6) (az49 6)), (wState (sZ 7) k (vz47 7) (nz48 7) (az49 7))] ++ List.flatten [(wValley qV k vV bV cV wV aV eV), (wPlan qN k vN aN eN), (wStoO qZ k (qV 0) (qP 0) (sZ 0 0) (sZ 1 0) (sZ 2 0) (sZ 3 0) (sZ 4 0) (sZ 5 0) (sZ 6 0) (sZ 7 0))]) → va_S A s.heap H locs → lv_has ls 6 [(0, .ref (qX 0)), (3, .int xz155), (4, .int xz118), (5, .int xz156)] → W p l e (headSpec wk_c_X11_rests ({ frames := 5, cells := 0, slots := 0, locals := 176 })).room s m ([.ref (qX 0), .int p1, .int p2] : List Value).toArray below meth c H locs 0 0 Q (F0 m 56 ls []) := by
                    intro n9_56
                    induction n9_56 with
                    | zero => intro H locs ls xz155 xz156 hm; exact absurd hm (Nat.not_lt_zero _)
                    | succ n9_56 ih56 =>
                      intro H locs ls xz155 xz156 hm56 jz158 hP hD hS hl
                      refine lv_iload hx hb dX11_rests_56 (lv_at hl 3 rfl) ?_
                      refine lv_aload_n hx hb dX11_rests_58 rfl (lv_at hl 0 rfl) ?_
                      refine va_get (D := (dC, dI)) (ci := 11) (v := .ref (qV 0)) (C := RX11) (T := TX11) (N := 15) hx hb hts (fun w h => List.mem_cons_of_mem _ (List.mem_append_right _ (List.mem_append_left _ h))) hown hK hP 0 rfl rfl 1 (by decide) (hts (.fieldLink RX11 19 "SagMemory" "told" "LSagMemory$Valley;") (wl_mem 0 rfl)) (fun _ h9 => h9) rfl dX11_rests_59 ?_
                      refine va_get (D := (dC, dI)) (ci := 10) (v := .int (bV 0)) (C := RX10) (T := TX10) (N := 16) hx hb hts (fun w h => List.mem_cons_of_mem _ (List.mem_append_right _ (List.mem_append_right _ (List.mem_append_right _ (List.mem_append_right _ (List.mem_append_left _ h)))))) hown hK hP 96 rfl rfl 11 (by decide) (hts (.fieldLink RX11 212 "SagMemory$Valley" "bridges" "I") (wl_mem 9 rfl)) (fun _ h9 => h9) rfl dX11_rests_62 ?_
                      refine lv_icmp_ge (tgt := 88) hx hb dX11_rests_65 (by decide) (fun cz159 => ?_) (fun cz159 => ?_)
                      · skip
                        have bz160 := fb_rng xz156
                        have zz161 : (bV 0).toInt ≤ xz156.toInt := zi_le.mp cz159
                        obtain ⟨xz162, exz162⟩ : ∃ y : Int32, y = xz118 + Int32.ofInt (1) := ⟨_, rfl⟩
                        have fxz162 : xz162.toInt = xz118.toInt + (1) := by rw [exz162]; exact fb_addI (y := Int32.ofInt (1)) (by show -2147483648 ≤ xz118.toInt + (1); omega) (by show xz118.toInt + (1) < 2147483648; omega)
                        refine lv_iinc (v := xz162) (lv' := [(4, .int xz162), (0, .ref (qX 0)), (3, .int xz155), (5, .int xz156)]) hx hb dX11_rests_88 hl (k := 2) rfl exz162.symm (by decide) rfl (fun ls hl => ?_)
                        refine lv_goto (tgt := 41) hx hb dX11_rests_91 (by decide) ?_
                        exact ih41 H locs ls xz155 xz162 (by show (2147483647 - xz162.toInt).toNat < n9_41; omega) (by show 0 ≤ xz162.toInt; omega) hP hD hS (lv_sub hl [1, 2, 0] rfl)
                      · skip
                        have bz163 := fb_rng xz156
                        have zz164 : ¬ (bV 0).toInt ≤ xz156.toInt := fun h9 => cz159 (zi_le.mpr h9)
                        refine lv_aload_n hx hb dX11_rests_68 rfl (lv_at hl 0 rfl) ?_
                        refine lv_iload hx hb dX11_rests_69 (lv_at hl 2 rfl) ?_
                        refine lv_iload hx hb dX11_rests_71 (lv_at hl 3 rfl) ?_
                        have hPc := hP.sub (ws' := (List.flatten [(wSag qX k tapeX (qV 0) actsX (qN 0) (qP 0) storyX (qZ 0) orderSearchX routeSearchX setSearchX probeX slot0X slot1X slot2X slot3X image0X image1X image2X az43), (wValley qV k vV bV cV wV aV eV)])) [0, 1, 2, 3, 4, 96, 97, 98, 99, 100, 101, 102, 103] rfl
                        refine vp_callSi (va_Run.run (va_runV (As := [.int xz118, .int xz156]) (rest := []) ⟨hx, hb, hml, hown, hts⟩ (c_X11_isAtRest l dC dI k qX tapeX actsX (qN 0) (qP 0) storyX (qZ 0) orderSearchX routeSearchX setSearchX probeX slot0X slot1X slot2X slot3X image0X image1X image2X az43 qV vV bV cV wV aV eV xz118 xz156 hbV hcV hwV heV (by show 0 ≤ xz118.toInt ∧ xz118.toInt ≤ 2; omega) (by show 0 ≤ xz156.toInt ∧ xz156.toInt ≤ 2; omega)) (cwV 2 hts (gk_V (wl_mem 10 rfl) (wl_mem 11 rfl) (wl_mem 12 rfl) (wl_mem 8 rfl) (fun w h => List.mem_cons_of_mem _ (List.mem_append_right _ (List.mem_append_right _ (List.mem_append_right _ (List.mem_append_right _ (List.mem_append_right _ (List.mem_append_left _ h))))))) wkg_c_X11_isAtRest) rfl rfl rfl (by decide +kernel) ⟨Nat.le_of_ble_eq_true rfl, Nat.le_of_ble_eq_true rfl⟩) ⟨fun a U g mk q => by obtain ⟨q0, qP, qK⟩ := q; exact ⟨q0, qP, va_K.moved (u := U) (U := U.calling g mk a) (Vm.Alike.refl U.vm) qK⟩, va_recv hK hPc (ci := 11) (q0 := 0) rfl rfl, fun U hU hW => ⟨rfl, by rw [hU]; exact hPc, va_K.moved hW.alike hK⟩⟩ rfl rfl hl.1 rfl (lv_room (Nat.le_of_ble_eq_true rfl)) dX11_rests_73 ⟨Nat.le_of_ble_eq_true rfl, Nat.le_of_ble_eq_true rfl⟩)) (fun rz166 gz165 => ?_)
                        clear hPc
                        have pz167 := gz165
                        have pz167 : rz166.toInt = 0 ∨ rz166.toInt = 1 := pz167
                        have ct82_kz173 : ∀ (H : Heap) (locs : List Loc) (ls : Array Slot) (xz172 : Int32), va_P (dC, dI) vwCl (List.flatten [(wSag qX k tapeX (qV 0) actsX (qN 0) (qP 0) storyX (qZ 0) orderSearchX routeSearchX setSearchX probeX slot0X slot1X slot2X slot3X image0X image1X image2X az43), (wPlan qP k vz44 az45 ez46), (wState (sZ 0) k (vz47 0) (nz48 0) (az49 0)), (wState (sZ 1) k (vz47 1) (nz48 1) (az49 1)), (wState (sZ 2) k (vz47 2) (nz48 2) (az49 2)), (wState (sZ 3) k (vz47 3) (nz48 3) (az49 3)), (wState (sZ 4) k (vz47 4) (nz48 4) (az49 4)), (wState (sZ 5) k (vz47 5) (nz48 5) (az49 5)), (wState (sZ 6) k (vz47 6) (nz48 6) (az49 6)), (wState (sZ 7) k (vz47 7) (nz48 7) (az49 7))] ++ List.flatten [(wValley qV k vV bV cV wV aV eV), (wPlan qN k vN aN eN), (wStoO qZ k (qV 0) (qP 0) (sZ 0 0) (sZ 1 0) (sZ 2 0) (sZ 3 0) (sZ 4 0) (sZ 5 0) (sZ 6 0) (sZ 7 0))]) H → va_D A (List.flatten [(wSag qX k tapeX (qV 0) actsX (qN 0) (qP 0) storyX (qZ 0) orderSearchX routeSearchX setSearchX probeX slot0X slot1X slot2X slot3X image0X image1X image2X az43), (wPlan qP k vz44 az45 ez46), (wState (sZ 0) k (vz47 0) (nz48 0) (az49 0)), (wState (sZ 1) k (vz47 1) (nz48 1) (az49 1)), (wState (sZ 2) k (vz47 2) (nz48 2) (az49 2)), (wState (sZ 3) k (vz47 3) (nz48 3) (az49 3)), (wState (sZ 4) k (vz47 4) (nz48 4) (az49 4)), (wState (sZ 5) k (vz47 5) (nz48 5) (az49 5)), (wState (sZ 6) k (vz47 6) (nz48 6) (az49 6)), (wState (sZ 7) k (vz47 7) (nz48 7) (az49 7))] ++ List.flatten [(wValley qV k vV bV cV wV aV eV), (wPlan qN k vN aN eN), (wStoO qZ k (qV 0) (qP 0) (sZ 0 0) (sZ 1 0) (sZ 2 0) (sZ 3 0) (sZ 4 0) (sZ 5 0) (sZ 6 0) (sZ 7 0))]) → va_S A s.heap H locs → lv_has ls 6 [(0, .ref (qX 0)), (3, .int xz172), (4, .int xz118), (5, .int xz156)] → W p l e (headSpec wk_c_X11_rests ({ frames := 5, cells := 0, slots := 0, locals := 176 })).room s m ([.ref (qX 0), .int p1, .int p2] : List Value).toArray below meth c H locs 0 0 Q (F0 m 82 ls []) := by
                          intro H locs ls xz172  hP hD hS hl
                          obtain ⟨xz174, exz174⟩ : ∃ y : Int32, y = xz156 + Int32.ofInt (1) := ⟨_, rfl⟩
                          have fxz174 : xz174.toInt = xz156.toInt + (1) := by rw [exz174]; exact fb_addI (y := Int32.ofInt (1)) (by show -2147483648 ≤ xz156.toInt + (1); omega) (by show xz156.toInt + (1) < 2147483648; omega)
                          refine lv_iinc (v := xz174) (lv' := [(5, .int xz174), (0, .ref (qX 0)), (3, .int xz172), (4, .int xz118)]) hx hb dX11_rests_82 hl (k := 3) rfl exz174.symm (by decide) rfl (fun ls hl => ?_)
                          refine lv_goto (tgt := 56) hx hb dX11_rests_85 (by decide) ?_
                          exact ih56 H locs ls xz172 xz174 (by show (2147483647 - xz174.toInt).toNat < n9_56; omega) (by show 0 ≤ xz174.toInt; omega) hP hD hS (lv_sub hl [1, 2, 3, 0] rfl)
                        refine lv_if_eq (tgt := 82) hx hb dX11_rests_76 (by decide) (fun cz175 => ?_) (fun cz175 => ?_)
                        · skip
                          have zz176 : rz166.toInt = (0 : Int) := zi_eq.mp cz175
                          exact ct82_kz173 H locs ls xz155   hP hD hS (lv_sub hl [0, 1, 2, 3] rfl)
                        · skip
                          have zz177 : ¬ rz166.toInt = (0 : Int) := fun h9 => cz175 (zi_eq.mpr h9)
                          obtain ⟨xz178, exz178⟩ : ∃ y : Int32, y = xz155 + Int32.ofInt (1) := ⟨_, rfl⟩
                          refine lv_iinc (v := xz178) (lv' := [(3, .int xz178), (0, .ref (qX 0)), (4, .int xz118), (5, .int xz156)]) hx hb dX11_rests_79 hl (k := 1) rfl exz178.symm (by decide) rfl (fun ls hl => ?_)
                          exact ct82_kz173 H locs ls xz178   hP hD hS (lv_sub hl [1, 0, 2, 3] rfl)
                  exact lp56_kz157 _ H locs ls xz117 (0 : Int32) (Nat.lt_succ_self _) (by show 0 ≤ (0 : Int); omega) hP hD hS (lv_sub hl [1, 2, 3, 0] rfl)
            exact lp41_kz119 _ H locs ls (0 : Int32) (0 : Int32) (Nat.lt_succ_self _) (by show 0 ≤ (0 : Int); omega) hP hD hS (lv_sub hl [2, 1, 0] rfl)
          · skip
            have zz179 : p1.toInt = p2.toInt := zi_eq.mp cz39
            refine lv_bipush (v := (-2)) hx hb dX11_rests_27 (by decide) ?_
            rw [hQ]
            exact W.iret (v := (-2 : Int32)) hx hb hr (fun t ht hW => ⟨⟨(-2 : Int32), (), rfl, trivial, aX, vP, aP, eP, vZ, nZ, aZ, heP, hnZ, by rw [ht]; exact hP⟩, hS.F ht⟩) hS.2.2 dX11_rests_29
def wk_c_X11_rest : List Cond := .code yX11_rest cX11_rest 5 (some .int) :: ([.fieldLink RX11 19 "SagMemory" "told" "LSagMemory$Valley;", .methodLink RX11 141 yX10_hasCart, .instanceMethod yX10_hasCart, .selects RX10 yX10_hasCart yX10_hasCart, .initialized RX10, .methodLink RX11 323 yX11_playAll, .instanceMethod yX11_playAll, .selects RX11 yX11_playAll yX11_playAll, .initialized RX11, .fieldLink RX11 212 "SagMemory$Valley" "bridges" "I", .methodLink RX11 327 yX11_isAtRest, .instanceMethod yX11_isAtRest, .selects RX11 yX11_isAtRest yX11_isAtRest] ++ (wsX110 ++ (wk_c_X10_hasCart ++ (wk_c_X11_playAll ++ (wsX100 ++ (wk_c_X11_isAtRest ++ []))))))
theorem wkg_c_X11_rest : wk_c_X11_rest.all goodWord = true := by decide +kernel
set_option maxHeartbeats 4000000 in
set_option maxRecDepth 100000 in
theorem c_X11_rest (l : Launch) (dC : Nat → ClassId) (dI : Nat → Nat → Nat) (k : Nat → ClassId) (sz : Nat) (qX : Nat → Nat) (tapeX : Nat) (actsX : Nat) (storyX : Nat) (orderSearchX : Nat) (routeSearchX : Nat) (setSearchX : Nat) (probeX : Nat) (slot0X : Nat) (slot1X : Nat) (slot2X : Nat) (slot3X : Nat) (image0X : Nat) (image1X : Nat) (image2X : Nat) (aX : Nat → Nat → Int32) (qV : Nat → Nat) (vV : Nat → Int32) (bV : Nat → Int32) (cV : Nat → Int32) (wV : Nat → Int32) (aV : Nat → Nat → Int32) (eV : Nat → Nat → Int32) (qN : Nat → Nat) (vN : Nat → Int32) (aN : Nat → Nat → Int32) (eN : Nat → Nat → Int32) (qP : Nat → Nat) (vP : Nat → Int32) (aP : Nat → Nat → Int32) (eP : Nat → Nat → Int32) (qZ : Nat → Nat) (sZ : Nat → Nat → Nat) (vZ : Nat → Nat → Int32) (nZ : Nat → Nat → Int32) (aZ : Nat → Nat → Nat → Int32) (p1 : Int32) (p2 : Int32) (hbV : Rg 0 3 bV) (hcV : Rg 0 7 cV) (hwV : Rg 0 5 wV) (heV : RgA 0 99 eV) (heN : RgA 0 99 eN) (heP : RgA 0 99 eP) (hnZ : ∀ t9, Rg 0 8 (nZ t9)) : Met l yX11_rest wk_c_X11_rest ({ frames := 5, cells := 0, slots := 0, locals := 176 }) (va_Pc [.ref (qX 0), .int p1, .int p2] (fun U => U.heap.size = sz ∧ va_P (dC, dI) vwCl (List.flatten [(wSag qX k tapeX (qV 0) actsX (qN 0) (qP 0) storyX (qZ 0) orderSearchX routeSearchX setSearchX probeX slot0X slot1X slot2X slot3X image0X image1X image2X aX), (wPlan qP k vP aP eP), (wState (sZ 0) k (vZ 0) (nZ 0) (aZ 0)), (wState (sZ 1) k (vZ 1) (nZ 1) (aZ 1)), (wState (sZ 2) k (vZ 2) (nZ 2) (aZ 2)), (wState (sZ 3) k (vZ 3) (nZ 3) (aZ 3)), (wState (sZ 4) k (vZ 4) (nZ 4) (aZ 4)), (wState (sZ 5) k (vZ 5) (nZ 5) (aZ 5)), (wState (sZ 6) k (vZ 6) (nZ 6) (aZ 6)), (wState (sZ 7) k (vZ 7) (nZ 7) (aZ 7))] ++ List.flatten [(wValley qV k vV bV cV wV aV eV), (wPlan qN k vN aN eN), (wStoO qZ k (qV 0) (qP 0) (sZ 0 0) (sZ 1 0) (sZ 2 0) (sZ 3 0) (sZ 4 0) (sZ 5 0) (sZ 6 0) (sZ 7 0))]) U.heap ∧ va_K (dC, dI) vwCl (tK k) U ∧ va_D (fun _ => True) (List.flatten [(wSag qX k tapeX (qV 0) actsX (qN 0) (qP 0) storyX (qZ 0) orderSearchX routeSearchX setSearchX probeX slot0X slot1X slot2X slot3X image0X image1X image2X aX), (wPlan qP k vP aP eP), (wState (sZ 0) k (vZ 0) (nZ 0) (aZ 0)), (wState (sZ 1) k (vZ 1) (nZ 1) (aZ 1)), (wState (sZ 2) k (vZ 2) (nZ 2) (aZ 2)), (wState (sZ 3) k (vZ 3) (nZ 3) (aZ 3)), (wState (sZ 4) k (vZ 4) (nZ 4) (aZ 4)), (wState (sZ 5) k (vZ 5) (nZ 5) (aZ 5)), (wState (sZ 6) k (vZ 6) (nZ 6) (aZ 6)), (wState (sZ 7) k (vZ 7) (nZ 7) (aZ 7))] ++ List.flatten [(wValley qV k vV bV cV wV aV eV), (wPlan qN k vN aN eN), (wStoO qZ k (qV 0) (qP 0) (sZ 0 0) (sZ 1 0) (sZ 2 0) (sZ 3 0) (sZ 4 0) (sZ 5 0) (sZ 6 0) (sZ 7 0))]))) (va_Qi (fun (r : Int32) (_ : Unit) => True) (fun (_ : Unit) (t : State) => ∃ (aX' : Nat → Nat → Int32) (vP' : Nat → Int32) (aP' : Nat → Nat → Int32) (eP' : Nat → Nat → Int32) (vZ' : Nat → Nat → Int32) (nZ' : Nat → Nat → Int32) (aZ' : Nat → Nat → Nat → Int32), RgA 0 99 eP' ∧ (∀ t9, Rg 0 8 (nZ' t9)) ∧ va_P (dC, dI) vwCl (List.flatten [(wSag qX k tapeX (qV 0) actsX (qN 0) (qP 0) storyX (qZ 0) orderSearchX routeSearchX setSearchX probeX slot0X slot1X slot2X slot3X image0X image1X image2X aX'), (wPlan qP k vP' aP' eP'), (wState (sZ 0) k (vZ' 0) (nZ' 0) (aZ' 0)), (wState (sZ 1) k (vZ' 1) (nZ' 1) (aZ' 1)), (wState (sZ 2) k (vZ' 2) (nZ' 2) (aZ' 2)), (wState (sZ 3) k (vZ' 3) (nZ' 3) (aZ' 3)), (wState (sZ 4) k (vZ' 4) (nZ' 4) (aZ' 4)), (wState (sZ 5) k (vZ' 5) (nZ' 5) (aZ' 5)), (wState (sZ 6) k (vZ' 6) (nZ' 6) (aZ' 6)), (wState (sZ 7) k (vZ' 7) (nZ' 7) (aZ' 7))] ++ List.flatten [(wValley qV k vV bV cV wV aV eV), (wPlan qN k vN aN eN), (wStoO qZ k (qV 0) (qP 0) (sZ 0 0) (sZ 1 0) (sZ 2 0) (sZ 3 0) (sZ 4 0) (sZ 5 0) (sZ 6 0) (sZ 7 0))]) t.heap) (va_A (List.flatten [(wSag qX k tapeX (qV 0) actsX (qN 0) (qP 0) storyX (qZ 0) orderSearchX routeSearchX setSearchX probeX slot0X slot1X slot2X slot3X image0X image1X image2X aX), (wPlan qP k vP aP eP), (wState (sZ 0) k (vZ 0) (nZ 0) (aZ 0)), (wState (sZ 1) k (vZ 1) (nZ 1) (aZ 1)), (wState (sZ 2) k (vZ 2) (nZ 2) (aZ 2)), (wState (sZ 3) k (vZ 3) (nZ 3) (aZ 3)), (wState (sZ 4) k (vZ 4) (nZ 4) (aZ 4)), (wState (sZ 5) k (vZ 5) (nZ 5) (aZ 5)), (wState (sZ 6) k (vZ 6) (nZ 6) (aZ 6)), (wState (sZ 7) k (vZ 7) (nZ 7) (aZ 7))] ++ List.flatten [(wValley qV k vV bV cV wV aV eV), (wPlan qN k vN aN eN), (wStoO qZ k (qV 0) (qP 0) (sZ 0 0) (sZ 1 0) (sZ 2 0) (sZ 3 0) (sZ 4 0) (sZ 5 0) (sZ 6 0) (sZ 7 0))]) sz)) 0 0 (va_A (List.flatten [(wSag qX k tapeX (qV 0) actsX (qN 0) (qP 0) storyX (qZ 0) orderSearchX routeSearchX setSearchX probeX slot0X slot1X slot2X slot3X image0X image1X image2X aX), (wPlan qP k vP aP eP), (wState (sZ 0) k (vZ 0) (nZ 0) (aZ 0)), (wState (sZ 1) k (vZ 1) (nZ 1) (aZ 1)), (wState (sZ 2) k (vZ 2) (nZ 2) (aZ 2)), (wState (sZ 3) k (vZ 3) (nZ 3) (aZ 3)), (wState (sZ 4) k (vZ 4) (nZ 4) (aZ 4)), (wState (sZ 5) k (vZ 5) (nZ 5) (aZ 5)), (wState (sZ 6) k (vZ 6) (nZ 6) (aZ 6)), (wState (sZ 7) k (vZ 7) (nZ 7) (aZ 7))] ++ List.flatten [(wValley qV k vV bV cV wV aV eV), (wPlan qN k vN aN eN), (wStoO qZ k (qV 0) (qP 0) (sZ 0 0) (sZ 1 0) (sZ 2 0) (sZ 3 0) (sZ 4 0) (sZ 5 0) (sZ 6 0) (sZ 7 0))]) sz) := by
  refine Met.ofW (cc := cX11_rest) (maxL := 5) (ret := (some .int)) (by decide) rfl ?_
  intro p e s m args below meth c s₁ B hml hv
  obtain ⟨rfl, hsz, hP, hK, hD0⟩ := hv
  have hx := B.exec
  have hb := B.bytes
  have hr := B.returns
  have hts := atoms_spec (ws := wk_c_X11_rest) B.pre
  have hown : s.vm.findClass RX11 = some m.cls := findClass_of_methodNamed B.named
  have hlocks := B.notSynchronized
  subst hsz
  have hD := hD0.self (sz := s.heap.size)
  generalize hAe : va_A (List.flatten [(wSag qX k tapeX (qV 0) actsX (qN 0) (qP 0) storyX (qZ 0) orderSearchX routeSearchX setSearchX probeX slot0X slot1X slot2X slot3X image0X image1X image2X aX), (wPlan qP k vP aP eP), (wState (sZ 0) k (vZ 0) (nZ 0) (aZ 0)), (wState (sZ 1) k (vZ 1) (nZ 1) (aZ 1)), (wState (sZ 2) k (vZ 2) (nZ 2) (aZ 2)), (wState (sZ 3) k (vZ 3) (nZ 3) (aZ 3)), (wState (sZ 4) k (vZ 4) (nZ 4) (aZ 4)), (wState (sZ 5) k (vZ 5) (nZ 5) (aZ 5)), (wState (sZ 6) k (vZ 6) (nZ 6) (aZ 6)), (wState (sZ 7) k (vZ 7) (nZ 7) (aZ 7))] ++ List.flatten [(wValley qV k vV bV cV wV aV eV), (wPlan qN k vN aN eN), (wStoO qZ k (qV 0) (qP 0) (sZ 0 0) (sZ 1 0) (sZ 2 0) (sZ 3 0) (sZ 4 0) (sZ 5 0) (sZ 6 0) (sZ 7 0))]) s.heap.size = A at hD ⊢
  have hA : ∀ q : Nat, s.heap.size ≤ q → A q := fun q h => by rw [← hAe]; exact Or.inr h
  have hS : va_S A s.heap s.heap [] := va_S.rf
  have hP : va_P (dC, dI) vwCl (List.flatten [(wSag qX k tapeX (qV 0) actsX (qN 0) (qP 0) storyX (qZ 0) orderSearchX routeSearchX setSearchX probeX slot0X slot1X slot2X slot3X image0X image1X image2X aX), (wPlan qP k vP aP eP), (wState (sZ 0) k (vZ 0) (nZ 0) (aZ 0)), (wState (sZ 1) k (vZ 1) (nZ 1) (aZ 1)), (wState (sZ 2) k (vZ 2) (nZ 2) (aZ 2)), (wState (sZ 3) k (vZ 3) (nZ 3) (aZ 3)), (wState (sZ 4) k (vZ 4) (nZ 4) (aZ 4)), (wState (sZ 5) k (vZ 5) (nZ 5) (aZ 5)), (wState (sZ 6) k (vZ 6) (nZ 6) (aZ 6)), (wState (sZ 7) k (vZ 7) (nZ 7) (aZ 7))] ++ List.flatten [(wValley qV k vV bV cV wV aV eV), (wPlan qN k vN aN eN), (wStoO qZ k (qV 0) (qP 0) (sZ 0 0) (sZ 1 0) (sZ 2 0) (sZ 3 0) (sZ 4 0) (sZ 5 0) (sZ 6 0) (sZ 7 0))]) s.heap := hP
  have hl := lv_entry ([.ref (qX 0), .int p1, .int p2]) (n := 5) (Nat.le_of_ble_eq_true rfl)
  rw [lg_entry_eq]
  generalize (lg_sl ([.ref (qX 0), .int p1, .int p2]) ++ List.replicate (5 - (lg_sl ([.ref (qX 0), .int p1, .int p2])).length) Slot.unset).toArray = ls at hl ⊢
  have hl : lv_has ls 5 [(0, .ref (qX 0)), (1, .int p1), (2, .int p2)] := hl
  refine w_gen (fun Q hQ => ?_)
  refine lv_aload_n hx hb dX11_rest_0 rfl (lv_at hl 0 rfl) ?_
  refine va_get (D := (dC, dI)) (ci := 11) (v := .ref (qV 0)) (C := RX11) (T := TX11) (N := 15) hx hb hts (fun w h => List.mem_cons_of_mem _ (List.mem_append_right _ (List.mem_append_left _ h))) hown hK hP 0 rfl rfl 1 (by decide) (hts (.fieldLink RX11 19 "SagMemory" "told" "LSagMemory$Valley;") (wl_mem 0 rfl)) (fun _ h9 => h9) rfl dX11_rest_1 ?_
  refine lv_iload_n hx hb dX11_rest_4 rfl (lv_at hl 1 rfl) ?_
  have hPc := hP.sub (ws' := (List.flatten [(wValley qV k vV bV cV wV aV eV)])) [96, 97, 98, 99, 100, 101, 102, 103] rfl
  refine vp_callSi (va_Run.run (va_runV (As := [.int p1]) (rest := []) ⟨hx, hb, hml, hown, hts⟩ (c_X10_hasCart l dC dI k qV vV bV cV wV aV eV p1 hbV hcV hwV heV) (cwV 1 hts (gk_V (wl_mem 1 rfl) (wl_mem 2 rfl) (wl_mem 3 rfl) (wl_mem 4 rfl) (fun w h => List.mem_cons_of_mem _ (List.mem_append_right _ (List.mem_append_right _ (List.mem_append_left _ h)))) wkg_c_X10_hasCart) rfl rfl rfl (by decide +kernel) ⟨Nat.le_of_ble_eq_true rfl, Nat.le_of_ble_eq_true rfl⟩) ⟨fun a U g mk q => by obtain ⟨q0, qP, qK⟩ := q; exact ⟨q0, qP, va_K.moved (u := U) (U := U.calling g mk a) (Vm.Alike.refl U.vm) qK⟩, va_recv hK hPc (ci := 10) (q0 := 0) rfl rfl, fun U hU hW => ⟨rfl, by rw [hU]; exact hPc, va_K.moved hW.alike hK⟩⟩ rfl rfl hl.1 rfl (lv_room (Nat.le_of_ble_eq_true rfl)) dX11_rest_5 ⟨Nat.le_of_ble_eq_true rfl, Nat.le_of_ble_eq_true rfl⟩)) (fun rz2 gz1 => ?_)
  clear hPc
  rcases gz1 with ⟨er, cz3⟩ | ⟨er, cz4, cz5⟩ | ⟨er, cz6, cz7⟩
  · obtain rfl := er.symm
    have bz8 := fb_rng p1
    have zz9 : p1.toInt < (0 : Int) := zi_lt.mp cz3
    refine lv_if_eq (tgt := 27) hx hb dX11_rest_8 (by decide) (fun cz10 => ?_) (fun cz10 => ?_)
    · skip
      refine lv_bipush (v := (-2)) hx hb dX11_rest_27 (by decide) ?_
      rw [hQ]
      exact W.iret (v := (-2 : Int32)) hx hb hr (fun t ht hW => ⟨⟨(-2 : Int32), (), rfl, trivial, aX, vP, aP, eP, vZ, nZ, aZ, heP, hnZ, by rw [ht]; exact hP⟩, hS.F ht⟩) hS.2.2 dX11_rest_29
    · skip
      exact absurd cz10 (by decide)
  · obtain rfl := er.symm
    have bz11 := fb_rng p1
    have zz12 : ¬ p1.toInt < (0 : Int) := fun h9 => cz4 (zi_lt.mpr h9)
    have bz13 := hcV 0
    have zz14 : (cV 0).toInt ≤ p1.toInt := zi_le.mp cz5
    refine lv_if_eq (tgt := 27) hx hb dX11_rest_8 (by decide) (fun cz15 => ?_) (fun cz15 => ?_)
    · skip
      refine lv_bipush (v := (-2)) hx hb dX11_rest_27 (by decide) ?_
      rw [hQ]
      exact W.iret (v := (-2 : Int32)) hx hb hr (fun t ht hW => ⟨⟨(-2 : Int32), (), rfl, trivial, aX, vP, aP, eP, vZ, nZ, aZ, heP, hnZ, by rw [ht]; exact hP⟩, hS.F ht⟩) hS.2.2 dX11_rest_29
    · skip
      exact absurd cz15 (by decide)
  · obtain rfl := er.symm
    have bz16 := fb_rng p1
    have zz17 : ¬ p1.toInt < (0 : Int) := fun h9 => cz6 (zi_lt.mpr h9)
    have bz18 := hcV 0
    have zz19 : ¬ (cV 0).toInt ≤ p1.toInt := fun h9 => cz7 (zi_le.mpr h9)
    refine lv_if_eq (tgt := 27) hx hb dX11_rest_8 (by decide) (fun cz20 => ?_) (fun cz20 => ?_)
    · skip
      exact absurd cz20 (by decide)
    · skip
      refine lv_aload_n hx hb dX11_rest_11 rfl (lv_at hl 0 rfl) ?_
      refine va_get (D := (dC, dI)) (ci := 11) (v := .ref (qV 0)) (C := RX11) (T := TX11) (N := 15) hx hb hts (fun w h => List.mem_cons_of_mem _ (List.mem_append_right _ (List.mem_append_left _ h))) hown hK hP 0 rfl rfl 1 (by decide) (hts (.fieldLink RX11 19 "SagMemory" "told" "LSagMemory$Valley;") (wl_mem 0 rfl)) (fun _ h9 => h9) rfl dX11_rest_12 ?_
      refine lv_iload_n hx hb dX11_rest_15 rfl (lv_at hl 2 rfl) ?_
      have hPc := hP.sub (ws' := (List.flatten [(wValley qV k vV bV cV wV aV eV)])) [96, 97, 98, 99, 100, 101, 102, 103] rfl
      refine vp_callSi (va_Run.run (va_runV (As := [.int p2]) (rest := []) ⟨hx, hb, hml, hown, hts⟩ (c_X10_hasCart l dC dI k qV vV bV cV wV aV eV p2 hbV hcV hwV heV) (cwV 1 hts (gk_V (wl_mem 1 rfl) (wl_mem 2 rfl) (wl_mem 3 rfl) (wl_mem 4 rfl) (fun w h => List.mem_cons_of_mem _ (List.mem_append_right _ (List.mem_append_right _ (List.mem_append_left _ h)))) wkg_c_X10_hasCart) rfl rfl rfl (by decide +kernel) ⟨Nat.le_of_ble_eq_true rfl, Nat.le_of_ble_eq_true rfl⟩) ⟨fun a U g mk q => by obtain ⟨q0, qP, qK⟩ := q; exact ⟨q0, qP, va_K.moved (u := U) (U := U.calling g mk a) (Vm.Alike.refl U.vm) qK⟩, va_recv hK hPc (ci := 10) (q0 := 0) rfl rfl, fun U hU hW => ⟨rfl, by rw [hU]; exact hPc, va_K.moved hW.alike hK⟩⟩ rfl rfl hl.1 rfl (lv_room (Nat.le_of_ble_eq_true rfl)) dX11_rest_16 ⟨Nat.le_of_ble_eq_true rfl, Nat.le_of_ble_eq_true rfl⟩)) (fun rz22 gz21 => ?_)
      clear hPc
      rcases gz21 with ⟨er, cz23⟩ | ⟨er, cz24, cz25⟩ | ⟨er, cz26, cz27⟩
      · obtain rfl := er.symm
        have bz28 := fb_rng p2
        have zz29 : p2.toInt < (0 : Int) := zi_lt.mp cz23
        refine lv_if_eq (tgt := 27) hx hb dX11_rest_19 (by decide) (fun cz30 => ?_) (fun cz30 => ?_)
        · skip
          refine lv_bipush (v := (-2)) hx hb dX11_rest_27 (by decide) ?_
          rw [hQ]
          exact W.iret (v := (-2 : Int32)) hx hb hr (fun t ht hW => ⟨⟨(-2 : Int32), (), rfl, trivial, aX, vP, aP, eP, vZ, nZ, aZ, heP, hnZ, by rw [ht]; exact hP⟩, hS.F ht⟩) hS.2.2 dX11_rest_29
        · skip
          exact absurd cz30 (by decide)
      · obtain rfl := er.symm
        have bz31 := fb_rng p2
        have zz32 : ¬ p2.toInt < (0 : Int) := fun h9 => cz24 (zi_lt.mpr h9)
        have zz33 : (cV 0).toInt ≤ p2.toInt := zi_le.mp cz25
        refine lv_if_eq (tgt := 27) hx hb dX11_rest_19 (by decide) (fun cz34 => ?_) (fun cz34 => ?_)
        · skip
          refine lv_bipush (v := (-2)) hx hb dX11_rest_27 (by decide) ?_
          rw [hQ]
          exact W.iret (v := (-2 : Int32)) hx hb hr (fun t ht hW => ⟨⟨(-2 : Int32), (), rfl, trivial, aX, vP, aP, eP, vZ, nZ, aZ, heP, hnZ, by rw [ht]; exact hP⟩, hS.F ht⟩) hS.2.2 dX11_rest_29
        · skip
          exact absurd cz34 (by decide)
      · obtain rfl := er.symm
        have bz35 := fb_rng p2
        have zz36 : ¬ p2.toInt < (0 : Int) := fun h9 => cz26 (zi_lt.mpr h9)
        have zz37 : ¬ (cV 0).toInt ≤ p2.toInt := fun h9 => cz27 (zi_le.mpr h9)
        refine lv_if_eq (tgt := 27) hx hb dX11_rest_19 (by decide) (fun cz38 => ?_) (fun cz38 => ?_)
        · skip
          exact absurd cz38 (by decide)
        · skip
          refine lv_iload_n hx hb dX11_rest_22 rfl (lv_at hl 1 rfl) ?_
          refine lv_iload_n hx hb dX11_rest_23 rfl (lv_at hl 2 rfl) ?_
          refine lv_icmp_ne (tgt := 30) hx hb dX11_rest_24 (by decide) (fun cz39 => ?_) (fun cz39 => ?_)
          · skip
            have zz40 : ¬ p1.toInt = p2.toInt := fun h9 => cz39 (zi_eq.mpr h9)
            refine lv_aload_n hx hb dX11_rest_30 rfl (lv_at hl 0 rfl) ?_
            refine lv_iload_n hx hb dX11_rest_31 rfl (lv_at hl 1 rfl) ?_
            refine lv_iload_n hx hb dX11_rest_32 rfl (lv_at hl 2 rfl) ?_
            have hPc := hP
            have hDc : va_D A (List.flatten [(wSag qX k tapeX (qV 0) actsX (qN 0) (qP 0) storyX (qZ 0) orderSearchX routeSearchX setSearchX probeX slot0X slot1X slot2X slot3X image0X image1X image2X aX), (wPlan qP k vP aP eP), (wState (sZ 0) k (vZ 0) (nZ 0) (aZ 0)), (wState (sZ 1) k (vZ 1) (nZ 1) (aZ 1)), (wState (sZ 2) k (vZ 2) (nZ 2) (aZ 2)), (wState (sZ 3) k (vZ 3) (nZ 3) (aZ 3)), (wState (sZ 4) k (vZ 4) (nZ 4) (aZ 4)), (wState (sZ 5) k (vZ 5) (nZ 5) (aZ 5)), (wState (sZ 6) k (vZ 6) (nZ 6) (aZ 6)), (wState (sZ 7) k (vZ 7) (nZ 7) (aZ 7))] ++ List.flatten [(wValley qV k vV bV cV wV aV eV), (wPlan qN k vN aN eN), (wStoO qZ k (qV 0) (qP 0) (sZ 0 0) (sZ 1 0) (sZ 2 0) (sZ 3 0) (sZ 4 0) (sZ 5 0) (sZ 6 0) (sZ 7 0))]) := wc_subD hD [0, 1, 2, 3, 4, 5, 6, 7, 8, 9, 10, 11, 12] rfl rfl
            have hFc := wc_free hDc hS hA
            refine va_callv (va_runV (As := [.int p1, .int p2]) (rest := []) ⟨hx, hb, hml, hown, hts⟩ (c_X11_playAll l dC dI k s.heap.size qX tapeX actsX storyX orderSearchX routeSearchX setSearchX probeX slot0X slot1X slot2X slot3X image0X image1X image2X aX qV vV bV cV wV aV eV qN vN aN eN qP vP aP eP qZ sZ vZ nZ aZ p1 p2 hbV hcV hwV heV heN heP hnZ (by show 0 ≤ p1.toInt ∧ p1.toInt ≤ 6; omega) (by show 0 ≤ p2.toInt ∧ p2.toInt ≤ 6; omega)) (cwV 2 hts (gk_V (wl_mem 5 rfl) (wl_mem 6 rfl) (wl_mem 7 rfl) (wl_mem 8 rfl) (fun w h => List.mem_cons_of_mem _ (List.mem_append_right _ (List.mem_append_right _ (List.mem_append_right _ (List.mem_append_left _ h))))) wkg_c_X11_playAll) rfl rfl rfl (by decide +kernel) ⟨Nat.le_of_ble_eq_true rfl, Nat.le_of_ble_eq_true rfl⟩) ⟨fun a U g mk q => by obtain ⟨q0, q1, qP, qK, qD⟩ := q; exact ⟨q0, q1, qP, va_K.moved (u := U) (U := U.calling g mk a) (Vm.Alike.refl U.vm) qK, qD⟩, va_recv hK hPc (ci := 11) (q0 := 0) rfl rfl, fun U hU hW => ⟨rfl, by rw [hU], by rw [hU]; exact hPc, va_K.moved hW.alike hK, hDc.weaken (fun _ _ _ _ => trivial)⟩⟩ rfl rfl hl.1 rfl (lv_room (Nat.le_of_ble_eq_true rfl)) dX11_rest_33 ⟨Nat.le_of_ble_eq_true rfl, Nat.le_of_ble_eq_true rfl⟩) hS (fun q _ h => hFc q h) hFc (fun u t H1 locs ht hvm gz41 hB hz1 hk1 hS => ?_)
            obtain ⟨az43, vz44, az45, ez46, vz47, nz48, az49, hez46, hnz48, hP1⟩ := hB
            rw [ht] at hP1
            obtain ⟨hP, hD⟩ := w_callR hP hD hk1 hP1 [0, 1, 2, 3, 4, 5, 6, 7, 8, 9] rfl rfl (wk_memC [10, 11, 12] rfl) rfl [some 0, some 1, some 2, some 3, some 4, some 5, some 6, some 7, some 8, some 9] rfl rfl
            clear hPc hDc hFc hk1 hP1
            generalize H1 = H at hP hS ⊢
            have hP : va_P (dC, dI) vwCl (List.flatten [(wSag qX k tapeX (qV 0) actsX (qN 0) (qP 0) storyX (qZ 0) orderSearchX routeSearchX setSearchX probeX slot0X slot1X slot2X slot3X image0X image1X image2X az43), (wPlan qP k vz44 az45 ez46), (wState (sZ 0) k (vz47 0) (nz48 0) (az49 0)), (wState (sZ 1) k (vz47 1) (nz48 1) (az49 1)), (wState (sZ 2) k (vz47 2) (nz48 2) (az49 2)), (wState (sZ 3) k (vz47 3) (nz48 3) (az49 3)), (wState (sZ 4) k (vz47 4) (nz48 4) (az49 4)), (wState (sZ 5) k (vz47 5) (nz48 5) (az49 5)), (wState (sZ 6) k (vz47 6) (nz48 6) (az49 6)), (wState (sZ 7) k (vz47 7) (nz48 7) (az49 7))] ++ List.flatten [(wValley qV k vV bV cV wV aV eV), (wPlan qN k vN aN eN), (wStoO qZ k (qV 0) (qP 0) (sZ 0 0) (sZ 1 0) (sZ 2 0) (sZ 3 0) (sZ 4 0) (sZ 5 0) (sZ 6 0) (sZ 7 0))]) H := hP
            have hD : va_D A (List.flatten [(wSag qX k tapeX (qV 0) actsX (qN 0) (qP 0) storyX (qZ 0) orderSearchX routeSearchX setSearchX probeX slot0X slot1X slot2X slot3X image0X image1X image2X az43), (wPlan qP k vz44 az45 ez46), (wState (sZ 0) k (vz47 0) (nz48 0) (az49 0)), (wState (sZ 1) k (vz47 1) (nz48 1) (az49 1)), (wState (sZ 2) k (vz47 2) (nz48 2) (az49 2)), (wState (sZ 3) k (vz47 3) (nz48 3) (az49 3)), (wState (sZ 4) k (vz47 4) (nz48 4) (az49 4)), (wState (sZ 5) k (vz47 5) (nz48 5) (az49 5)), (wState (sZ 6) k (vz47 6) (nz48 6) (az49 6)), (wState (sZ 7) k (vz47 7) (nz48 7) (az49 7))] ++ List.flatten [(wValley qV k vV bV cV wV aV eV), (wPlan qN k vN aN eN), (wStoO qZ k (qV 0) (qP 0) (sZ 0 0) (sZ 1 0) (sZ 2 0) (sZ 3 0) (sZ 4 0) (sZ 5 0) (sZ 6 0) (sZ 7 0))]) := hD
            refine W.widen (k := 0) (n := 0) (Nat.le_refl 0) (Nat.le_refl 0) ?_
            refine lv_iconst (v := 0) hx hb dX11_rest_36 (by decide) ?_
            refine lv_istore_n (lv' := [(3, .int 0), (0, .ref (qX 0)), (1, .int p1), (2, .int p2)]) hx hb dX11_rest_37 rfl hl (by decide) rfl (fun ls hl => ?_)
            have lp38_kz101 : ∀ (n9_38 : Nat) (H : Heap) (locs : List Loc) (ls : Array Slot) (xz100 : Int32), (2147483647 - xz100.toInt).toNat < n9_38 → 0 ≤ xz100.toInt → va_P (dC, dI) vwCl (List.flatten [(wSag qX k tapeX (qV 0) actsX (qN 0) (qP 0) storyX (qZ 0) orderSearchX routeSearchX setSearchX probeX slot0X slot1X slot2X slot3X image0X image1X image2X az43), (wPlan qP k vz44 az45 ez46), (wState (sZ 0) k (vz47 0) (nz48 0) (az49 0)), (wState (sZ 1) k (vz47 1) (nz48 1) (az49 1)), (wState (sZ 2) k (vz47 2) (nz48 2) (az49 2)), (wState (sZ 3) k (vz47 3) (nz48 3) (az49 3)), (wState (sZ 4) k (vz47 4) (nz48 4) (az49 4)), (wState (sZ 5) k (vz47 5) (nz48 5) (az49 5)), (wState (sZ 6) k (vz47 6) (nz48 6) (az49 6)), (wState (sZ 7) k (vz47 7) (nz48 7) (az49 7))] ++ List.flatten [(wValley qV k vV bV cV wV aV eV), (wPlan qN k vN aN eN), (wStoO qZ k (qV 0) (qP 0) (sZ 0 0) (sZ 1 0) (sZ 2 0) (sZ 3 0) (sZ 4 0) (sZ 5 0) (sZ 6 0) (sZ 7 0))]) H → va_D A (List.flatten [(wSag qX k tapeX (qV 0) actsX (qN 0) (qP 0) storyX (qZ 0) orderSearchX routeSearchX setSearchX probeX slot0X slot1X slot2X slot3X image0X image1X image2X az43), (wPlan qP k vz44 az45 ez46), (wState (sZ 0) k (vz47 0) (nz48 0) (az49 0)), (wState (sZ 1) k (vz47 1) (nz48 1) (az49 1)), (wState (sZ 2) k (vz47 2) (nz48 2) (az49 2)), (wState (sZ 3) k (vz47 3) (nz48 3) (az49 3)), (wState (sZ 4) k (vz47 4) (nz48 4) (az49 4)), (wState (sZ 5) k (vz47 5) (nz48 5) (az49 5)), (wState (sZ 6) k (vz47 6) (nz48 6) (az49 6)), (wState (sZ 7) k (vz47 7) (nz48 7) (az49 7))] ++ List.flatten [(wValley qV k vV bV cV wV aV eV), (wPlan qN k vN aN eN), (wStoO qZ k (qV 0) (qP 0) (sZ 0 0) (sZ 1 0) (sZ 2 0) (sZ 3 0) (sZ 4 0) (sZ 5 0) (sZ 6 0) (sZ 7 0))]) → va_S A s.heap H locs → lv_has ls 5 [(0, .ref (qX 0)), (3, .int xz100)] → W p l e (headSpec wk_c_X11_rest ({ frames := 5, cells := 0, slots := 0, locals := 176 })).room s m ([.ref (qX 0), .int p1, .int p2] : List Value).toArray below meth c H locs 0 0 Q (F0 m 38 ls []) := by
              intro n9_38
              induction n9_38 with
              | zero => intro H locs ls xz100 hm; exact absurd hm (Nat.not_lt_zero _)
              | succ n9_38 ih38 =>
                intro H locs ls xz100 hm38 jz102 hP hD hS hl
                refine lv_iload_n hx hb dX11_rest_38 rfl (lv_at hl 1 rfl) ?_
                refine lv_aload_n hx hb dX11_rest_39 rfl (lv_at hl 0 rfl) ?_
                refine va_get (D := (dC, dI)) (ci := 11) (v := .ref (qV 0)) (C := RX11) (T := TX11) (N := 15) hx hb hts (fun w h => List.mem_cons_of_mem _ (List.mem_append_right _ (List.mem_append_left _ h))) hown hK hP 0 rfl rfl 1 (by decide) (hts (.fieldLink RX11 19 "SagMemory" "told" "LSagMemory$Valley;") (wl_mem 0 rfl)) (fun _ h9 => h9) rfl dX11_rest_40 ?_
                refine va_get (D := (dC, dI)) (ci := 10) (v := .int (bV 0)) (C := RX10) (T := TX10) (N := 16) hx hb hts (fun w h => List.mem_cons_of_mem _ (List.mem_append_right _ (List.mem_append_right _ (List.mem_append_right _ (List.mem_append_right _ (List.mem_append_left _ h)))))) hown hK hP 96 rfl rfl 11 (by decide) (hts (.fieldLink RX11 212 "SagMemory$Valley" "bridges" "I") (wl_mem 9 rfl)) (fun _ h9 => h9) rfl dX11_rest_43 ?_
                have bz103 := hbV 0
                refine lv_icmp_ge (tgt := 94) hx hb dX11_rest_46 (by decide) (fun cz104 => ?_) (fun cz104 => ?_)
                · skip
                  have bz105 := fb_rng xz100
                  have zz106 : (bV 0).toInt ≤ xz100.toInt := zi_le.mp cz104
                  refine lv_iconst (v := (-1)) hx hb dX11_rest_94 (by decide) ?_
                  rw [hQ]
                  exact W.iret (v := (-1 : Int32)) hx hb hr (fun t ht hW => ⟨⟨(-1 : Int32), (), rfl, trivial, az43, vz44, az45, ez46, vz47, nz48, az49, hez46, hnz48, by rw [ht]; exact hP⟩, hS.F ht⟩) hS.2.2 dX11_rest_95
                · skip
                  have bz107 := fb_rng xz100
                  have zz108 : ¬ (bV 0).toInt ≤ xz100.toInt := fun h9 => cz104 (zi_le.mpr h9)
                  refine lv_iconst (v := 0) hx hb dX11_rest_49 (by decide) ?_
                  refine lv_istore (lv' := [(4, .int 0), (0, .ref (qX 0)), (3, .int xz100)]) hx hb dX11_rest_50 hl (by decide) rfl (fun ls hl => ?_)
                  have lp52_kz130 : ∀ (n9_52 : Nat) (H : Heap) (locs : List Loc) (ls : Array Slot) (xz129 : Int32), (2147483647 - xz129.toInt).toNat < n9_52 → 0 ≤ xz129.toInt → va_P (dC, dI) vwCl (List.flatten [(wSag qX k tapeX (qV 0) actsX (qN 0) (qP 0) storyX (qZ 0) orderSearchX routeSearchX setSearchX probeX slot0X slot1X slot2X slot3X image0X image1X image2X az43), (wPlan qP k vz44 az45 ez46), (wState (sZ 0) k (vz47 0) (nz48 0) (az49 0)), (wState (sZ 1) k (vz47 1) (nz48 1) (az49 1)), (wState (sZ 2) k (vz47 2) (nz48 2) (az49 2)), (wState (sZ 3) k (vz47 3) (nz48 3) (az49 3)), (wState (sZ 4) k (vz47 4) (nz48 4) (az49 4)), (wState (sZ 5) k (vz47 5) (nz48 5) (az49 5)), (wState (sZ 6) k (vz47 6) (nz48 6) (az49 6)), (wState (sZ 7) k (vz47 7) (nz48 7) (az49 7))] ++ List.flatten [(wValley qV k vV bV cV wV aV eV), (wPlan qN k vN aN eN), (wStoO qZ k (qV 0) (qP 0) (sZ 0 0) (sZ 1 0) (sZ 2 0) (sZ 3 0) (sZ 4 0) (sZ 5 0) (sZ 6 0) (sZ 7 0))]) H → va_D A (List.flatten [(wSag qX k tapeX (qV 0) actsX (qN 0) (qP 0) storyX (qZ 0) orderSearchX routeSearchX setSearchX probeX slot0X slot1X slot2X slot3X image0X image1X image2X az43), (wPlan qP k vz44 az45 ez46), (wState (sZ 0) k (vz47 0) (nz48 0) (az49 0)), (wState (sZ 1) k (vz47 1) (nz48 1) (az49 1)), (wState (sZ 2) k (vz47 2) (nz48 2) (az49 2)), (wState (sZ 3) k (vz47 3) (nz48 3) (az49 3)), (wState (sZ 4) k (vz47 4) (nz48 4) (az49 4)), (wState (sZ 5) k (vz47 5) (nz48 5) (az49 5)), (wState (sZ 6) k (vz47 6) (nz48 6) (az49 6)), (wState (sZ 7) k (vz47 7) (nz48 7) (az49 7))] ++ List.flatten [(wValley qV k vV bV cV wV aV eV), (wPlan qN k vN aN eN), (wStoO qZ k (qV 0) (qP 0) (sZ 0 0) (sZ 1 0) (sZ 2 0) (sZ 3 0) (sZ 4 0) (sZ 5 0) (sZ 6 0) (sZ 7 0))]) → va_S A s.heap H locs → lv_has ls 5 [(0, .ref (qX 0)), (3, .int xz100), (4, .int xz129)] → W p l e (headSpec wk_c_X11_rest ({ frames := 5, cells := 0, slots := 0, locals := 176 })).room s m ([.ref (qX 0), .int p1, .int p2] : List Value).toArray below meth c H locs 0 0 Q (F0 m 52 ls []) := by
                    intro n9_52
                    induction n9_52 with
                    | zero => intro H locs ls xz129 hm; exact absurd hm (Nat.not_lt_zero _)
                    | succ n9_52 ih52 =>
                      intro H locs ls xz129 hm52 jz131 hP hD hS hl
                      refine lv_iload hx hb dX11_rest_52 (lv_at hl 2 rfl) ?_
                      refine lv_aload_n hx hb dX11_rest_54 rfl (lv_at hl 0 rfl) ?_
                      refine va_get (D := (dC, dI)) (ci := 11) (v := .ref (qV 0)) (C := RX11) (T := TX11) (N := 15) hx hb hts (fun w h => List.mem_cons_of_mem _ (List.mem_append_right _ (List.mem_append_left _ h))) hown hK hP 0 rfl rfl 1 (by decide) (hts (.fieldLink RX11 19 "SagMemory" "told" "LSagMemory$Valley;") (wl_mem 0 rfl)) (fun _ h9 => h9) rfl dX11_rest_55 ?_
                      refine va_get (D := (dC, dI)) (ci := 10) (v := .int (bV 0)) (C := RX10) (T := TX10) (N := 16) hx hb hts (fun w h => List.mem_cons_of_mem _ (List.mem_append_right _ (List.mem_append_right _ (List.mem_append_right _ (List.mem_append_right _ (List.mem_append_left _ h)))))) hown hK hP 96 rfl rfl 11 (by decide) (hts (.fieldLink RX11 212 "SagMemory$Valley" "bridges" "I") (wl_mem 9 rfl)) (fun _ h9 => h9) rfl dX11_rest_58 ?_
                      refine lv_icmp_ge (tgt := 88) hx hb dX11_rest_61 (by decide) (fun cz132 => ?_) (fun cz132 => ?_)
                      · skip
                        have bz133 := fb_rng xz129
                        have zz134 : (bV 0).toInt ≤ xz129.toInt := zi_le.mp cz132
                        obtain ⟨xz135, exz135⟩ : ∃ y : Int32, y = xz100 + Int32.ofInt (1) := ⟨_, rfl⟩
                        have fxz135 : xz135.toInt = xz100.toInt + (1) := by rw [exz135]; exact fb_addI (y := Int32.ofInt (1)) (by show -2147483648 ≤ xz100.toInt + (1); omega) (by show xz100.toInt + (1) < 2147483648; omega)
                        refine lv_iinc (v := xz135) (lv' := [(3, .int xz135), (0, .ref (qX 0)), (4, .int xz129)]) hx hb dX11_rest_88 hl (k := 1) rfl exz135.symm (by decide) rfl (fun ls hl => ?_)
                        refine lv_goto (tgt := 38) hx hb dX11_rest_91 (by decide) ?_
                        exact ih38 H locs ls xz135 (by show (2147483647 - xz135.toInt).toNat < n9_38; omega) (by show 0 ≤ xz135.toInt; omega) hP hD hS (lv_sub hl [1, 0] rfl)
                      · skip
                        have bz136 := fb_rng xz129
                        have zz137 : ¬ (bV 0).toInt ≤ xz129.toInt := fun h9 => cz132 (zi_le.mpr h9)
                        refine lv_aload_n hx hb dX11_rest_64 rfl (lv_at hl 0 rfl) ?_
                        refine lv_iload_n hx hb dX11_rest_65 rfl (lv_at hl 1 rfl) ?_
                        refine lv_iload hx hb dX11_rest_66 (lv_at hl 2 rfl) ?_
                        have hPc := hP.sub (ws' := (List.flatten [(wSag qX k tapeX (qV 0) actsX (qN 0) (qP 0) storyX (qZ 0) orderSearchX routeSearchX setSearchX probeX slot0X slot1X slot2X slot3X image0X image1X image2X az43), (wValley qV k vV bV cV wV aV eV)])) [0, 1, 2, 3, 4, 96, 97, 98, 99, 100, 101, 102, 103] rfl
                        refine vp_callSi (va_Run.run (va_runV (As := [.int xz100, .int xz129]) (rest := []) ⟨hx, hb, hml, hown, hts⟩ (c_X11_isAtRest l dC dI k qX tapeX actsX (qN 0) (qP 0) storyX (qZ 0) orderSearchX routeSearchX setSearchX probeX slot0X slot1X slot2X slot3X image0X image1X image2X az43 qV vV bV cV wV aV eV xz100 xz129 hbV hcV hwV heV (by show 0 ≤ xz100.toInt ∧ xz100.toInt ≤ 2; omega) (by show 0 ≤ xz129.toInt ∧ xz129.toInt ≤ 2; omega)) (cwV 2 hts (gk_V (wl_mem 10 rfl) (wl_mem 11 rfl) (wl_mem 12 rfl) (wl_mem 8 rfl) (fun w h => List.mem_cons_of_mem _ (List.mem_append_right _ (List.mem_append_right _ (List.mem_append_right _ (List.mem_append_right _ (List.mem_append_right _ (List.mem_append_left _ h))))))) wkg_c_X11_isAtRest) rfl rfl rfl (by decide +kernel) ⟨Nat.le_of_ble_eq_true rfl, Nat.le_of_ble_eq_true rfl⟩) ⟨fun a U g mk q => by obtain ⟨q0, qP, qK⟩ := q; exact ⟨q0, qP, va_K.moved (u := U) (U := U.calling g mk a) (Vm.Alike.refl U.vm) qK⟩, va_recv hK hPc (ci := 11) (q0 := 0) rfl rfl, fun U hU hW => ⟨rfl, by rw [hU]; exact hPc, va_K.moved hW.alike hK⟩⟩ rfl rfl hl.1 rfl (lv_room (Nat.le_of_ble_eq_true rfl)) dX11_rest_68 ⟨Nat.le_of_ble_eq_true rfl, Nat.le_of_ble_eq_true rfl⟩)) (fun rz139 gz138 => ?_)
                        clear hPc
                        have pz140 := gz138
                        have pz140 : rz139.toInt = 0 ∨ rz139.toInt = 1 := pz140
                        refine lv_if_eq (tgt := 82) hx hb dX11_rest_71 (by decide) (fun cz141 => ?_) (fun cz141 => ?_)
                        · skip
                          have zz142 : rz139.toInt = (0 : Int) := zi_eq.mp cz141
                          obtain ⟨xz143, exz143⟩ : ∃ y : Int32, y = xz129 + Int32.ofInt (1) := ⟨_, rfl⟩
                          have fxz143 : xz143.toInt = xz129.toInt + (1) := by rw [exz143]; exact fb_addI (y := Int32.ofInt (1)) (by show -2147483648 ≤ xz129.toInt + (1); omega) (by show xz129.toInt + (1) < 2147483648; omega)
                          refine lv_iinc (v := xz143) (lv' := [(4, .int xz143), (0, .ref (qX 0)), (3, .int xz100)]) hx hb dX11_rest_82 hl (k := 2) rfl exz143.symm (by decide) rfl (fun ls hl => ?_)
                          refine lv_goto (tgt := 52) hx hb dX11_rest_85 (by decide) ?_
                          exact ih52 H locs ls xz143 (by show (2147483647 - xz143.toInt).toNat < n9_52; omega) (by show 0 ≤ xz143.toInt; omega) hP hD hS (lv_sub hl [1, 2, 0] rfl)
                        · skip
                          have zz144 : ¬ rz139.toInt = (0 : Int) := fun h9 => cz141 (zi_eq.mpr h9)
                          refine lv_bipush (v := 10) hx hb dX11_rest_74 (by decide) ?_
                          refine lv_iload_n hx hb dX11_rest_76 rfl (lv_at hl 1 rfl) ?_
                          refine lv_imul hx hb dX11_rest_77 ?_
                          refine lv_topi (fun xz145 exz145 => ?_)
                          have fxz145 : xz145.toInt = (10 : Int) * xz100.toInt := by rw [exz145]; exact fb_mulI (x := (10 : Int32)) (y := xz100) (by show -2147483648 ≤ (10 : Int) * xz100.toInt; omega) (by show (10 : Int) * xz100.toInt < 2147483648; omega)
                          refine lv_iload hx hb dX11_rest_78 (lv_at hl 2 rfl) ?_
                          refine lv_iadd hx hb dX11_rest_80 ?_
                          refine lv_topi (fun xz146 exz146 => ?_)
                          have fxz146 : xz146.toInt = xz145.toInt + xz129.toInt := by rw [exz146]; exact fb_addI (x := xz145) (y := xz129) (by show -2147483648 ≤ xz145.toInt + xz129.toInt; omega) (by show xz145.toInt + xz129.toInt < 2147483648; omega)
                          rw [hQ]
                          exact W.iret (v := xz146) hx hb hr (fun t ht hW => ⟨⟨xz146, (), rfl, trivial, az43, vz44, az45, ez46, vz47, nz48, az49, hez46, hnz48, by rw [ht]; exact hP⟩, hS.F ht⟩) hS.2.2 dX11_rest_81
                  exact lp52_kz130 _ H locs ls (0 : Int32) (Nat.lt_succ_self _) (by show 0 ≤ (0 : Int); omega) hP hD hS (lv_sub hl [1, 2, 0] rfl)
            exact lp38_kz101 _ H locs ls (0 : Int32) (Nat.lt_succ_self _) (by show 0 ≤ (0 : Int); omega) hP hD hS (lv_sub hl [1, 0] rfl)
          · skip
            have zz147 : p1.toInt = p2.toInt := zi_eq.mp cz39
            refine lv_bipush (v := (-2)) hx hb dX11_rest_27 (by decide) ?_
            rw [hQ]
            exact W.iret (v := (-2 : Int32)) hx hb hr (fun t ht hW => ⟨⟨(-2 : Int32), (), rfl, trivial, aX, vP, aP, eP, vZ, nZ, aZ, heP, hnZ, by rw [ht]; exact hP⟩, hS.F ht⟩) hS.2.2 dX11_rest_29
def wk_c_X11_drawn : List Cond := .code yX11_drawn cX11_drawn 4 (some .int) :: ([.methodLink RX11 180 yX11_noValley, .instanceMethod yX11_noValley, .selects RX11 yX11_noValley yX11_noValley, .initialized RX11, .constant RX11 349 (2000000000), .methodLink RX11 350 yX11_winterOf, .instanceMethod yX11_winterOf, .selects RX11 yX11_winterOf yX11_winterOf, .methodLink RX11 264 yX11_sagInCold, .instanceMethod yX11_sagInCold, .selects RX11 yX11_sagInCold yX11_sagInCold] ++ (wk_c_X11_noValley ++ (wk_c_X11_winterOf ++ (wk_c_X11_sagInCold ++ []))))
theorem wkg_c_X11_drawn : wk_c_X11_drawn.all goodWord = true := by decide +kernel
set_option maxHeartbeats 4000000 in
set_option maxRecDepth 100000 in
theorem c_X11_drawn (l : Launch) (dC : Nat → ClassId) (dI : Nat → Nat → Nat) (k : Nat → ClassId) (sz : Nat) (qX : Nat → Nat) (tapeX : Nat) (actsX : Nat) (storyX : Nat) (orderSearchX : Nat) (routeSearchX : Nat) (setSearchX : Nat) (probeX : Nat) (slot0X : Nat) (slot1X : Nat) (slot2X : Nat) (slot3X : Nat) (image0X : Nat) (image1X : Nat) (image2X : Nat) (aX : Nat → Nat → Int32) (qV : Nat → Nat) (vV : Nat → Int32) (bV : Nat → Int32) (cV : Nat → Int32) (wV : Nat → Int32) (aV : Nat → Nat → Int32) (eV : Nat → Nat → Int32) (qN : Nat → Nat) (vN : Nat → Int32) (aN : Nat → Nat → Int32) (eN : Nat → Nat → Int32) (qP : Nat → Nat) (vP : Nat → Int32) (aP : Nat → Nat → Int32) (eP : Nat → Nat → Int32) (qZ : Nat → Nat) (sZ : Nat → Nat → Nat) (vZ : Nat → Nat → Int32) (nZ : Nat → Nat → Int32) (aZ : Nat → Nat → Nat → Int32) (p1 : Int32) (p2 : Int32) (hbV : Rg 0 3 bV) (hcV : Rg 0 7 cV) (hwV : Rg 0 5 wV) (heV : RgA 0 99 eV) (heN : RgA 0 99 eN) (heP : RgA 0 99 eP) (hnZ : ∀ t9, Rg 0 8 (nZ t9)) : Met l yX11_drawn wk_c_X11_drawn ({ frames := 6, cells := 0, slots := 0, locals := 194 }) (va_Pc [.ref (qX 0), .int p1, .int p2] (fun U => U.heap.size = sz ∧ va_P (dC, dI) vwCl (List.flatten [(wPlan qP k vP aP eP), (wState (sZ 0) k (vZ 0) (nZ 0) (aZ 0)), (wState (sZ 1) k (vZ 1) (nZ 1) (aZ 1)), (wState (sZ 2) k (vZ 2) (nZ 2) (aZ 2)), (wState (sZ 3) k (vZ 3) (nZ 3) (aZ 3)), (wState (sZ 4) k (vZ 4) (nZ 4) (aZ 4)), (wState (sZ 5) k (vZ 5) (nZ 5) (aZ 5)), (wState (sZ 6) k (vZ 6) (nZ 6) (aZ 6)), (wState (sZ 7) k (vZ 7) (nZ 7) (aZ 7))] ++ List.flatten [(wSag qX k tapeX (qV 0) actsX (qN 0) (qP 0) storyX (qZ 0) orderSearchX routeSearchX setSearchX probeX slot0X slot1X slot2X slot3X image0X image1X image2X aX), (wValley qV k vV bV cV wV aV eV), (wPlan qN k vN aN eN), (wStoO qZ k (qV 0) (qP 0) (sZ 0 0) (sZ 1 0) (sZ 2 0) (sZ 3 0) (sZ 4 0) (sZ 5 0) (sZ 6 0) (sZ 7 0))]) U.heap ∧ va_K (dC, dI) vwCl (tK k) U ∧ va_D (fun _ => True) (List.flatten [(wPlan qP k vP aP eP), (wState (sZ 0) k (vZ 0) (nZ 0) (aZ 0)), (wState (sZ 1) k (vZ 1) (nZ 1) (aZ 1)), (wState (sZ 2) k (vZ 2) (nZ 2) (aZ 2)), (wState (sZ 3) k (vZ 3) (nZ 3) (aZ 3)), (wState (sZ 4) k (vZ 4) (nZ 4) (aZ 4)), (wState (sZ 5) k (vZ 5) (nZ 5) (aZ 5)), (wState (sZ 6) k (vZ 6) (nZ 6) (aZ 6)), (wState (sZ 7) k (vZ 7) (nZ 7) (aZ 7))] ++ List.flatten [(wSag qX k tapeX (qV 0) actsX (qN 0) (qP 0) storyX (qZ 0) orderSearchX routeSearchX setSearchX probeX slot0X slot1X slot2X slot3X image0X image1X image2X aX), (wValley qV k vV bV cV wV aV eV), (wPlan qN k vN aN eN), (wStoO qZ k (qV 0) (qP 0) (sZ 0 0) (sZ 1 0) (sZ 2 0) (sZ 3 0) (sZ 4 0) (sZ 5 0) (sZ 6 0) (sZ 7 0))]))) (va_Qi (fun (r : Int32) (_ : Unit) => True) (fun (_ : Unit) (t : State) => ∃ (vP' : Nat → Int32) (aP' : Nat → Nat → Int32) (eP' : Nat → Nat → Int32) (vZ' : Nat → Nat → Int32) (nZ' : Nat → Nat → Int32) (aZ' : Nat → Nat → Nat → Int32), RgA 0 99 eP' ∧ (∀ t9, Rg 0 8 (nZ' t9)) ∧ va_P (dC, dI) vwCl (List.flatten [(wPlan qP k vP' aP' eP'), (wState (sZ 0) k (vZ' 0) (nZ' 0) (aZ' 0)), (wState (sZ 1) k (vZ' 1) (nZ' 1) (aZ' 1)), (wState (sZ 2) k (vZ' 2) (nZ' 2) (aZ' 2)), (wState (sZ 3) k (vZ' 3) (nZ' 3) (aZ' 3)), (wState (sZ 4) k (vZ' 4) (nZ' 4) (aZ' 4)), (wState (sZ 5) k (vZ' 5) (nZ' 5) (aZ' 5)), (wState (sZ 6) k (vZ' 6) (nZ' 6) (aZ' 6)), (wState (sZ 7) k (vZ' 7) (nZ' 7) (aZ' 7))] ++ List.flatten [(wSag qX k tapeX (qV 0) actsX (qN 0) (qP 0) storyX (qZ 0) orderSearchX routeSearchX setSearchX probeX slot0X slot1X slot2X slot3X image0X image1X image2X aX), (wValley qV k vV bV cV wV aV eV), (wPlan qN k vN aN eN), (wStoO qZ k (qV 0) (qP 0) (sZ 0 0) (sZ 1 0) (sZ 2 0) (sZ 3 0) (sZ 4 0) (sZ 5 0) (sZ 6 0) (sZ 7 0))]) t.heap) (va_A (List.flatten [(wPlan qP k vP aP eP), (wState (sZ 0) k (vZ 0) (nZ 0) (aZ 0)), (wState (sZ 1) k (vZ 1) (nZ 1) (aZ 1)), (wState (sZ 2) k (vZ 2) (nZ 2) (aZ 2)), (wState (sZ 3) k (vZ 3) (nZ 3) (aZ 3)), (wState (sZ 4) k (vZ 4) (nZ 4) (aZ 4)), (wState (sZ 5) k (vZ 5) (nZ 5) (aZ 5)), (wState (sZ 6) k (vZ 6) (nZ 6) (aZ 6)), (wState (sZ 7) k (vZ 7) (nZ 7) (aZ 7))] ++ List.flatten [(wSag qX k tapeX (qV 0) actsX (qN 0) (qP 0) storyX (qZ 0) orderSearchX routeSearchX setSearchX probeX slot0X slot1X slot2X slot3X image0X image1X image2X aX), (wValley qV k vV bV cV wV aV eV), (wPlan qN k vN aN eN), (wStoO qZ k (qV 0) (qP 0) (sZ 0 0) (sZ 1 0) (sZ 2 0) (sZ 3 0) (sZ 4 0) (sZ 5 0) (sZ 6 0) (sZ 7 0))]) sz)) 0 0 (va_A (List.flatten [(wPlan qP k vP aP eP), (wState (sZ 0) k (vZ 0) (nZ 0) (aZ 0)), (wState (sZ 1) k (vZ 1) (nZ 1) (aZ 1)), (wState (sZ 2) k (vZ 2) (nZ 2) (aZ 2)), (wState (sZ 3) k (vZ 3) (nZ 3) (aZ 3)), (wState (sZ 4) k (vZ 4) (nZ 4) (aZ 4)), (wState (sZ 5) k (vZ 5) (nZ 5) (aZ 5)), (wState (sZ 6) k (vZ 6) (nZ 6) (aZ 6)), (wState (sZ 7) k (vZ 7) (nZ 7) (aZ 7))] ++ List.flatten [(wSag qX k tapeX (qV 0) actsX (qN 0) (qP 0) storyX (qZ 0) orderSearchX routeSearchX setSearchX probeX slot0X slot1X slot2X slot3X image0X image1X image2X aX), (wValley qV k vV bV cV wV aV eV), (wPlan qN k vN aN eN), (wStoO qZ k (qV 0) (qP 0) (sZ 0 0) (sZ 1 0) (sZ 2 0) (sZ 3 0) (sZ 4 0) (sZ 5 0) (sZ 6 0) (sZ 7 0))]) sz) := by
  refine Met.ofW (cc := cX11_drawn) (maxL := 4) (ret := (some .int)) (by decide) rfl ?_
  intro p e s m args below meth c s₁ B hml hv
  obtain ⟨rfl, hsz, hP, hK, hD0⟩ := hv
  have hx := B.exec
  have hb := B.bytes
  have hr := B.returns
  have hts := atoms_spec (ws := wk_c_X11_drawn) B.pre
  have hown : s.vm.findClass RX11 = some m.cls := findClass_of_methodNamed B.named
  have hlocks := B.notSynchronized
  subst hsz
  have hD := hD0.self (sz := s.heap.size)
  generalize hAe : va_A (List.flatten [(wPlan qP k vP aP eP), (wState (sZ 0) k (vZ 0) (nZ 0) (aZ 0)), (wState (sZ 1) k (vZ 1) (nZ 1) (aZ 1)), (wState (sZ 2) k (vZ 2) (nZ 2) (aZ 2)), (wState (sZ 3) k (vZ 3) (nZ 3) (aZ 3)), (wState (sZ 4) k (vZ 4) (nZ 4) (aZ 4)), (wState (sZ 5) k (vZ 5) (nZ 5) (aZ 5)), (wState (sZ 6) k (vZ 6) (nZ 6) (aZ 6)), (wState (sZ 7) k (vZ 7) (nZ 7) (aZ 7))] ++ List.flatten [(wSag qX k tapeX (qV 0) actsX (qN 0) (qP 0) storyX (qZ 0) orderSearchX routeSearchX setSearchX probeX slot0X slot1X slot2X slot3X image0X image1X image2X aX), (wValley qV k vV bV cV wV aV eV), (wPlan qN k vN aN eN), (wStoO qZ k (qV 0) (qP 0) (sZ 0 0) (sZ 1 0) (sZ 2 0) (sZ 3 0) (sZ 4 0) (sZ 5 0) (sZ 6 0) (sZ 7 0))]) s.heap.size = A at hD ⊢
  have hA : ∀ q : Nat, s.heap.size ≤ q → A q := fun q h => by rw [← hAe]; exact Or.inr h
  have hS : va_S A s.heap s.heap [] := va_S.rf
  have hP : va_P (dC, dI) vwCl (List.flatten [(wPlan qP k vP aP eP), (wState (sZ 0) k (vZ 0) (nZ 0) (aZ 0)), (wState (sZ 1) k (vZ 1) (nZ 1) (aZ 1)), (wState (sZ 2) k (vZ 2) (nZ 2) (aZ 2)), (wState (sZ 3) k (vZ 3) (nZ 3) (aZ 3)), (wState (sZ 4) k (vZ 4) (nZ 4) (aZ 4)), (wState (sZ 5) k (vZ 5) (nZ 5) (aZ 5)), (wState (sZ 6) k (vZ 6) (nZ 6) (aZ 6)), (wState (sZ 7) k (vZ 7) (nZ 7) (aZ 7))] ++ List.flatten [(wSag qX k tapeX (qV 0) actsX (qN 0) (qP 0) storyX (qZ 0) orderSearchX routeSearchX setSearchX probeX slot0X slot1X slot2X slot3X image0X image1X image2X aX), (wValley qV k vV bV cV wV aV eV), (wPlan qN k vN aN eN), (wStoO qZ k (qV 0) (qP 0) (sZ 0 0) (sZ 1 0) (sZ 2 0) (sZ 3 0) (sZ 4 0) (sZ 5 0) (sZ 6 0) (sZ 7 0))]) s.heap := hP
  have hl := lv_entry ([.ref (qX 0), .int p1, .int p2]) (n := 4) (Nat.le_of_ble_eq_true rfl)
  rw [lg_entry_eq]
  generalize (lg_sl ([.ref (qX 0), .int p1, .int p2]) ++ List.replicate (4 - (lg_sl ([.ref (qX 0), .int p1, .int p2])).length) Slot.unset).toArray = ls at hl ⊢
  have hl : lv_has ls 4 [(0, .ref (qX 0)), (1, .int p1), (2, .int p2)] := hl
  refine w_gen (fun Q hQ => ?_)
  refine lv_aload_n hx hb dX11_drawn_0 rfl (lv_at hl 0 rfl) ?_
  have hPc := hP.sub (ws' := (List.flatten [(wSag qX k tapeX (qV 0) actsX (qN 0) (qP 0) storyX (qZ 0) orderSearchX routeSearchX setSearchX probeX slot0X slot1X slot2X slot3X image0X image1X image2X aX), (wValley qV k vV bV cV wV aV eV)])) [91, 92, 93, 94, 95, 96, 97, 98, 99, 100, 101, 102, 103] rfl
  refine vp_callSi (va_Run.run (va_runV (As := []) (rest := []) ⟨hx, hb, hml, hown, hts⟩ (c_X11_noValley l dC dI k qX tapeX actsX (qN 0) (qP 0) storyX (qZ 0) orderSearchX routeSearchX setSearchX probeX slot0X slot1X slot2X slot3X image0X image1X image2X aX qV vV bV cV wV aV eV hbV hcV hwV heV) (cwV 0 hts (gk_V (wl_mem 0 rfl) (wl_mem 1 rfl) (wl_mem 2 rfl) (wl_mem 3 rfl) (fun w h => List.mem_cons_of_mem _ (List.mem_append_right _ (List.mem_append_left _ h))) wkg_c_X11_noValley) rfl rfl rfl (by decide +kernel) ⟨Nat.le_of_ble_eq_true rfl, Nat.le_of_ble_eq_true rfl⟩) ⟨fun a U g mk q => by obtain ⟨q0, qP, qK⟩ := q; exact ⟨q0, qP, va_K.moved (u := U) (U := U.calling g mk a) (Vm.Alike.refl U.vm) qK⟩, va_recv hK hPc (ci := 11) (q0 := 0) rfl rfl, fun U hU hW => ⟨rfl, by rw [hU]; exact hPc, va_K.moved hW.alike hK⟩⟩ rfl rfl hl.1 rfl (lv_room (Nat.le_of_ble_eq_true rfl)) dX11_drawn_1 ⟨Nat.le_of_ble_eq_true rfl, Nat.le_of_ble_eq_true rfl⟩)) (fun rz2 gz1 => ?_)
  clear hPc
  have pz3 := gz1
  have pz3 : rz2.toInt = 0 ∨ rz2.toInt = 1 := pz3
  refine lv_if_ne (tgt := 27) hx hb dX11_drawn_4 (by decide) (fun cz4 => ?_) (fun cz4 => ?_)
  · skip
    have zz5 : ¬ rz2.toInt = (0 : Int) := fun h9 => cz4 (zi_eq.mpr h9)
    refine lv_bipush (v := (-2)) hx hb dX11_drawn_27 (by decide) ?_
    rw [hQ]
    exact W.iret (v := (-2 : Int32)) hx hb hr (fun t ht hW => ⟨⟨(-2 : Int32), (), rfl, trivial, vP, aP, eP, vZ, nZ, aZ, heP, hnZ, by rw [ht]; exact hP⟩, hS.F ht⟩) hS.2.2 dX11_drawn_29
  · skip
    have zz6 : rz2.toInt = (0 : Int) := zi_eq.mp cz4
    refine lv_iload_n hx hb dX11_drawn_7 rfl (lv_at hl 1 rfl) ?_
    refine lv_if_lt (tgt := 27) hx hb dX11_drawn_8 (by decide) (fun cz7 => ?_) (fun cz7 => ?_)
    · skip
      have bz8 := fb_rng p1
      have zz9 : p1.toInt < (0 : Int) := zi_lt.mp cz7
      refine lv_bipush (v := (-2)) hx hb dX11_drawn_27 (by decide) ?_
      rw [hQ]
      exact W.iret (v := (-2 : Int32)) hx hb hr (fun t ht hW => ⟨⟨(-2 : Int32), (), rfl, trivial, vP, aP, eP, vZ, nZ, aZ, heP, hnZ, by rw [ht]; exact hP⟩, hS.F ht⟩) hS.2.2 dX11_drawn_29
    · skip
      have bz10 := fb_rng p1
      have zz11 : ¬ p1.toInt < (0 : Int) := fun h9 => cz7 (zi_lt.mpr h9)
      refine lv_iload_n hx hb dX11_drawn_11 rfl (lv_at hl 1 rfl) ?_
      refine lv_ldcw (v := 2000000000) hx hb hown (hts (.constant RX11 349 (2000000000)) (wl_mem 4 rfl)) dX11_drawn_12 ?_
      refine lv_icmp_gt (tgt := 27) hx hb dX11_drawn_15 (by decide) (fun cz12 => ?_) (fun cz12 => ?_)
      · skip
        have zz13 : (2000000000 : Int) < p1.toInt := zi_lt.mp cz12
        refine lv_bipush (v := (-2)) hx hb dX11_drawn_27 (by decide) ?_
        rw [hQ]
        exact W.iret (v := (-2 : Int32)) hx hb hr (fun t ht hW => ⟨⟨(-2 : Int32), (), rfl, trivial, vP, aP, eP, vZ, nZ, aZ, heP, hnZ, by rw [ht]; exact hP⟩, hS.F ht⟩) hS.2.2 dX11_drawn_29
      · skip
        have zz14 : ¬ (2000000000 : Int) < p1.toInt := fun h9 => cz12 (zi_lt.mpr h9)
        refine lv_iload_n hx hb dX11_drawn_18 rfl (lv_at hl 2 rfl) ?_
        refine lv_if_lt (tgt := 27) hx hb dX11_drawn_19 (by decide) (fun cz15 => ?_) (fun cz15 => ?_)
        · skip
          have bz16 := fb_rng p2
          have zz17 : p2.toInt < (0 : Int) := zi_lt.mp cz15
          refine lv_bipush (v := (-2)) hx hb dX11_drawn_27 (by decide) ?_
          rw [hQ]
          exact W.iret (v := (-2 : Int32)) hx hb hr (fun t ht hW => ⟨⟨(-2 : Int32), (), rfl, trivial, vP, aP, eP, vZ, nZ, aZ, heP, hnZ, by rw [ht]; exact hP⟩, hS.F ht⟩) hS.2.2 dX11_drawn_29
        · skip
          have bz18 := fb_rng p2
          have zz19 : ¬ p2.toInt < (0 : Int) := fun h9 => cz15 (zi_lt.mpr h9)
          refine lv_iload_n hx hb dX11_drawn_22 rfl (lv_at hl 2 rfl) ?_
          refine lv_iconst (v := 1) hx hb dX11_drawn_23 (by decide) ?_
          refine lv_icmp_le (tgt := 30) hx hb dX11_drawn_24 (by decide) (fun cz20 => ?_) (fun cz20 => ?_)
          · skip
            have zz21 : p2.toInt ≤ (1 : Int) := zi_le.mp cz20
            refine lv_aload_n hx hb dX11_drawn_30 rfl (lv_at hl 0 rfl) ?_
            refine lv_iload_n hx hb dX11_drawn_31 rfl (lv_at hl 1 rfl) ?_
            refine lv_i2l hx hb dX11_drawn_32 rfl ?_
            have hPc := hP.sub (ws' := (List.flatten [(wSag qX k tapeX (qV 0) actsX (qN 0) (qP 0) storyX (qZ 0) orderSearchX routeSearchX setSearchX probeX slot0X slot1X slot2X slot3X image0X image1X image2X aX), (wValley qV k vV bV cV wV aV eV)])) [91, 92, 93, 94, 95, 96, 97, 98, 99, 100, 101, 102, 103] rfl
            refine vp_callSi (va_Run.run (va_runV (As := [.long p1.toInt64]) (rest := []) ⟨hx, hb, hml, hown, hts⟩ (c_X11_winterOf l dC dI k qX tapeX actsX (qN 0) (qP 0) storyX (qZ 0) orderSearchX routeSearchX setSearchX probeX slot0X slot1X slot2X slot3X image0X image1X image2X aX qV vV bV cV wV aV eV p1.toInt64 hbV hcV hwV heV) (cwV 1 hts (gk_V (wl_mem 5 rfl) (wl_mem 6 rfl) (wl_mem 7 rfl) (wl_mem 3 rfl) (fun w h => List.mem_cons_of_mem _ (List.mem_append_right _ (List.mem_append_right _ (List.mem_append_left _ h)))) wkg_c_X11_winterOf) rfl rfl rfl (by decide +kernel) ⟨Nat.le_of_ble_eq_true rfl, Nat.le_of_ble_eq_true rfl⟩) ⟨fun a U g mk q => by obtain ⟨q0, qP, qK⟩ := q; exact ⟨q0, qP, va_K.moved (u := U) (U := U.calling g mk a) (Vm.Alike.refl U.vm) qK⟩, va_recv hK hPc (ci := 11) (q0 := 0) rfl rfl, fun U hU hW => ⟨rfl, by rw [hU]; exact hPc, va_K.moved hW.alike hK⟩⟩ rfl rfl hl.1 rfl (lv_room (Nat.le_of_ble_eq_true rfl)) dX11_drawn_33 ⟨Nat.le_of_ble_eq_true rfl, Nat.le_of_ble_eq_true rfl⟩)) (fun rz23 gz22 => ?_)
            clear hPc
            refine lv_istore_n (lv' := [(3, .int rz23), (0, .ref (qX 0)), (1, .int p1), (2, .int p2)]) hx hb dX11_drawn_36 rfl hl (by decide) rfl (fun ls hl => ?_)
            refine lv_iload_n hx hb dX11_drawn_37 rfl (lv_at hl 3 rfl) ?_
            refine lv_if_ne (tgt := 45) hx hb dX11_drawn_38 (by decide) (fun cz24 => ?_) (fun cz24 => ?_)
            · skip
              have zz25 : ¬ p2.toInt = (0 : Int) := fun h9 => cz24 (zi_eq.mpr h9)
              refine lv_aload_n hx hb dX11_drawn_45 rfl (lv_at hl 1 rfl) ?_
              refine lv_iload_n hx hb dX11_drawn_46 rfl (lv_at hl 0 rfl) ?_
              have hPc := hP
              have hDc : va_D A (List.flatten [(wPlan qP k vP aP eP), (wState (sZ 0) k (vZ 0) (nZ 0) (aZ 0)), (wState (sZ 1) k (vZ 1) (nZ 1) (aZ 1)), (wState (sZ 2) k (vZ 2) (nZ 2) (aZ 2)), (wState (sZ 3) k (vZ 3) (nZ 3) (aZ 3)), (wState (sZ 4) k (vZ 4) (nZ 4) (aZ 4)), (wState (sZ 5) k (vZ 5) (nZ 5) (aZ 5)), (wState (sZ 6) k (vZ 6) (nZ 6) (aZ 6)), (wState (sZ 7) k (vZ 7) (nZ 7) (aZ 7))] ++ List.flatten [(wSag qX k tapeX (qV 0) actsX (qN 0) (qP 0) storyX (qZ 0) orderSearchX routeSearchX setSearchX probeX slot0X slot1X slot2X slot3X image0X image1X image2X aX), (wValley qV k vV bV cV wV aV eV), (wPlan qN k vN aN eN), (wStoO qZ k (qV 0) (qP 0) (sZ 0 0) (sZ 1 0) (sZ 2 0) (sZ 3 0) (sZ 4 0) (sZ 5 0) (sZ 6 0) (sZ 7 0))]) := wc_subD hD [0, 1, 2, 3, 4, 5, 6, 7, 8, 9, 10, 11, 12] rfl rfl
              have hFc := wc_free hDc hS hA
              refine va_calli (va_runV (As := [.int rz23]) (rest := []) ⟨hx, hb, hml, hown, hts⟩ (c_X11_sagInCold l dC dI k s.heap.size qX tapeX actsX storyX orderSearchX routeSearchX setSearchX probeX slot0X slot1X slot2X slot3X image0X image1X image2X aX qV vV bV cV wV aV eV qN vN aN eN qP vP aP eP qZ sZ vZ nZ aZ rz23 hbV hcV hwV heV heN heP hnZ) (cwV 1 hts (gk_V (wl_mem 8 rfl) (wl_mem 9 rfl) (wl_mem 10 rfl) (wl_mem 3 rfl) (fun w h => List.mem_cons_of_mem _ (List.mem_append_right _ (List.mem_append_right _ (List.mem_append_right _ (List.mem_append_left _ h))))) wkg_c_X11_sagInCold) rfl rfl rfl (by decide +kernel) ⟨Nat.le_of_ble_eq_true rfl, Nat.le_of_ble_eq_true rfl⟩) ⟨fun a U g mk q => by obtain ⟨q0, q1, qP, qK, qD⟩ := q; exact ⟨q0, q1, qP, va_K.moved (u := U) (U := U.calling g mk a) (Vm.Alike.refl U.vm) qK, qD⟩, va_recv hK hPc (ci := 11) (q0 := 91) rfl rfl, fun U hU hW => ⟨rfl, by rw [hU], by rw [hU]; exact hPc, va_K.moved hW.alike hK, hDc.weaken (fun _ _ _ _ => trivial)⟩⟩ rfl rfl hl.1 rfl (lv_room (Nat.le_of_ble_eq_true rfl)) dX11_drawn_47 ⟨Nat.le_of_ble_eq_true rfl, Nat.le_of_ble_eq_true rfl⟩) hS (fun q _ h => hFc q h) hFc (fun rz27 u t H1 locs ht hvm gz26 hB hz1 hk1 hS => ?_)
              obtain ⟨vz28, az29, ez30, vz31, nz32, az33, hez30, hnz32, hP1⟩ := hB
              rw [ht] at hP1
              obtain ⟨hP, hD⟩ := w_callR hP hD hk1 hP1 [0, 1, 2, 3, 4, 5, 6, 7, 8] rfl rfl (wk_memC [9, 10, 11, 12] rfl) rfl [some 0, some 1, some 2, some 3, some 4, some 5, some 6, some 7, some 8] rfl rfl
              clear hPc hDc hFc hk1 hP1
              generalize H1 = H at hP hS ⊢
              have hP : va_P (dC, dI) vwCl (List.flatten [(wPlan qP k vz28 az29 ez30), (wState (sZ 0) k (vz31 0) (nz32 0) (az33 0)), (wState (sZ 1) k (vz31 1) (nz32 1) (az33 1)), (wState (sZ 2) k (vz31 2) (nz32 2) (az33 2)), (wState (sZ 3) k (vz31 3) (nz32 3) (az33 3)), (wState (sZ 4) k (vz31 4) (nz32 4) (az33 4)), (wState (sZ 5) k (vz31 5) (nz32 5) (az33 5)), (wState (sZ 6) k (vz31 6) (nz32 6) (az33 6)), (wState (sZ 7) k (vz31 7) (nz32 7) (az33 7))] ++ List.flatten [(wSag qX k tapeX (qV 0) actsX (qN 0) (qP 0) storyX (qZ 0) orderSearchX routeSearchX setSearchX probeX slot0X slot1X slot2X slot3X image0X image1X image2X aX), (wValley qV k vV bV cV wV aV eV), (wPlan qN k vN aN eN), (wStoO qZ k (qV 0) (qP 0) (sZ 0 0) (sZ 1 0) (sZ 2 0) (sZ 3 0) (sZ 4 0) (sZ 5 0) (sZ 6 0) (sZ 7 0))]) H := hP
              have hD : va_D A (List.flatten [(wPlan qP k vz28 az29 ez30), (wState (sZ 0) k (vz31 0) (nz32 0) (az33 0)), (wState (sZ 1) k (vz31 1) (nz32 1) (az33 1)), (wState (sZ 2) k (vz31 2) (nz32 2) (az33 2)), (wState (sZ 3) k (vz31 3) (nz32 3) (az33 3)), (wState (sZ 4) k (vz31 4) (nz32 4) (az33 4)), (wState (sZ 5) k (vz31 5) (nz32 5) (az33 5)), (wState (sZ 6) k (vz31 6) (nz32 6) (az33 6)), (wState (sZ 7) k (vz31 7) (nz32 7) (az33 7))] ++ List.flatten [(wSag qX k tapeX (qV 0) actsX (qN 0) (qP 0) storyX (qZ 0) orderSearchX routeSearchX setSearchX probeX slot0X slot1X slot2X slot3X image0X image1X image2X aX), (wValley qV k vV bV cV wV aV eV), (wPlan qN k vN aN eN), (wStoO qZ k (qV 0) (qP 0) (sZ 0 0) (sZ 1 0) (sZ 2 0) (sZ 3 0) (sZ 4 0) (sZ 5 0) (sZ 6 0) (sZ 7 0))]) := hD
              refine W.widen (k := 0) (n := 0) (Nat.le_refl 0) (Nat.le_refl 0) ?_
              rw [hQ]
              exact W.iret (v := rz27) hx hb hr (fun t ht hW => ⟨⟨rz27, (), rfl, trivial, vz28, az29, ez30, vz31, nz32, az33, hez30, hnz32, by rw [ht]; exact hP⟩, hS.F ht⟩) hS.2.2 dX11_drawn_50
            · skip
              have zz34 : p2.toInt = (0 : Int) := zi_eq.mp cz24
              refine lv_iload_n hx hb dX11_drawn_41 rfl (lv_at hl 0 rfl) ?_
              refine lv_goto (tgt := 50) hx hb dX11_drawn_42 (by decide) ?_
              rw [hQ]
              exact W.iret (v := rz23) hx hb hr (fun t ht hW => ⟨⟨rz23, (), rfl, trivial, vP, aP, eP, vZ, nZ, aZ, heP, hnZ, by rw [ht]; exact hP⟩, hS.F ht⟩) hS.2.2 dX11_drawn_50
          · skip
            have zz35 : ¬ p2.toInt ≤ (1 : Int) := fun h9 => cz20 (zi_le.mpr h9)
            refine lv_bipush (v := (-2)) hx hb dX11_drawn_27 (by decide) ?_
            rw [hQ]
            exact W.iret (v := (-2 : Int32)) hx hb hr (fun t ht hW => ⟨⟨(-2 : Int32), (), rfl, trivial, vP, aP, eP, vZ, nZ, aZ, heP, hnZ, by rw [ht]; exact hP⟩, hS.F ht⟩) hS.2.2 dX11_drawn_29
def wk_c_X11_luck : List Cond := .code yX11_luck cX11_luck 6 (some .int) :: ([.fieldLink RX11 19 "SagMemory" "told" "LSagMemory$Valley;", .methodLink RX11 131 yX10_hasBridge, .instanceMethod yX10_hasBridge, .selects RX10 yX10_hasBridge yX10_hasBridge, .initialized RX10, .constant RX11 349 (2000000000), .methodLink RX11 350 yX11_winterOf, .instanceMethod yX11_winterOf, .selects RX11 yX11_winterOf yX11_winterOf, .initialized RX11, .methodLink RX11 333 yX11_breaksInCold, .instanceMethod yX11_breaksInCold, .selects RX11 yX11_breaksInCold yX11_breaksInCold] ++ (wsX110 ++ (wk_c_X10_hasBridge ++ (wk_c_X11_winterOf ++ (wk_c_X11_breaksInCold ++ [])))))
theorem wkg_c_X11_luck : wk_c_X11_luck.all goodWord = true := by decide +kernel
set_option maxHeartbeats 4000000 in
set_option maxRecDepth 100000 in
theorem c_X11_luck (l : Launch) (dC : Nat → ClassId) (dI : Nat → Nat → Nat) (k : Nat → ClassId) (sz : Nat) (qX : Nat → Nat) (tapeX : Nat) (actsX : Nat) (storyX : Nat) (orderSearchX : Nat) (routeSearchX : Nat) (setSearchX : Nat) (probeX : Nat) (slot0X : Nat) (slot1X : Nat) (slot2X : Nat) (slot3X : Nat) (image0X : Nat) (image1X : Nat) (image2X : Nat) (aX : Nat → Nat → Int32) (qV : Nat → Nat) (vV : Nat → Int32) (bV : Nat → Int32) (cV : Nat → Int32) (wV : Nat → Int32) (aV : Nat → Nat → Int32) (eV : Nat → Nat → Int32) (qN : Nat → Nat) (vN : Nat → Int32) (aN : Nat → Nat → Int32) (eN : Nat → Nat → Int32) (qP : Nat → Nat) (vP : Nat → Int32) (aP : Nat → Nat → Int32) (eP : Nat → Nat → Int32) (qZ : Nat → Nat) (sZ : Nat → Nat → Nat) (vZ : Nat → Nat → Int32) (nZ : Nat → Nat → Int32) (aZ : Nat → Nat → Nat → Int32) (p1 : Int32) (p2 : Int32) (p3 : Int32) (hbV : Rg 0 3 bV) (hcV : Rg 0 7 cV) (hwV : Rg 0 5 wV) (heV : RgA 0 99 eV) (heN : RgA 0 99 eN) (heP : RgA 0 99 eP) (hnZ : ∀ t9, Rg 0 8 (nZ t9)) : Met l yX11_luck wk_c_X11_luck ({ frames := 6, cells := 0, slots := 0, locals := 195 }) (va_Pc [.ref (qX 0), .int p1, .int p2, .int p3] (fun U => U.heap.size = sz ∧ va_P (dC, dI) vwCl (List.flatten [(wPlan qP k vP aP eP), (wState (sZ 0) k (vZ 0) (nZ 0) (aZ 0)), (wState (sZ 1) k (vZ 1) (nZ 1) (aZ 1)), (wState (sZ 2) k (vZ 2) (nZ 2) (aZ 2)), (wState (sZ 3) k (vZ 3) (nZ 3) (aZ 3)), (wState (sZ 4) k (vZ 4) (nZ 4) (aZ 4)), (wState (sZ 5) k (vZ 5) (nZ 5) (aZ 5)), (wState (sZ 6) k (vZ 6) (nZ 6) (aZ 6)), (wState (sZ 7) k (vZ 7) (nZ 7) (aZ 7))] ++ List.flatten [(wSag qX k tapeX (qV 0) actsX (qN 0) (qP 0) storyX (qZ 0) orderSearchX routeSearchX setSearchX probeX slot0X slot1X slot2X slot3X image0X image1X image2X aX), (wValley qV k vV bV cV wV aV eV), (wPlan qN k vN aN eN), (wStoO qZ k (qV 0) (qP 0) (sZ 0 0) (sZ 1 0) (sZ 2 0) (sZ 3 0) (sZ 4 0) (sZ 5 0) (sZ 6 0) (sZ 7 0))]) U.heap ∧ va_K (dC, dI) vwCl (tK k) U ∧ va_D (fun _ => True) (List.flatten [(wPlan qP k vP aP eP), (wState (sZ 0) k (vZ 0) (nZ 0) (aZ 0)), (wState (sZ 1) k (vZ 1) (nZ 1) (aZ 1)), (wState (sZ 2) k (vZ 2) (nZ 2) (aZ 2)), (wState (sZ 3) k (vZ 3) (nZ 3) (aZ 3)), (wState (sZ 4) k (vZ 4) (nZ 4) (aZ 4)), (wState (sZ 5) k (vZ 5) (nZ 5) (aZ 5)), (wState (sZ 6) k (vZ 6) (nZ 6) (aZ 6)), (wState (sZ 7) k (vZ 7) (nZ 7) (aZ 7))] ++ List.flatten [(wSag qX k tapeX (qV 0) actsX (qN 0) (qP 0) storyX (qZ 0) orderSearchX routeSearchX setSearchX probeX slot0X slot1X slot2X slot3X image0X image1X image2X aX), (wValley qV k vV bV cV wV aV eV), (wPlan qN k vN aN eN), (wStoO qZ k (qV 0) (qP 0) (sZ 0 0) (sZ 1 0) (sZ 2 0) (sZ 3 0) (sZ 4 0) (sZ 5 0) (sZ 6 0) (sZ 7 0))]))) (va_Qi (fun (r : Int32) (_ : Unit) => True) (fun (_ : Unit) (t : State) => ∃ (vP' : Nat → Int32) (aP' : Nat → Nat → Int32) (eP' : Nat → Nat → Int32) (vZ' : Nat → Nat → Int32) (nZ' : Nat → Nat → Int32) (aZ' : Nat → Nat → Nat → Int32), RgA 0 99 eP' ∧ (∀ t9, Rg 0 8 (nZ' t9)) ∧ va_P (dC, dI) vwCl (List.flatten [(wPlan qP k vP' aP' eP'), (wState (sZ 0) k (vZ' 0) (nZ' 0) (aZ' 0)), (wState (sZ 1) k (vZ' 1) (nZ' 1) (aZ' 1)), (wState (sZ 2) k (vZ' 2) (nZ' 2) (aZ' 2)), (wState (sZ 3) k (vZ' 3) (nZ' 3) (aZ' 3)), (wState (sZ 4) k (vZ' 4) (nZ' 4) (aZ' 4)), (wState (sZ 5) k (vZ' 5) (nZ' 5) (aZ' 5)), (wState (sZ 6) k (vZ' 6) (nZ' 6) (aZ' 6)), (wState (sZ 7) k (vZ' 7) (nZ' 7) (aZ' 7))] ++ List.flatten [(wSag qX k tapeX (qV 0) actsX (qN 0) (qP 0) storyX (qZ 0) orderSearchX routeSearchX setSearchX probeX slot0X slot1X slot2X slot3X image0X image1X image2X aX), (wValley qV k vV bV cV wV aV eV), (wPlan qN k vN aN eN), (wStoO qZ k (qV 0) (qP 0) (sZ 0 0) (sZ 1 0) (sZ 2 0) (sZ 3 0) (sZ 4 0) (sZ 5 0) (sZ 6 0) (sZ 7 0))]) t.heap) (va_A (List.flatten [(wPlan qP k vP aP eP), (wState (sZ 0) k (vZ 0) (nZ 0) (aZ 0)), (wState (sZ 1) k (vZ 1) (nZ 1) (aZ 1)), (wState (sZ 2) k (vZ 2) (nZ 2) (aZ 2)), (wState (sZ 3) k (vZ 3) (nZ 3) (aZ 3)), (wState (sZ 4) k (vZ 4) (nZ 4) (aZ 4)), (wState (sZ 5) k (vZ 5) (nZ 5) (aZ 5)), (wState (sZ 6) k (vZ 6) (nZ 6) (aZ 6)), (wState (sZ 7) k (vZ 7) (nZ 7) (aZ 7))] ++ List.flatten [(wSag qX k tapeX (qV 0) actsX (qN 0) (qP 0) storyX (qZ 0) orderSearchX routeSearchX setSearchX probeX slot0X slot1X slot2X slot3X image0X image1X image2X aX), (wValley qV k vV bV cV wV aV eV), (wPlan qN k vN aN eN), (wStoO qZ k (qV 0) (qP 0) (sZ 0 0) (sZ 1 0) (sZ 2 0) (sZ 3 0) (sZ 4 0) (sZ 5 0) (sZ 6 0) (sZ 7 0))]) sz)) 0 0 (va_A (List.flatten [(wPlan qP k vP aP eP), (wState (sZ 0) k (vZ 0) (nZ 0) (aZ 0)), (wState (sZ 1) k (vZ 1) (nZ 1) (aZ 1)), (wState (sZ 2) k (vZ 2) (nZ 2) (aZ 2)), (wState (sZ 3) k (vZ 3) (nZ 3) (aZ 3)), (wState (sZ 4) k (vZ 4) (nZ 4) (aZ 4)), (wState (sZ 5) k (vZ 5) (nZ 5) (aZ 5)), (wState (sZ 6) k (vZ 6) (nZ 6) (aZ 6)), (wState (sZ 7) k (vZ 7) (nZ 7) (aZ 7))] ++ List.flatten [(wSag qX k tapeX (qV 0) actsX (qN 0) (qP 0) storyX (qZ 0) orderSearchX routeSearchX setSearchX probeX slot0X slot1X slot2X slot3X image0X image1X image2X aX), (wValley qV k vV bV cV wV aV eV), (wPlan qN k vN aN eN), (wStoO qZ k (qV 0) (qP 0) (sZ 0 0) (sZ 1 0) (sZ 2 0) (sZ 3 0) (sZ 4 0) (sZ 5 0) (sZ 6 0) (sZ 7 0))]) sz) := by
  refine Met.ofW (cc := cX11_luck) (maxL := 6) (ret := (some .int)) (by decide) rfl ?_
  intro p e s m args below meth c s₁ B hml hv
  obtain ⟨rfl, hsz, hP, hK, hD0⟩ := hv
  have hx := B.exec
  have hb := B.bytes
  have hr := B.returns
  have hts := atoms_spec (ws := wk_c_X11_luck) B.pre
  have hown : s.vm.findClass RX11 = some m.cls := findClass_of_methodNamed B.named
  have hlocks := B.notSynchronized
  subst hsz
  have hD := hD0.self (sz := s.heap.size)
  generalize hAe : va_A (List.flatten [(wPlan qP k vP aP eP), (wState (sZ 0) k (vZ 0) (nZ 0) (aZ 0)), (wState (sZ 1) k (vZ 1) (nZ 1) (aZ 1)), (wState (sZ 2) k (vZ 2) (nZ 2) (aZ 2)), (wState (sZ 3) k (vZ 3) (nZ 3) (aZ 3)), (wState (sZ 4) k (vZ 4) (nZ 4) (aZ 4)), (wState (sZ 5) k (vZ 5) (nZ 5) (aZ 5)), (wState (sZ 6) k (vZ 6) (nZ 6) (aZ 6)), (wState (sZ 7) k (vZ 7) (nZ 7) (aZ 7))] ++ List.flatten [(wSag qX k tapeX (qV 0) actsX (qN 0) (qP 0) storyX (qZ 0) orderSearchX routeSearchX setSearchX probeX slot0X slot1X slot2X slot3X image0X image1X image2X aX), (wValley qV k vV bV cV wV aV eV), (wPlan qN k vN aN eN), (wStoO qZ k (qV 0) (qP 0) (sZ 0 0) (sZ 1 0) (sZ 2 0) (sZ 3 0) (sZ 4 0) (sZ 5 0) (sZ 6 0) (sZ 7 0))]) s.heap.size = A at hD ⊢
  have hA : ∀ q : Nat, s.heap.size ≤ q → A q := fun q h => by rw [← hAe]; exact Or.inr h
  have hS : va_S A s.heap s.heap [] := va_S.rf
  have hP : va_P (dC, dI) vwCl (List.flatten [(wPlan qP k vP aP eP), (wState (sZ 0) k (vZ 0) (nZ 0) (aZ 0)), (wState (sZ 1) k (vZ 1) (nZ 1) (aZ 1)), (wState (sZ 2) k (vZ 2) (nZ 2) (aZ 2)), (wState (sZ 3) k (vZ 3) (nZ 3) (aZ 3)), (wState (sZ 4) k (vZ 4) (nZ 4) (aZ 4)), (wState (sZ 5) k (vZ 5) (nZ 5) (aZ 5)), (wState (sZ 6) k (vZ 6) (nZ 6) (aZ 6)), (wState (sZ 7) k (vZ 7) (nZ 7) (aZ 7))] ++ List.flatten [(wSag qX k tapeX (qV 0) actsX (qN 0) (qP 0) storyX (qZ 0) orderSearchX routeSearchX setSearchX probeX slot0X slot1X slot2X slot3X image0X image1X image2X aX), (wValley qV k vV bV cV wV aV eV), (wPlan qN k vN aN eN), (wStoO qZ k (qV 0) (qP 0) (sZ 0 0) (sZ 1 0) (sZ 2 0) (sZ 3 0) (sZ 4 0) (sZ 5 0) (sZ 6 0) (sZ 7 0))]) s.heap := hP
  have hl := lv_entry ([.ref (qX 0), .int p1, .int p2, .int p3]) (n := 6) (Nat.le_of_ble_eq_true rfl)
  rw [lg_entry_eq]
  generalize (lg_sl ([.ref (qX 0), .int p1, .int p2, .int p3]) ++ List.replicate (6 - (lg_sl ([.ref (qX 0), .int p1, .int p2, .int p3])).length) Slot.unset).toArray = ls at hl ⊢
  have hl : lv_has ls 6 [(0, .ref (qX 0)), (1, .int p1), (2, .int p2), (3, .int p3)] := hl
  refine w_gen (fun Q hQ => ?_)
  refine lv_aload_n hx hb dX11_luck_0 rfl (lv_at hl 0 rfl) ?_
  refine va_get (D := (dC, dI)) (ci := 11) (v := .ref (qV 0)) (C := RX11) (T := TX11) (N := 15) hx hb hts (fun w h => List.mem_cons_of_mem _ (List.mem_append_right _ (List.mem_append_left _ h))) hown hK hP 91 rfl rfl 1 (by decide) (hts (.fieldLink RX11 19 "SagMemory" "told" "LSagMemory$Valley;") (wl_mem 0 rfl)) (fun _ h9 => h9) rfl dX11_luck_1 ?_
  refine lv_iload_n hx hb dX11_luck_4 rfl (lv_at hl 3 rfl) ?_
  have hPc := hP.sub (ws' := (List.flatten [(wValley qV k vV bV cV wV aV eV)])) [96, 97, 98, 99, 100, 101, 102, 103] rfl
  refine vp_callSi (va_Run.run (va_runV (As := [.int p3]) (rest := []) ⟨hx, hb, hml, hown, hts⟩ (c_X10_hasBridge l dC dI k qV vV bV cV wV aV eV p3 hbV hcV hwV heV) (cwV 1 hts (gk_V (wl_mem 1 rfl) (wl_mem 2 rfl) (wl_mem 3 rfl) (wl_mem 4 rfl) (fun w h => List.mem_cons_of_mem _ (List.mem_append_right _ (List.mem_append_right _ (List.mem_append_left _ h)))) wkg_c_X10_hasBridge) rfl rfl rfl (by decide +kernel) ⟨Nat.le_of_ble_eq_true rfl, Nat.le_of_ble_eq_true rfl⟩) ⟨fun a U g mk q => by obtain ⟨q0, qP, qK⟩ := q; exact ⟨q0, qP, va_K.moved (u := U) (U := U.calling g mk a) (Vm.Alike.refl U.vm) qK⟩, va_recv hK hPc (ci := 10) (q0 := 0) rfl rfl, fun U hU hW => ⟨rfl, by rw [hU]; exact hPc, va_K.moved hW.alike hK⟩⟩ rfl rfl hl.1 rfl (lv_room (Nat.le_of_ble_eq_true rfl)) dX11_luck_5 ⟨Nat.le_of_ble_eq_true rfl, Nat.le_of_ble_eq_true rfl⟩)) (fun rz2 gz1 => ?_)
  clear hPc
  rcases gz1 with ⟨er, cz3⟩ | ⟨er, cz4, cz5⟩ | ⟨er, cz6, cz7⟩
  · obtain rfl := er.symm
    have bz8 := fb_rng p3
    have zz9 : p3.toInt < (0 : Int) := zi_lt.mp cz3
    refine lv_if_eq (tgt := 33) hx hb dX11_luck_8 (by decide) (fun cz10 => ?_) (fun cz10 => ?_)
    · skip
      refine lv_bipush (v := (-2)) hx hb dX11_luck_33 (by decide) ?_
      rw [hQ]
      exact W.iret (v := (-2 : Int32)) hx hb hr (fun t ht hW => ⟨⟨(-2 : Int32), (), rfl, trivial, vP, aP, eP, vZ, nZ, aZ, heP, hnZ, by rw [ht]; exact hP⟩, hS.F ht⟩) hS.2.2 dX11_luck_35
    · skip
      exact absurd cz10 (by decide)
  · obtain rfl := er.symm
    have bz11 := fb_rng p3
    have zz12 : ¬ p3.toInt < (0 : Int) := fun h9 => cz4 (zi_lt.mpr h9)
    have bz13 := hbV 0
    have zz14 : (bV 0).toInt ≤ p3.toInt := zi_le.mp cz5
    refine lv_if_eq (tgt := 33) hx hb dX11_luck_8 (by decide) (fun cz15 => ?_) (fun cz15 => ?_)
    · skip
      refine lv_bipush (v := (-2)) hx hb dX11_luck_33 (by decide) ?_
      rw [hQ]
      exact W.iret (v := (-2 : Int32)) hx hb hr (fun t ht hW => ⟨⟨(-2 : Int32), (), rfl, trivial, vP, aP, eP, vZ, nZ, aZ, heP, hnZ, by rw [ht]; exact hP⟩, hS.F ht⟩) hS.2.2 dX11_luck_35
    · skip
      exact absurd cz15 (by decide)
  · obtain rfl := er.symm
    have bz16 := fb_rng p3
    have zz17 : ¬ p3.toInt < (0 : Int) := fun h9 => cz6 (zi_lt.mpr h9)
    have bz18 := hbV 0
    have zz19 : ¬ (bV 0).toInt ≤ p3.toInt := fun h9 => cz7 (zi_le.mpr h9)
    refine lv_if_eq (tgt := 33) hx hb dX11_luck_8 (by decide) (fun cz20 => ?_) (fun cz20 => ?_)
    · skip
      exact absurd cz20 (by decide)
    · skip
      refine lv_iload_n hx hb dX11_luck_11 rfl (lv_at hl 1 rfl) ?_
      refine lv_if_lt (tgt := 33) hx hb dX11_luck_12 (by decide) (fun cz21 => ?_) (fun cz21 => ?_)
      · skip
        have bz22 := fb_rng p1
        have zz23 : p1.toInt < (0 : Int) := zi_lt.mp cz21
        refine lv_bipush (v := (-2)) hx hb dX11_luck_33 (by decide) ?_
        rw [hQ]
        exact W.iret (v := (-2 : Int32)) hx hb hr (fun t ht hW => ⟨⟨(-2 : Int32), (), rfl, trivial, vP, aP, eP, vZ, nZ, aZ, heP, hnZ, by rw [ht]; exact hP⟩, hS.F ht⟩) hS.2.2 dX11_luck_35
      · skip
        have bz24 := fb_rng p1
        have zz25 : ¬ p1.toInt < (0 : Int) := fun h9 => cz21 (zi_lt.mpr h9)
        refine lv_iload_n hx hb dX11_luck_15 rfl (lv_at hl 1 rfl) ?_
        refine lv_ldcw (v := 2000000000) hx hb hown (hts (.constant RX11 349 (2000000000)) (wl_mem 5 rfl)) dX11_luck_16 ?_
        refine lv_icmp_gt (tgt := 33) hx hb dX11_luck_19 (by decide) (fun cz26 => ?_) (fun cz26 => ?_)
        · skip
          have zz27 : (2000000000 : Int) < p1.toInt := zi_lt.mp cz26
          refine lv_bipush (v := (-2)) hx hb dX11_luck_33 (by decide) ?_
          rw [hQ]
          exact W.iret (v := (-2 : Int32)) hx hb hr (fun t ht hW => ⟨⟨(-2 : Int32), (), rfl, trivial, vP, aP, eP, vZ, nZ, aZ, heP, hnZ, by rw [ht]; exact hP⟩, hS.F ht⟩) hS.2.2 dX11_luck_35
        · skip
          have zz28 : ¬ (2000000000 : Int) < p1.toInt := fun h9 => cz26 (zi_lt.mpr h9)
          refine lv_iload_n hx hb dX11_luck_22 rfl (lv_at hl 2 rfl) ?_
          refine lv_iconst (v := 1) hx hb dX11_luck_23 (by decide) ?_
          refine lv_icmp_lt (tgt := 33) hx hb dX11_luck_24 (by decide) (fun cz29 => ?_) (fun cz29 => ?_)
          · skip
            have bz30 := fb_rng p2
            have zz31 : p2.toInt < (1 : Int) := zi_lt.mp cz29
            refine lv_bipush (v := (-2)) hx hb dX11_luck_33 (by decide) ?_
            rw [hQ]
            exact W.iret (v := (-2 : Int32)) hx hb hr (fun t ht hW => ⟨⟨(-2 : Int32), (), rfl, trivial, vP, aP, eP, vZ, nZ, aZ, heP, hnZ, by rw [ht]; exact hP⟩, hS.F ht⟩) hS.2.2 dX11_luck_35
          · skip
            have bz32 := fb_rng p2
            have zz33 : ¬ p2.toInt < (1 : Int) := fun h9 => cz29 (zi_lt.mpr h9)
            refine lv_iload_n hx hb dX11_luck_27 rfl (lv_at hl 2 rfl) ?_
            refine lv_bipush (v := 20) hx hb dX11_luck_28 (by decide) ?_
            refine lv_icmp_le (tgt := 36) hx hb dX11_luck_30 (by decide) (fun cz34 => ?_) (fun cz34 => ?_)
            · skip
              have zz35 : p2.toInt ≤ (20 : Int) := zi_le.mp cz34
              refine lv_iconst (v := 0) hx hb dX11_luck_36 (by decide) ?_
              refine lv_istore (lv' := [(4, .int 0), (0, .ref (qX 0)), (1, .int p1), (2, .int p2), (3, .int p3)]) hx hb dX11_luck_37 hl (by decide) rfl (fun ls hl => ?_)
              refine lv_iconst (v := 0) hx hb dX11_luck_39 (by decide) ?_
              refine lv_istore (lv' := [(5, .int 0), (4, .int 0), (0, .ref (qX 0)), (1, .int p1), (2, .int p2), (3, .int p3)]) hx hb dX11_luck_40 hl (by decide) rfl (fun ls hl => ?_)
              have lp42_kz82 : ∀ (n9_42 : Nat) (H : Heap) (locs : List Loc) (ls : Array Slot) (az74 : Nat → Nat → Int32) (ez75 : Nat → Nat → Int32) (vz76 : Nat → Int32) (az77 : Nat → Nat → Nat → Int32) (nz78 : Nat → Nat → Int32) (vz79 : Nat → Nat → Int32) (xz80 : Int32) (xz81 : Int32), (2147483647 - xz81.toInt).toNat < n9_42 → RgA 0 99 ez75 → (∀ t9, Rg 0 8 (nz78 t9)) → 0 ≤ xz81.toInt → va_P (dC, dI) vwCl (List.flatten [(wPlan qP k vz76 az74 ez75), (wState (sZ 0) k (vz79 0) (nz78 0) (az77 0)), (wState (sZ 1) k (vz79 1) (nz78 1) (az77 1)), (wState (sZ 2) k (vz79 2) (nz78 2) (az77 2)), (wState (sZ 3) k (vz79 3) (nz78 3) (az77 3)), (wState (sZ 4) k (vz79 4) (nz78 4) (az77 4)), (wState (sZ 5) k (vz79 5) (nz78 5) (az77 5)), (wState (sZ 6) k (vz79 6) (nz78 6) (az77 6)), (wState (sZ 7) k (vz79 7) (nz78 7) (az77 7))] ++ List.flatten [(wSag qX k tapeX (qV 0) actsX (qN 0) (qP 0) storyX (qZ 0) orderSearchX routeSearchX setSearchX probeX slot0X slot1X slot2X slot3X image0X image1X image2X aX), (wValley qV k vV bV cV wV aV eV), (wPlan qN k vN aN eN), (wStoO qZ k (qV 0) (qP 0) (sZ 0 0) (sZ 1 0) (sZ 2 0) (sZ 3 0) (sZ 4 0) (sZ 5 0) (sZ 6 0) (sZ 7 0))]) H → va_D A (List.flatten [(wPlan qP k vz76 az74 ez75), (wState (sZ 0) k (vz79 0) (nz78 0) (az77 0)), (wState (sZ 1) k (vz79 1) (nz78 1) (az77 1)), (wState (sZ 2) k (vz79 2) (nz78 2) (az77 2)), (wState (sZ 3) k (vz79 3) (nz78 3) (az77 3)), (wState (sZ 4) k (vz79 4) (nz78 4) (az77 4)), (wState (sZ 5) k (vz79 5) (nz78 5) (az77 5)), (wState (sZ 6) k (vz79 6) (nz78 6) (az77 6)), (wState (sZ 7) k (vz79 7) (nz78 7) (az77 7))] ++ List.flatten [(wSag qX k tapeX (qV 0) actsX (qN 0) (qP 0) storyX (qZ 0) orderSearchX routeSearchX setSearchX probeX slot0X slot1X slot2X slot3X image0X image1X image2X aX), (wValley qV k vV bV cV wV aV eV), (wPlan qN k vN aN eN), (wStoO qZ k (qV 0) (qP 0) (sZ 0 0) (sZ 1 0) (sZ 2 0) (sZ 3 0) (sZ 4 0) (sZ 5 0) (sZ 6 0) (sZ 7 0))]) → va_S A s.heap H locs → lv_has ls 6 [(0, .ref (qX 0)), (1, .int p1), (2, .int p2), (3, .int p3), (4, .int xz80), (5, .int xz81)] → W p l e (headSpec wk_c_X11_luck ({ frames := 6, cells := 0, slots := 0, locals := 195 })).room s m ([.ref (qX 0), .int p1, .int p2, .int p3] : List Value).toArray below meth c H locs 0 0 Q (F0 m 42 ls []) := by
                intro n9_42
                induction n9_42 with
                | zero => intro H locs ls az74 ez75 vz76 az77 nz78 vz79 xz80 xz81 hm; exact absurd hm (Nat.not_lt_zero _)
                | succ n9_42 ih42 =>
                  intro H locs ls az74 ez75 vz76 az77 nz78 vz79 xz80 xz81 hm42 hez75 hnz78 jz83 hP hD hS hl
                  refine lv_iload hx hb dX11_luck_42 (lv_at hl 5 rfl) ?_
                  refine lv_iload_n hx hb dX11_luck_44 rfl (lv_at hl 2 rfl) ?_
                  refine lv_icmp_ge (tgt := 75) hx hb dX11_luck_45 (by decide) (fun cz84 => ?_) (fun cz84 => ?_)
                  · skip
                    have bz85 := fb_rng xz81
                    have zz86 : p2.toInt ≤ xz81.toInt := zi_le.mp cz84
                    refine lv_iload hx hb dX11_luck_75 (lv_at hl 4 rfl) ?_
                    rw [hQ]
                    exact W.iret (v := xz80) hx hb hr (fun t ht hW => ⟨⟨xz80, (), rfl, trivial, vz76, az74, ez75, vz79, nz78, az77, hez75, hnz78, by rw [ht]; exact hP⟩, hS.F ht⟩) hS.2.2 dX11_luck_77
                  · skip
                    have bz87 := fb_rng xz81
                    have zz88 : ¬ p2.toInt ≤ xz81.toInt := fun h9 => cz84 (zi_le.mpr h9)
                    refine lv_aload_n hx hb dX11_luck_48 rfl (lv_at hl 0 rfl) ?_
                    refine lv_aload_n hx hb dX11_luck_49 rfl (lv_at hl 0 rfl) ?_
                    refine lv_iload_n hx hb dX11_luck_50 rfl (lv_at hl 1 rfl) ?_
                    refine lv_i2l hx hb dX11_luck_51 rfl ?_
                    refine lv_iload hx hb dX11_luck_52 (lv_at hl 5 rfl) ?_
                    refine lv_i2l hx hb dX11_luck_54 rfl ?_
                    refine lv_ladd hx hb dX11_luck_55 ?_
                    have bz89 := fb_rng p1
                    have bz90 := fb_rng xz81
                    refine lv_topl (fun xz91 exz91 => ?_)
                    have fxz91 : xz91.toInt = p1.toInt + xz81.toInt := by rw [exz91]; exact (by have h8 := fb_addL (x := p1.toInt64) (y := xz81.toInt64) (by simp only [Int32.toInt_toInt64]; show -9223372036854775808 ≤ p1.toInt + xz81.toInt; omega) (by simp only [Int32.toInt_toInt64]; show p1.toInt + xz81.toInt < 9223372036854775808; omega); simp only [Int32.toInt_toInt64] at h8; exact h8)
                    have hPc := hP.sub (ws' := (List.flatten [(wSag qX k tapeX (qV 0) actsX (qN 0) (qP 0) storyX (qZ 0) orderSearchX routeSearchX setSearchX probeX slot0X slot1X slot2X slot3X image0X image1X image2X aX), (wValley qV k vV bV cV wV aV eV)])) [91, 92, 93, 94, 95, 96, 97, 98, 99, 100, 101, 102, 103] rfl
                    refine vp_callSi (va_Run.run (va_runV (As := [.long xz91]) (rest := [.ref (qX 0)]) ⟨hx, hb, hml, hown, hts⟩ (c_X11_winterOf l dC dI k qX tapeX actsX (qN 0) (qP 0) storyX (qZ 0) orderSearchX routeSearchX setSearchX probeX slot0X slot1X slot2X slot3X image0X image1X image2X aX qV vV bV cV wV aV eV xz91 hbV hcV hwV heV) (cwV 1 hts (gk_V (wl_mem 6 rfl) (wl_mem 7 rfl) (wl_mem 8 rfl) (wl_mem 9 rfl) (fun w h => List.mem_cons_of_mem _ (List.mem_append_right _ (List.mem_append_right _ (List.mem_append_right _ (List.mem_append_left _ h))))) wkg_c_X11_winterOf) rfl rfl rfl (by decide +kernel) ⟨Nat.le_of_ble_eq_true rfl, Nat.le_of_ble_eq_true rfl⟩) ⟨fun a U g mk q => by obtain ⟨q0, qP, qK⟩ := q; exact ⟨q0, qP, va_K.moved (u := U) (U := U.calling g mk a) (Vm.Alike.refl U.vm) qK⟩, va_recv hK hPc (ci := 11) (q0 := 0) rfl rfl, fun U hU hW => ⟨rfl, by rw [hU]; exact hPc, va_K.moved hW.alike hK⟩⟩ rfl rfl hl.1 rfl (lv_room (Nat.le_of_ble_eq_true rfl)) dX11_luck_56 ⟨Nat.le_of_ble_eq_true rfl, Nat.le_of_ble_eq_true rfl⟩)) (fun rz93 gz92 => ?_)
                    clear hPc
                    refine lv_iload_n hx hb dX11_luck_59 rfl (lv_at hl 3 rfl) ?_
                    have hPc := hP
                    have hDc : va_D A (List.flatten [(wPlan qP k vz76 az74 ez75), (wState (sZ 0) k (vz79 0) (nz78 0) (az77 0)), (wState (sZ 1) k (vz79 1) (nz78 1) (az77 1)), (wState (sZ 2) k (vz79 2) (nz78 2) (az77 2)), (wState (sZ 3) k (vz79 3) (nz78 3) (az77 3)), (wState (sZ 4) k (vz79 4) (nz78 4) (az77 4)), (wState (sZ 5) k (vz79 5) (nz78 5) (az77 5)), (wState (sZ 6) k (vz79 6) (nz78 6) (az77 6)), (wState (sZ 7) k (vz79 7) (nz78 7) (az77 7))] ++ List.flatten [(wSag qX k tapeX (qV 0) actsX (qN 0) (qP 0) storyX (qZ 0) orderSearchX routeSearchX setSearchX probeX slot0X slot1X slot2X slot3X image0X image1X image2X aX), (wValley qV k vV bV cV wV aV eV), (wPlan qN k vN aN eN), (wStoO qZ k (qV 0) (qP 0) (sZ 0 0) (sZ 1 0) (sZ 2 0) (sZ 3 0) (sZ 4 0) (sZ 5 0) (sZ 6 0) (sZ 7 0))]) := wc_subD hD [0, 1, 2, 3, 4, 5, 6, 7, 8, 9, 10, 11, 12] rfl rfl
                    have hFc := wc_free hDc hS hA
                    refine va_calli (va_runV (As := [.int rz93, .int p3]) (rest := []) ⟨hx, hb, hml, hown, hts⟩ (c_X11_breaksInCold l dC dI k H.size qX tapeX actsX storyX orderSearchX routeSearchX setSearchX probeX slot0X slot1X slot2X slot3X image0X image1X image2X aX qV vV bV cV wV aV eV qN vN aN eN qP vz76 az74 ez75 qZ sZ vz79 nz78 az77 rz93 p3 hbV hcV hwV heV heN hez75 hnz78) (cwV 2 hts (gk_V (wl_mem 10 rfl) (wl_mem 11 rfl) (wl_mem 12 rfl) (wl_mem 9 rfl) (fun w h => List.mem_cons_of_mem _ (List.mem_append_right _ (List.mem_append_right _ (List.mem_append_right _ (List.mem_append_right _ (List.mem_append_left _ h)))))) wkg_c_X11_breaksInCold) rfl rfl rfl (by decide +kernel) ⟨Nat.le_of_ble_eq_true rfl, Nat.le_of_ble_eq_true rfl⟩) ⟨fun a U g mk q => by obtain ⟨q0, q1, qP, qK, qD⟩ := q; exact ⟨q0, q1, qP, va_K.moved (u := U) (U := U.calling g mk a) (Vm.Alike.refl U.vm) qK, qD⟩, va_recv hK hPc (ci := 11) (q0 := 91) rfl rfl, fun U hU hW => ⟨rfl, by rw [hU], by rw [hU]; exact hPc, va_K.moved hW.alike hK, hDc.weaken (fun _ _ _ _ => trivial)⟩⟩ rfl rfl hl.1 rfl (lv_room (Nat.le_of_ble_eq_true rfl)) dX11_luck_60 ⟨Nat.le_of_ble_eq_true rfl, Nat.le_of_ble_eq_true rfl⟩) hS (fun q _ h => hFc q h) hFc (fun rz95 u t H1 locs ht hvm gz94 hB hz1 hk1 hS => ?_)
                    obtain ⟨vz96, az97, ez98, vz99, nz100, az101, hez98, hnz100, hP1⟩ := hB
                    rw [ht] at hP1
                    obtain ⟨hP, hD⟩ := w_callR hP hD hk1 hP1 [0, 1, 2, 3, 4, 5, 6, 7, 8] rfl rfl (wk_memC [9, 10, 11, 12] rfl) rfl [some 0, some 1, some 2, some 3, some 4, some 5, some 6, some 7, some 8] rfl rfl
                    clear hPc hDc hFc hk1 hP1
                    generalize H1 = H at hP hS ⊢
                    have hP : va_P (dC, dI) vwCl (List.flatten [(wPlan qP k vz96 az97 ez98), (wState (sZ 0) k (vz99 0) (nz100 0) (az101 0)), (wState (sZ 1) k (vz99 1) (nz100 1) (az101 1)), (wState (sZ 2) k (vz99 2) (nz100 2) (az101 2)), (wState (sZ 3) k (vz99 3) (nz100 3) (az101 3)), (wState (sZ 4) k (vz99 4) (nz100 4) (az101 4)), (wState (sZ 5) k (vz99 5) (nz100 5) (az101 5)), (wState (sZ 6) k (vz99 6) (nz100 6) (az101 6)), (wState (sZ 7) k (vz99 7) (nz100 7) (az101 7))] ++ List.flatten [(wSag qX k tapeX (qV 0) actsX (qN 0) (qP 0) storyX (qZ 0) orderSearchX routeSearchX setSearchX probeX slot0X slot1X slot2X slot3X image0X image1X image2X aX), (wValley qV k vV bV cV wV aV eV), (wPlan qN k vN aN eN), (wStoO qZ k (qV 0) (qP 0) (sZ 0 0) (sZ 1 0) (sZ 2 0) (sZ 3 0) (sZ 4 0) (sZ 5 0) (sZ 6 0) (sZ 7 0))]) H := hP
                    have hD : va_D A (List.flatten [(wPlan qP k vz96 az97 ez98), (wState (sZ 0) k (vz99 0) (nz100 0) (az101 0)), (wState (sZ 1) k (vz99 1) (nz100 1) (az101 1)), (wState (sZ 2) k (vz99 2) (nz100 2) (az101 2)), (wState (sZ 3) k (vz99 3) (nz100 3) (az101 3)), (wState (sZ 4) k (vz99 4) (nz100 4) (az101 4)), (wState (sZ 5) k (vz99 5) (nz100 5) (az101 5)), (wState (sZ 6) k (vz99 6) (nz100 6) (az101 6)), (wState (sZ 7) k (vz99 7) (nz100 7) (az101 7))] ++ List.flatten [(wSag qX k tapeX (qV 0) actsX (qN 0) (qP 0) storyX (qZ 0) orderSearchX routeSearchX setSearchX probeX slot0X slot1X slot2X slot3X image0X image1X image2X aX), (wValley qV k vV bV cV wV aV eV), (wPlan qN k vN aN eN), (wStoO qZ k (qV 0) (qP 0) (sZ 0 0) (sZ 1 0) (sZ 2 0) (sZ 3 0) (sZ 4 0) (sZ 5 0) (sZ 6 0) (sZ 7 0))]) := hD
                    refine W.widen (k := 0) (n := 0) (Nat.le_refl 0) (Nat.le_refl 0) ?_
                    have pz102 := gz94
                    have pz102 : rz95.toInt = 0 ∨ rz95.toInt = 1 := pz102
                    have ct69_kz108 : ∀ (H : Heap) (locs : List Loc) (ls : Array Slot) (xz107 : Int32), va_P (dC, dI) vwCl (List.flatten [(wPlan qP k vz96 az97 ez98), (wState (sZ 0) k (vz99 0) (nz100 0) (az101 0)), (wState (sZ 1) k (vz99 1) (nz100 1) (az101 1)), (wState (sZ 2) k (vz99 2) (nz100 2) (az101 2)), (wState (sZ 3) k (vz99 3) (nz100 3) (az101 3)), (wState (sZ 4) k (vz99 4) (nz100 4) (az101 4)), (wState (sZ 5) k (vz99 5) (nz100 5) (az101 5)), (wState (sZ 6) k (vz99 6) (nz100 6) (az101 6)), (wState (sZ 7) k (vz99 7) (nz100 7) (az101 7))] ++ List.flatten [(wSag qX k tapeX (qV 0) actsX (qN 0) (qP 0) storyX (qZ 0) orderSearchX routeSearchX setSearchX probeX slot0X slot1X slot2X slot3X image0X image1X image2X aX), (wValley qV k vV bV cV wV aV eV), (wPlan qN k vN aN eN), (wStoO qZ k (qV 0) (qP 0) (sZ 0 0) (sZ 1 0) (sZ 2 0) (sZ 3 0) (sZ 4 0) (sZ 5 0) (sZ 6 0) (sZ 7 0))]) H → va_D A (List.flatten [(wPlan qP k vz96 az97 ez98), (wState (sZ 0) k (vz99 0) (nz100 0) (az101 0)), (wState (sZ 1) k (vz99 1) (nz100 1) (az101 1)), (wState (sZ 2) k (vz99 2) (nz100 2) (az101 2)), (wState (sZ 3) k (vz99 3) (nz100 3) (az101 3)), (wState (sZ 4) k (vz99 4) (nz100 4) (az101 4)), (wState (sZ 5) k (vz99 5) (nz100 5) (az101 5)), (wState (sZ 6) k (vz99 6) (nz100 6) (az101 6)), (wState (sZ 7) k (vz99 7) (nz100 7) (az101 7))] ++ List.flatten [(wSag qX k tapeX (qV 0) actsX (qN 0) (qP 0) storyX (qZ 0) orderSearchX routeSearchX setSearchX probeX slot0X slot1X slot2X slot3X image0X image1X image2X aX), (wValley qV k vV bV cV wV aV eV), (wPlan qN k vN aN eN), (wStoO qZ k (qV 0) (qP 0) (sZ 0 0) (sZ 1 0) (sZ 2 0) (sZ 3 0) (sZ 4 0) (sZ 5 0) (sZ 6 0) (sZ 7 0))]) → va_S A s.heap H locs → lv_has ls 6 [(0, .ref (qX 0)), (1, .int p1), (2, .int p2), (3, .int p3), (4, .int xz107), (5, .int xz81)] → W p l e (headSpec wk_c_X11_luck ({ frames := 6, cells := 0, slots := 0, locals := 195 })).room s m ([.ref (qX 0), .int p1, .int p2, .int p3] : List Value).toArray below meth c H locs 0 0 Q (F0 m 69 ls []) := by
                      intro H locs ls xz107  hP hD hS hl
                      obtain ⟨xz109, exz109⟩ : ∃ y : Int32, y = xz81 + Int32.ofInt (1) := ⟨_, rfl⟩
                      have fxz109 : xz109.toInt = xz81.toInt + (1) := by rw [exz109]; exact fb_addI (y := Int32.ofInt (1)) (by show -2147483648 ≤ xz81.toInt + (1); omega) (by show xz81.toInt + (1) < 2147483648; omega)
                      refine lv_iinc (v := xz109) (lv' := [(5, .int xz109), (0, .ref (qX 0)), (1, .int p1), (2, .int p2), (3, .int p3), (4, .int xz107)]) hx hb dX11_luck_69 hl (k := 5) rfl exz109.symm (by decide) rfl (fun ls hl => ?_)
                      refine lv_goto (tgt := 42) hx hb dX11_luck_72 (by decide) ?_
                      exact ih42 H locs ls az97 ez98 vz96 az101 nz100 vz99 xz107 xz109 (by show (2147483647 - xz109.toInt).toNat < n9_42; omega) hez98 hnz100 (by show 0 ≤ xz109.toInt; omega) hP hD hS (lv_sub hl [1, 2, 3, 4, 5, 0] rfl)
                    refine lv_if_eq (tgt := 69) hx hb dX11_luck_63 (by decide) (fun cz110 => ?_) (fun cz110 => ?_)
                    · skip
                      have zz111 : rz95.toInt = (0 : Int) := zi_eq.mp cz110
                      exact ct69_kz108 H locs ls xz80   hP hD hS (lv_sub hl [0, 1, 2, 3, 4, 5] rfl)
                    · skip
                      have zz112 : ¬ rz95.toInt = (0 : Int) := fun h9 => cz110 (zi_eq.mpr h9)
                      obtain ⟨xz113, exz113⟩ : ∃ y : Int32, y = xz80 + Int32.ofInt (1) := ⟨_, rfl⟩
                      refine lv_iinc (v := xz113) (lv' := [(4, .int xz113), (0, .ref (qX 0)), (1, .int p1), (2, .int p2), (3, .int p3), (5, .int xz81)]) hx hb dX11_luck_66 hl (k := 4) rfl exz113.symm (by decide) rfl (fun ls hl => ?_)
                      exact ct69_kz108 H locs ls xz113   hP hD hS (lv_sub hl [1, 2, 3, 4, 0, 5] rfl)
              exact lp42_kz82 _ s.heap [] ls aP eP vP aZ nZ vZ (0 : Int32) (0 : Int32) (Nat.lt_succ_self _) heP hnZ (by show 0 ≤ (0 : Int); omega) hP hD hS (lv_sub hl [2, 3, 4, 5, 1, 0] rfl)
            · skip
              have zz114 : ¬ p2.toInt ≤ (20 : Int) := fun h9 => cz34 (zi_le.mpr h9)
              refine lv_bipush (v := (-2)) hx hb dX11_luck_33 (by decide) ?_
              rw [hQ]
              exact W.iret (v := (-2 : Int32)) hx hb hr (fun t ht hW => ⟨⟨(-2 : Int32), (), rfl, trivial, vP, aP, eP, vZ, nZ, aZ, heP, hnZ, by rw [ht]; exact hP⟩, hS.F ht⟩) hS.2.2 dX11_luck_35
