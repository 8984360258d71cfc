def wk_c_X11_by : List Cond := .code yX11_by cX11_by 2 (some .int) :: ([.methodLink RX11 180 yX11_noValley, .instanceMethod yX11_noValley, .selects RX11 yX11_noValley yX11_noValley, .initialized RX11, .methodLink RX11 304 yX11_tryLaw, .instanceMethod yX11_tryLaw, .selects RX11 yX11_tryLaw yX11_tryLaw, .fieldLink RX11 49 "SagMemory" "attempt" "LSagMemory$Story;", .methodLink RX11 183 yX8_atEnd, .instanceMethod yX8_atEnd, .selects RX8 yX8_atEnd yX8_atEnd, .initialized RX8, .methodLink RX11 209 yX7_together, .instanceMethod yX7_together, .selects RX7 yX7_together yX7_together, .initialized RX7] ++ (wk_c_X11_noValley ++ (wk_c_X11_tryLaw ++ (wsX110 ++ (wk_c_X8_atEnd ++ (wk_c_X7_together ++ []))))))
theorem wkg_c_X11_by : wk_c_X11_by.all goodWord = true := by decide +kernel
set_option maxHeartbeats 4000000 in
set_option maxRecDepth 100000 in
theorem c_X11_by (l : Launch) (dC : Nat → ClassId) (dI : Nat → Nat → Nat) (k : Nat → ClassId) (sz : Nat) (qX : Nat → Nat) (tapeX : Nat) (actsX : Nat) (storyX : Nat) (orderSearchX : Nat) (routeSearchX : Nat) (setSearchX : Nat) (probeX : Nat) (slot0X : Nat) (slot1X : Nat) (slot2X : Nat) (slot3X : Nat) (image0X : Nat) (image1X : Nat) (image2X : Nat) (aX : Nat → Nat → Int32) (qV : Nat → Nat) (vV : Nat → Int32) (bV : Nat → Int32) (cV : Nat → Int32) (wV : Nat → Int32) (aV : Nat → Nat → Int32) (eV : Nat → Nat → Int32) (qN : Nat → Nat) (vN : Nat → Int32) (aN : Nat → Nat → Int32) (eN : Nat → Nat → Int32) (qP : Nat → Nat) (vP : Nat → Int32) (aP : Nat → Nat → Int32) (eP : Nat → Nat → Int32) (qZ : Nat → Nat) (sZ : Nat → Nat → Nat) (vZ : Nat → Nat → Int32) (nZ : Nat → Nat → Int32) (aZ : Nat → Nat → Nat → Int32) (p1 : Int32) (hbV : Rg 0 3 bV) (hcV : Rg 0 7 cV) (hwV : Rg 0 5 wV) (heV : RgA 0 99 eV) (heN : RgA 0 99 eN) (heP : RgA 0 99 eP) (hnZ : ∀ t9, Rg 0 8 (nZ t9)) : Met l yX11_by wk_c_X11_by ({ frames := 5, cells := 0, slots := 0, locals := 173 }) (va_Pc [.ref (qX 0), .int p1] (fun U => U.heap.size = sz ∧ va_P (dC, dI) vwCl (List.flatten [(wPlan qP k vP aP eP), (wState (sZ 0) k (vZ 0) (nZ 0) (aZ 0)), (wState (sZ 1) k (vZ 1) (nZ 1) (aZ 1)), (wState (sZ 2) k (vZ 2) (nZ 2) (aZ 2)), (wState (sZ 3) k (vZ 3) (nZ 3) (aZ 3)), (wState (sZ 4) k (vZ 4) (nZ 4) (aZ 4)), (wState (sZ 5) k (vZ 5) (nZ 5) (aZ 5)), (wState (sZ 6) k (vZ 6) (nZ 6) (aZ 6)), (wState (sZ 7) k (vZ 7) (nZ 7) (aZ 7))] ++ List.flatten [(wSag qX k tapeX (qV 0) actsX (qN 0) (qP 0) storyX (qZ 0) orderSearchX routeSearchX setSearchX probeX slot0X slot1X slot2X slot3X image0X image1X image2X aX), (wValley qV k vV bV cV wV aV eV), (wPlan qN k vN aN eN), (wStoO qZ k (qV 0) (qP 0) (sZ 0 0) (sZ 1 0) (sZ 2 0) (sZ 3 0) (sZ 4 0) (sZ 5 0) (sZ 6 0) (sZ 7 0))]) U.heap ∧ va_K (dC, dI) vwCl (tK k) U ∧ va_D (fun _ => True) (List.flatten [(wPlan qP k vP aP eP), (wState (sZ 0) k (vZ 0) (nZ 0) (aZ 0)), (wState (sZ 1) k (vZ 1) (nZ 1) (aZ 1)), (wState (sZ 2) k (vZ 2) (nZ 2) (aZ 2)), (wState (sZ 3) k (vZ 3) (nZ 3) (aZ 3)), (wState (sZ 4) k (vZ 4) (nZ 4) (aZ 4)), (wState (sZ 5) k (vZ 5) (nZ 5) (aZ 5)), (wState (sZ 6) k (vZ 6) (nZ 6) (aZ 6)), (wState (sZ 7) k (vZ 7) (nZ 7) (aZ 7))] ++ List.flatten [(wSag qX k tapeX (qV 0) actsX (qN 0) (qP 0) storyX (qZ 0) orderSearchX routeSearchX setSearchX probeX slot0X slot1X slot2X slot3X image0X image1X image2X aX), (wValley qV k vV bV cV wV aV eV), (wPlan qN k vN aN eN), (wStoO qZ k (qV 0) (qP 0) (sZ 0 0) (sZ 1 0) (sZ 2 0) (sZ 3 0) (sZ 4 0) (sZ 5 0) (sZ 6 0) (sZ 7 0))]))) (va_Qi (fun (r : Int32) (_ : Unit) => True) (fun (_ : Unit) (t : State) => ∃ (vP' : Nat → Int32) (aP' : Nat → Nat → Int32) (eP' : Nat → Nat → Int32) (vZ' : Nat → Nat → Int32) (nZ' : Nat → Nat → Int32) (aZ' : Nat → Nat → Nat → Int32), RgA 0 99 eP' ∧ (∀ t9, Rg 0 8 (nZ' t9)) ∧ va_P (dC, dI) vwCl (List.flatten [(wPlan qP k vP' aP' eP'), (wState (sZ 0) k (vZ' 0) (nZ' 0) (aZ' 0)), (wState (sZ 1) k (vZ' 1) (nZ' 1) (aZ' 1)), (wState (sZ 2) k (vZ' 2) (nZ' 2) (aZ' 2)), (wState (sZ 3) k (vZ' 3) (nZ' 3) (aZ' 3)), (wState (sZ 4) k (vZ' 4) (nZ' 4) (aZ' 4)), (wState (sZ 5) k (vZ' 5) (nZ' 5) (aZ' 5)), (wState (sZ 6) k (vZ' 6) (nZ' 6) (aZ' 6)), (wState (sZ 7) k (vZ' 7) (nZ' 7) (aZ' 7))] ++ List.flatten [(wSag qX k tapeX (qV 0) actsX (qN 0) (qP 0) storyX (qZ 0) orderSearchX routeSearchX setSearchX probeX slot0X slot1X slot2X slot3X image0X image1X image2X aX), (wValley qV k vV bV cV wV aV eV), (wPlan qN k vN aN eN), (wStoO qZ k (qV 0) (qP 0) (sZ 0 0) (sZ 1 0) (sZ 2 0) (sZ 3 0) (sZ 4 0) (sZ 5 0) (sZ 6 0) (sZ 7 0))]) t.heap) (va_A (List.flatten [(wPlan qP k vP aP eP), (wState (sZ 0) k (vZ 0) (nZ 0) (aZ 0)), (wState (sZ 1) k (vZ 1) (nZ 1) (aZ 1)), (wState (sZ 2) k (vZ 2) (nZ 2) (aZ 2)), (wState (sZ 3) k (vZ 3) (nZ 3) (aZ 3)), (wState (sZ 4) k (vZ 4) (nZ 4) (aZ 4)), (wState (sZ 5) k (vZ 5) (nZ 5) (aZ 5)), (wState (sZ 6) k (vZ 6) (nZ 6) (aZ 6)), (wState (sZ 7) k (vZ 7) (nZ 7) (aZ 7))] ++ List.flatten [(wSag qX k tapeX (qV 0) actsX (qN 0) (qP 0) storyX (qZ 0) orderSearchX routeSearchX setSearchX probeX slot0X slot1X slot2X slot3X image0X image1X image2X aX), (wValley qV k vV bV cV wV aV eV), (wPlan qN k vN aN eN), (wStoO qZ k (qV 0) (qP 0) (sZ 0 0) (sZ 1 0) (sZ 2 0) (sZ 3 0) (sZ 4 0) (sZ 5 0) (sZ 6 0) (sZ 7 0))]) sz)) 0 0 (va_A (List.flatten [(wPlan qP k vP aP eP), (wState (sZ 0) k (vZ 0) (nZ 0) (aZ 0)), (wState (sZ 1) k (vZ 1) (nZ 1) (aZ 1)), (wState (sZ 2) k (vZ 2) (nZ 2) (aZ 2)), (wState (sZ 3) k (vZ 3) (nZ 3) (aZ 3)), (wState (sZ 4) k (vZ 4) (nZ 4) (aZ 4)), (wState (sZ 5) k (vZ 5) (nZ 5) (aZ 5)), (wState (sZ 6) k (vZ 6) (nZ 6) (aZ 6)), (wState (sZ 7) k (vZ 7) (nZ 7) (aZ 7))] ++ List.flatten [(wSag qX k tapeX (qV 0) actsX (qN 0) (qP 0) storyX (qZ 0) orderSearchX routeSearchX setSearchX probeX slot0X slot1X slot2X slot3X image0X image1X image2X aX), (wValley qV k vV bV cV wV aV eV), (wPlan qN k vN aN eN), (wStoO qZ k (qV 0) (qP 0) (sZ 0 0) (sZ 1 0) (sZ 2 0) (sZ 3 0) (sZ 4 0) (sZ 5 0) (sZ 6 0) (sZ 7 0))]) sz) := by
  refine Met.ofW (cc := cX11_by) (maxL := 2) (ret := (some .int)) (by decide) rfl ?_
  intro p e s m args below meth c s₁ B hml hv
  obtain ⟨rfl, hsz, hP, hK, hD0⟩ := hv
  have hx := B.exec
  have hb := B.bytes
  have hr := B.returns
  have hts := atoms_spec (ws := wk_c_X11_by) B.pre
  have hown : s.vm.findClass RX11 = some m.cls := findClass_of_methodNamed B.named
  have hlocks := B.notSynchronized
  subst hsz
  have hD := hD0.self (sz := s.heap.size)
  generalize hAe : va_A (List.flatten [(wPlan qP k vP aP eP), (wState (sZ 0) k (vZ 0) (nZ 0) (aZ 0)), (wState (sZ 1) k (vZ 1) (nZ 1) (aZ 1)), (wState (sZ 2) k (vZ 2) (nZ 2) (aZ 2)), (wState (sZ 3) k (vZ 3) (nZ 3) (aZ 3)), (wState (sZ 4) k (vZ 4) (nZ 4) (aZ 4)), (wState (sZ 5) k (vZ 5) (nZ 5) (aZ 5)), (wState (sZ 6) k (vZ 6) (nZ 6) (aZ 6)), (wState (sZ 7) k (vZ 7) (nZ 7) (aZ 7))] ++ List.flatten [(wSag qX k tapeX (qV 0) actsX (qN 0) (qP 0) storyX (qZ 0) orderSearchX routeSearchX setSearchX probeX slot0X slot1X slot2X slot3X image0X image1X image2X aX), (wValley qV k vV bV cV wV aV eV), (wPlan qN k vN aN eN), (wStoO qZ k (qV 0) (qP 0) (sZ 0 0) (sZ 1 0) (sZ 2 0) (sZ 3 0) (sZ 4 0) (sZ 5 0) (sZ 6 0) (sZ 7 0))]) s.heap.size = A at hD ⊢
  have hA : ∀ q : Nat, s.heap.size ≤ q → A q := fun q h => by rw [← hAe]; exact Or.inr h
  have hS : va_S A s.heap s.heap [] := va_S.rf
  have hP : va_P (dC, dI) vwCl (List.flatten [(wPlan qP k vP aP eP), (wState (sZ 0) k (vZ 0) (nZ 0) (aZ 0)), (wState (sZ 1) k (vZ 1) (nZ 1) (aZ 1)), (wState (sZ 2) k (vZ 2) (nZ 2) (aZ 2)), (wState (sZ 3) k (vZ 3) (nZ 3) (aZ 3)), (wState (sZ 4) k (vZ 4) (nZ 4) (aZ 4)), (wState (sZ 5) k (vZ 5) (nZ 5) (aZ 5)), (wState (sZ 6) k (vZ 6) (nZ 6) (aZ 6)), (wState (sZ 7) k (vZ 7) (nZ 7) (aZ 7))] ++ List.flatten [(wSag qX k tapeX (qV 0) actsX (qN 0) (qP 0) storyX (qZ 0) orderSearchX routeSearchX setSearchX probeX slot0X slot1X slot2X slot3X image0X image1X image2X aX), (wValley qV k vV bV cV wV aV eV), (wPlan qN k vN aN eN), (wStoO qZ k (qV 0) (qP 0) (sZ 0 0) (sZ 1 0) (sZ 2 0) (sZ 3 0) (sZ 4 0) (sZ 5 0) (sZ 6 0) (sZ 7 0))]) s.heap := hP
  have hl := lv_entry ([.ref (qX 0), .int p1]) (n := 2) (Nat.le_of_ble_eq_true rfl)
  rw [lg_entry_eq]
  generalize (lg_sl ([.ref (qX 0), .int p1]) ++ List.replicate (2 - (lg_sl ([.ref (qX 0), .int p1])).length) Slot.unset).toArray = ls at hl ⊢
  have hl : lv_has ls 2 [(0, .ref (qX 0)), (1, .int p1)] := hl
  refine w_gen (fun Q hQ => ?_)
  refine lv_aload_n hx hb dX11_by_0 rfl (lv_at hl 0 rfl) ?_
  have hPc := hP.sub (ws' := (List.flatten [(wSag qX k tapeX (qV 0) actsX (qN 0) (qP 0) storyX (qZ 0) orderSearchX routeSearchX setSearchX probeX slot0X slot1X slot2X slot3X image0X image1X image2X aX), (wValley qV k vV bV cV wV aV eV)])) [91, 92, 93, 94, 95, 96, 97, 98, 99, 100, 101, 102, 103] rfl
  refine vp_callSi (va_Run.run (va_runV (As := []) (rest := []) ⟨hx, hb, hml, hown, hts⟩ (c_X11_noValley l dC dI k qX tapeX actsX (qN 0) (qP 0) storyX (qZ 0) orderSearchX routeSearchX setSearchX probeX slot0X slot1X slot2X slot3X image0X image1X image2X aX qV vV bV cV wV aV eV hbV hcV hwV heV) (cwV 0 hts (gk_V (wl_mem 0 rfl) (wl_mem 1 rfl) (wl_mem 2 rfl) (wl_mem 3 rfl) (fun w h => List.mem_cons_of_mem _ (List.mem_append_right _ (List.mem_append_left _ h))) wkg_c_X11_noValley) rfl rfl rfl (by decide +kernel) ⟨Nat.le_of_ble_eq_true rfl, Nat.le_of_ble_eq_true rfl⟩) ⟨fun a U g mk q => by obtain ⟨q0, qP, qK⟩ := q; exact ⟨q0, qP, va_K.moved (u := U) (U := U.calling g mk a) (Vm.Alike.refl U.vm) qK⟩, va_recv hK hPc (ci := 11) (q0 := 0) rfl rfl, fun U hU hW => ⟨rfl, by rw [hU]; exact hPc, va_K.moved hW.alike hK⟩⟩ rfl rfl hl.1 rfl (lv_room (Nat.le_of_ble_eq_true rfl)) dX11_by_1 ⟨Nat.le_of_ble_eq_true rfl, Nat.le_of_ble_eq_true rfl⟩)) (fun rz2 gz1 => ?_)
  clear hPc
  have pz3 := gz1
  have pz3 : rz2.toInt = 0 ∨ rz2.toInt = 1 := pz3
  refine lv_if_ne (tgt := 16) hx hb dX11_by_4 (by decide) (fun cz4 => ?_) (fun cz4 => ?_)
  · skip
    have zz5 : ¬ rz2.toInt = (0 : Int) := fun h9 => cz4 (zi_eq.mpr h9)
    refine lv_bipush (v := (-2)) hx hb dX11_by_16 (by decide) ?_
    rw [hQ]
    exact W.iret (v := (-2 : Int32)) hx hb hr (fun t ht hW => ⟨⟨(-2 : Int32), (), rfl, trivial, vP, aP, eP, vZ, nZ, aZ, heP, hnZ, by rw [ht]; exact hP⟩, hS.F ht⟩) hS.2.2 dX11_by_18
  · skip
    have zz6 : rz2.toInt = (0 : Int) := zi_eq.mp cz4
    refine lv_iload_n hx hb dX11_by_7 rfl (lv_at hl 1 rfl) ?_
    refine lv_if_lt (tgt := 16) hx hb dX11_by_8 (by decide) (fun cz7 => ?_) (fun cz7 => ?_)
    · skip
      have bz8 := fb_rng p1
      have zz9 : p1.toInt < (0 : Int) := zi_lt.mp cz7
      refine lv_bipush (v := (-2)) hx hb dX11_by_16 (by decide) ?_
      rw [hQ]
      exact W.iret (v := (-2 : Int32)) hx hb hr (fun t ht hW => ⟨⟨(-2 : Int32), (), rfl, trivial, vP, aP, eP, vZ, nZ, aZ, heP, hnZ, by rw [ht]; exact hP⟩, hS.F ht⟩) hS.2.2 dX11_by_18
    · skip
      have bz10 := fb_rng p1
      have zz11 : ¬ p1.toInt < (0 : Int) := fun h9 => cz7 (zi_lt.mpr h9)
      refine lv_iload_n hx hb dX11_by_11 rfl (lv_at hl 1 rfl) ?_
      refine lv_iconst (v := 4) hx hb dX11_by_12 (by decide) ?_
      refine lv_icmp_lt (tgt := 19) hx hb dX11_by_13 (by decide) (fun cz12 => ?_) (fun cz12 => ?_)
      · skip
        have zz13 : p1.toInt < (4 : Int) := zi_lt.mp cz12
        refine lv_aload_n hx hb dX11_by_19 rfl (lv_at hl 0 rfl) ?_
        refine lv_iload_n hx hb dX11_by_20 rfl (lv_at hl 1 rfl) ?_
        have hPc := hP
        have hDc : va_D A (List.flatten [(wPlan qP k vP aP eP), (wState (sZ 0) k (vZ 0) (nZ 0) (aZ 0)), (wState (sZ 1) k (vZ 1) (nZ 1) (aZ 1)), (wState (sZ 2) k (vZ 2) (nZ 2) (aZ 2)), (wState (sZ 3) k (vZ 3) (nZ 3) (aZ 3)), (wState (sZ 4) k (vZ 4) (nZ 4) (aZ 4)), (wState (sZ 5) k (vZ 5) (nZ 5) (aZ 5)), (wState (sZ 6) k (vZ 6) (nZ 6) (aZ 6)), (wState (sZ 7) k (vZ 7) (nZ 7) (aZ 7))] ++ List.flatten [(wSag qX k tapeX (qV 0) actsX (qN 0) (qP 0) storyX (qZ 0) orderSearchX routeSearchX setSearchX probeX slot0X slot1X slot2X slot3X image0X image1X image2X aX), (wValley qV k vV bV cV wV aV eV), (wPlan qN k vN aN eN), (wStoO qZ k (qV 0) (qP 0) (sZ 0 0) (sZ 1 0) (sZ 2 0) (sZ 3 0) (sZ 4 0) (sZ 5 0) (sZ 6 0) (sZ 7 0))]) := wc_subD hD [0, 1, 2, 3, 4, 5, 6, 7, 8, 9, 10, 11, 12] rfl rfl
        have hFc := wc_free hDc hS hA
        refine va_callv (va_runV (As := [.int p1]) (rest := []) ⟨hx, hb, hml, hown, hts⟩ (c_X11_tryLaw l dC dI k s.heap.size qX tapeX actsX storyX orderSearchX routeSearchX setSearchX probeX slot0X slot1X slot2X slot3X image0X image1X image2X aX qV vV bV cV wV aV eV qN vN aN eN qP vP aP eP qZ sZ vZ nZ aZ p1 hbV hcV hwV heV heN heP hnZ) (cwV 1 hts (gk_V (wl_mem 4 rfl) (wl_mem 5 rfl) (wl_mem 6 rfl) (wl_mem 3 rfl) (fun w h => List.mem_cons_of_mem _ (List.mem_append_right _ (List.mem_append_right _ (List.mem_append_left _ h)))) wkg_c_X11_tryLaw) rfl rfl rfl (by decide +kernel) ⟨Nat.le_of_ble_eq_true rfl, Nat.le_of_ble_eq_true rfl⟩) ⟨fun a U g mk q => by obtain ⟨q0, q1, qP, qK, qD⟩ := q; exact ⟨q0, q1, qP, va_K.moved (u := U) (U := U.calling g mk a) (Vm.Alike.refl U.vm) qK, qD⟩, va_recv hK hPc (ci := 11) (q0 := 91) rfl rfl, fun U hU hW => ⟨rfl, by rw [hU], by rw [hU]; exact hPc, va_K.moved hW.alike hK, hDc.weaken (fun _ _ _ _ => trivial)⟩⟩ rfl rfl hl.1 rfl (lv_room (Nat.le_of_ble_eq_true rfl)) dX11_by_21 ⟨Nat.le_of_ble_eq_true rfl, Nat.le_of_ble_eq_true rfl⟩) hS (fun q _ h => hFc q h) hFc (fun u t H1 locs ht hvm gz14 hB hz1 hk1 hS => ?_)
        obtain ⟨vz16, az17, ez18, vz19, nz20, az21, hez18, hnz20, hP1⟩ := hB
        rw [ht] at hP1
        obtain ⟨hP, hD⟩ := w_callR hP hD hk1 hP1 [0, 1, 2, 3, 4, 5, 6, 7, 8] rfl rfl (wk_memC [9, 10, 11, 12] rfl) rfl [some 0, some 1, some 2, some 3, some 4, some 5, some 6, some 7, some 8] rfl rfl
        clear hPc hDc hFc hk1 hP1
        generalize H1 = H at hP hS ⊢
        have hP : va_P (dC, dI) vwCl (List.flatten [(wPlan qP k vz16 az17 ez18), (wState (sZ 0) k (vz19 0) (nz20 0) (az21 0)), (wState (sZ 1) k (vz19 1) (nz20 1) (az21 1)), (wState (sZ 2) k (vz19 2) (nz20 2) (az21 2)), (wState (sZ 3) k (vz19 3) (nz20 3) (az21 3)), (wState (sZ 4) k (vz19 4) (nz20 4) (az21 4)), (wState (sZ 5) k (vz19 5) (nz20 5) (az21 5)), (wState (sZ 6) k (vz19 6) (nz20 6) (az21 6)), (wState (sZ 7) k (vz19 7) (nz20 7) (az21 7))] ++ List.flatten [(wSag qX k tapeX (qV 0) actsX (qN 0) (qP 0) storyX (qZ 0) orderSearchX routeSearchX setSearchX probeX slot0X slot1X slot2X slot3X image0X image1X image2X aX), (wValley qV k vV bV cV wV aV eV), (wPlan qN k vN aN eN), (wStoO qZ k (qV 0) (qP 0) (sZ 0 0) (sZ 1 0) (sZ 2 0) (sZ 3 0) (sZ 4 0) (sZ 5 0) (sZ 6 0) (sZ 7 0))]) H := hP
        have hD : va_D A (List.flatten [(wPlan qP k vz16 az17 ez18), (wState (sZ 0) k (vz19 0) (nz20 0) (az21 0)), (wState (sZ 1) k (vz19 1) (nz20 1) (az21 1)), (wState (sZ 2) k (vz19 2) (nz20 2) (az21 2)), (wState (sZ 3) k (vz19 3) (nz20 3) (az21 3)), (wState (sZ 4) k (vz19 4) (nz20 4) (az21 4)), (wState (sZ 5) k (vz19 5) (nz20 5) (az21 5)), (wState (sZ 6) k (vz19 6) (nz20 6) (az21 6)), (wState (sZ 7) k (vz19 7) (nz20 7) (az21 7))] ++ List.flatten [(wSag qX k tapeX (qV 0) actsX (qN 0) (qP 0) storyX (qZ 0) orderSearchX routeSearchX setSearchX probeX slot0X slot1X slot2X slot3X image0X image1X image2X aX), (wValley qV k vV bV cV wV aV eV), (wPlan qN k vN aN eN), (wStoO qZ k (qV 0) (qP 0) (sZ 0 0) (sZ 1 0) (sZ 2 0) (sZ 3 0) (sZ 4 0) (sZ 5 0) (sZ 6 0) (sZ 7 0))]) := hD
        refine W.widen (k := 0) (n := 0) (Nat.le_refl 0) (Nat.le_refl 0) ?_
        refine lv_aload_n hx hb dX11_by_24 rfl (lv_at hl 0 rfl) ?_
        refine va_get (D := (dC, dI)) (ci := 11) (v := .ref (qZ 0)) (C := RX11) (T := TX11) (N := 15) hx hb hts (fun w h => List.mem_cons_of_mem _ (List.mem_append_right _ (List.mem_append_right _ (List.mem_append_right _ (List.mem_append_left _ h))))) hown hK hP 91 rfl rfl 6 (by decide) (hts (.fieldLink RX11 49 "SagMemory" "attempt" "LSagMemory$Story;") (wl_mem 7 rfl)) (fun _ h9 => h9) rfl dX11_by_25 ?_
        have hPc : va_P (dC, dI) vwCl (List.flatten [(wStoO qZ k (qV 0) (qP 0) (sZ 0 0) (sZ 1 0) (sZ 2 0) (sZ 3 0) (sZ 4 0) (sZ 5 0) (sZ 6 0) (sZ 7 0)), (wState (sZ 0) k (vz19 0) (nz20 0) (az21 0)), (wState (sZ 1) k (vz19 1) (nz20 1) (az21 1)), (wState (sZ 2) k (vz19 2) (nz20 2) (az21 2)), (wState (sZ 3) k (vz19 3) (nz20 3) (az21 3)), (wState (sZ 4) k (vz19 4) (nz20 4) (az21 4)), (wState (sZ 5) k (vz19 5) (nz20 5) (az21 5)), (wState (sZ 6) k (vz19 6) (nz20 6) (az21 6)), (wState (sZ 7) k (vz19 7) (nz20 7) (az21 7)), (wValley qV k vV bV cV wV aV eV)]) H := wc_subP1 hP [12, 1, 2, 3, 4, 5, 6, 7, 8, 10] rfl
        refine va_csr (va_Run.run (va_runV (As := []) (rest := []) ⟨hx, hb, hml, hown, hts⟩ (c_X8_atEnd l dC dI k qZ sZ (qP 0) vz19 nz20 az21 qV vV bV cV wV aV eV hnz20 hbV hcV hwV heV) (cwV 0 hts (gk_V (wl_mem 8 rfl) (wl_mem 9 rfl) (wl_mem 10 rfl) (wl_mem 11 rfl) (fun w h => List.mem_cons_of_mem _ (List.mem_append_right _ (List.mem_append_right _ (List.mem_append_right _ (List.mem_append_right _ (List.mem_append_left _ h)))))) wkg_c_X8_atEnd) rfl rfl rfl (by decide +kernel) ⟨Nat.le_of_ble_eq_true rfl, Nat.le_of_ble_eq_true rfl⟩) ⟨fun a U g mk q => by obtain ⟨q0, qP, qK⟩ := q; exact ⟨q0, qP, va_K.moved (u := U) (U := U.calling g mk a) (Vm.Alike.refl U.vm) qK⟩, va_recv hK hPc (ci := 8) (q0 := 0) rfl rfl, fun U hU hW => ⟨rfl, by rw [hU]; exact hPc, va_K.moved hW.alike hK⟩⟩ rfl rfl hl.1 rfl (lv_room (Nat.le_of_ble_eq_true rfl)) dX11_by_28 ⟨Nat.le_of_ble_eq_true rfl, Nat.le_of_ble_eq_true rfl⟩)) (fun rz23 gz22 => ?_)
        clear hPc
        rcases gz22 with rfl | rfl | rfl | rfl | rfl | rfl | rfl | rfl
        · skip
          refine W.eq (g2 := F0 m 31 ls [.ref (sZ 0 0)]) rfl ?_
          have hPc := hP.sub (ws' := (List.flatten [(wState (sZ 0) k (vz19 0) (nz20 0) (az21 0))])) [3, 4, 5, 6, 7, 8, 9, 10, 11, 12, 13] rfl
          refine vp_callSi (va_Run.run (va_runV (As := []) (rest := []) ⟨hx, hb, hml, hown, hts⟩ (c_X7_together l dC dI k (sZ 0) (vz19 0) (nz20 0) (az21 0) (hnz20 0)) (cwV 0 hts (gk_V (wl_mem 12 rfl) (wl_mem 13 rfl) (wl_mem 14 rfl) (wl_mem 15 rfl) (fun w h => List.mem_cons_of_mem _ (List.mem_append_right _ (List.mem_append_right _ (List.mem_append_right _ (List.mem_append_right _ (List.mem_append_right _ (List.mem_append_left _ h))))))) wkg_c_X7_together) rfl rfl rfl (by decide +kernel) ⟨Nat.le_of_ble_eq_true rfl, Nat.le_of_ble_eq_true rfl⟩) ⟨fun a U g mk q => by obtain ⟨q0, qP, qK⟩ := q; exact ⟨q0, qP, va_K.moved (u := U) (U := U.calling g mk a) (Vm.Alike.refl U.vm) qK⟩, va_recv hK hPc (ci := 7) (q0 := 0) rfl rfl, fun U hU hW => ⟨rfl, by rw [hU]; exact hPc, va_K.moved hW.alike hK⟩⟩ rfl rfl hl.1 rfl (lv_room (Nat.le_of_ble_eq_true rfl)) dX11_by_31 ⟨Nat.le_of_ble_eq_true rfl, Nat.le_of_ble_eq_true rfl⟩)) (fun rz25 gz24 => ?_)
          clear hPc
          rw [hQ]
          exact W.iret (v := rz25) hx hb hr (fun t ht hW => ⟨⟨rz25, (), rfl, trivial, vz16, az17, ez18, vz19, nz20, az21, hez18, hnz20, by rw [ht]; exact hP⟩, hS.F ht⟩) hS.2.2 dX11_by_34
        · skip
          refine W.eq (g2 := F0 m 31 ls [.ref (sZ 1 0)]) rfl ?_
          have hPc := hP.sub (ws' := (List.flatten [(wState (sZ 1) k (vz19 1) (nz20 1) (az21 1))])) [14, 15, 16, 17, 18, 19, 20, 21, 22, 23, 24] rfl
          refine vp_callSi (va_Run.run (va_runV (As := []) (rest := []) ⟨hx, hb, hml, hown, hts⟩ (c_X7_together l dC dI k (sZ 1) (vz19 1) (nz20 1) (az21 1) (hnz20 1)) (cwV 0 hts (gk_V (wl_mem 12 rfl) (wl_mem 13 rfl) (wl_mem 14 rfl) (wl_mem 15 rfl) (fun w h => List.mem_cons_of_mem _ (List.mem_append_right _ (List.mem_append_right _ (List.mem_append_right _ (List.mem_append_right _ (List.mem_append_right _ (List.mem_append_left _ h))))))) wkg_c_X7_together) rfl rfl rfl (by decide +kernel) ⟨Nat.le_of_ble_eq_true rfl, Nat.le_of_ble_eq_true rfl⟩) ⟨fun a U g mk q => by obtain ⟨q0, qP, qK⟩ := q; exact ⟨q0, qP, va_K.moved (u := U) (U := U.calling g mk a) (Vm.Alike.refl U.vm) qK⟩, va_recv hK hPc (ci := 7) (q0 := 0) rfl rfl, fun U hU hW => ⟨rfl, by rw [hU]; exact hPc, va_K.moved hW.alike hK⟩⟩ rfl rfl hl.1 rfl (lv_room (Nat.le_of_ble_eq_true rfl)) dX11_by_31 ⟨Nat.le_of_ble_eq_true rfl, Nat.le_of_ble_eq_true rfl⟩)) (fun rz27 gz26 => ?_)
          clear hPc
          rw [hQ]
          exact W.iret (v := rz27) hx hb hr (fun t ht hW => ⟨⟨rz27, (), rfl, trivial, vz16, az17, ez18, vz19, nz20, az21, hez18, hnz20, by rw [ht]; exact hP⟩, hS.F ht⟩) hS.2.2 dX11_by_34
        · skip
          refine W.eq (g2 := F0 m 31 ls [.ref (sZ 2 0)]) rfl ?_
          have hPc := hP.sub (ws' := (List.flatten [(wState (sZ 2) k (vz19 2) (nz20 2) (az21 2))])) [25, 26, 27, 28, 29, 30, 31, 32, 33, 34, 35] rfl
          refine vp_callSi (va_Run.run (va_runV (As := []) (rest := []) ⟨hx, hb, hml, hown, hts⟩ (c_X7_together l dC dI k (sZ 2) (vz19 2) (nz20 2) (az21 2) (hnz20 2)) (cwV 0 hts (gk_V (wl_mem 12 rfl) (wl_mem 13 rfl) (wl_mem 14 rfl) (wl_mem 15 rfl) (fun w h => List.mem_cons_of_mem _ (List.mem_append_right _ (List.mem_append_right _ (List.mem_append_right _ (List.mem_append_right _ (List.mem_append_right _ (List.mem_append_left _ h))))))) wkg_c_X7_together) rfl rfl rfl (by decide +kernel) ⟨Nat.le_of_ble_eq_true rfl, Nat.le_of_ble_eq_true rfl⟩) ⟨fun a U g mk q => by obtain ⟨q0, qP, qK⟩ := q; exact ⟨q0, qP, va_K.moved (u := U) (U := U.calling g mk a) (Vm.Alike.refl U.vm) qK⟩, va_recv hK hPc (ci := 7) (q0 := 0) rfl rfl, fun U hU hW => ⟨rfl, by rw [hU]; exact hPc, va_K.moved hW.alike hK⟩⟩ rfl rfl hl.1 rfl (lv_room (Nat.le_of_ble_eq_true rfl)) dX11_by_31 ⟨Nat.le_of_ble_eq_true rfl, Nat.le_of_ble_eq_true rfl⟩)) (fun rz29 gz28 => ?_)
          clear hPc
          rw [hQ]
          exact W.iret (v := rz29) hx hb hr (fun t ht hW => ⟨⟨rz29, (), rfl, trivial, vz16, az17, ez18, vz19, nz20, az21, hez18, hnz20, by rw [ht]; exact hP⟩, hS.F ht⟩) hS.2.2 dX11_by_34
        · skip
          refine W.eq (g2 := F0 m 31 ls [.ref (sZ 3 0)]) rfl ?_
          have hPc := hP.sub (ws' := (List.flatten [(wState (sZ 3) k (vz19 3) (nz20 3) (az21 3))])) [36, 37, 38, 39, 40, 41, 42, 43, 44, 45, 46] rfl
          refine vp_callSi (va_Run.run (va_runV (As := []) (rest := []) ⟨hx, hb, hml, hown, hts⟩ (c_X7_together l dC dI k (sZ 3) (vz19 3) (nz20 3) (az21 3) (hnz20 3)) (cwV 0 hts (gk_V (wl_mem 12 rfl) (wl_mem 13 rfl) (wl_mem 14 rfl) (wl_mem 15 rfl) (fun w h => List.mem_cons_of_mem _ (List.mem_append_right _ (List.mem_append_right _ (List.mem_append_right _ (List.mem_append_right _ (List.mem_append_right _ (List.mem_append_left _ h))))))) wkg_c_X7_together) rfl rfl rfl (by decide +kernel) ⟨Nat.le_of_ble_eq_true rfl, Nat.le_of_ble_eq_true rfl⟩) ⟨fun a U g mk q => by obtain ⟨q0, qP, qK⟩ := q; exact ⟨q0, qP, va_K.moved (u := U) (U := U.calling g mk a) (Vm.Alike.refl U.vm) qK⟩, va_recv hK hPc (ci := 7) (q0 := 0) rfl rfl, fun U hU hW => ⟨rfl, by rw [hU]; exact hPc, va_K.moved hW.alike hK⟩⟩ rfl rfl hl.1 rfl (lv_room (Nat.le_of_ble_eq_true rfl)) dX11_by_31 ⟨Nat.le_of_ble_eq_true rfl, Nat.le_of_ble_eq_true rfl⟩)) (fun rz31 gz30 => ?_)
          clear hPc
          rw [hQ]
          exact W.iret (v := rz31) hx hb hr (fun t ht hW => ⟨⟨rz31, (), rfl, trivial, vz16, az17, ez18, vz19, nz20, az21, hez18, hnz20, by rw [ht]; exact hP⟩, hS.F ht⟩) hS.2.2 dX11_by_34
        · skip
          refine W.eq (g2 := F0 m 31 ls [.ref (sZ 4 0)]) rfl ?_
          have hPc := hP.sub (ws' := (List.flatten [(wState (sZ 4) k (vz19 4) (nz20 4) (az21 4))])) [47, 48, 49, 50, 51, 52, 53, 54, 55, 56, 57] rfl
          refine vp_callSi (va_Run.run (va_runV (As := []) (rest := []) ⟨hx, hb, hml, hown, hts⟩ (c_X7_together l dC dI k (sZ 4) (vz19 4) (nz20 4) (az21 4) (hnz20 4)) (cwV 0 hts (gk_V (wl_mem 12 rfl) (wl_mem 13 rfl) (wl_mem 14 rfl) (wl_mem 15 rfl) (fun w h => List.mem_cons_of_mem _ (List.mem_append_right _ (List.mem_append_right _ (List.mem_append_right _ (List.mem_append_right _ (List.mem_append_right _ (List.mem_append_left _ h))))))) wkg_c_X7_together) rfl rfl rfl (by decide +kernel) ⟨Nat.le_of_ble_eq_true rfl, Nat.le_of_ble_eq_true rfl⟩) ⟨fun a U g mk q => by obtain ⟨q0, qP, qK⟩ := q; exact ⟨q0, qP, va_K.moved (u := U) (U := U.calling g mk a) (Vm.Alike.refl U.vm) qK⟩, va_recv hK hPc (ci := 7) (q0 := 0) rfl rfl, fun U hU hW => ⟨rfl, by rw [hU]; exact hPc, va_K.moved hW.alike hK⟩⟩ rfl rfl hl.1 rfl (lv_room (Nat.le_of_ble_eq_true rfl)) dX11_by_31 ⟨Nat.le_of_ble_eq_true rfl, Nat.le_of_ble_eq_true rfl⟩)) (fun rz33 gz32 => ?_)
          clear hPc
          rw [hQ]
          exact W.iret (v := rz33) hx hb hr (fun t ht hW => ⟨⟨rz33, (), rfl, trivial, vz16, az17, ez18, vz19, nz20, az21, hez18, hnz20, by rw [ht]; exact hP⟩, hS.F ht⟩) hS.2.2 dX11_by_34
        · skip
          refine W.eq (g2 := F0 m 31 ls [.ref (sZ 5 0)]) rfl ?_
          have hPc := hP.sub (ws' := (List.flatten [(wState (sZ 5) k (vz19 5) (nz20 5) (az21 5))])) [58, 59, 60, 61, 62, 63, 64, 65, 66, 67, 68] rfl
          refine vp_callSi (va_Run.run (va_runV (As := []) (rest := []) ⟨hx, hb, hml, hown, hts⟩ (c_X7_together l dC dI k (sZ 5) (vz19 5) (nz20 5) (az21 5) (hnz20 5)) (cwV 0 hts (gk_V (wl_mem 12 rfl) (wl_mem 13 rfl) (wl_mem 14 rfl) (wl_mem 15 rfl) (fun w h => List.mem_cons_of_mem _ (List.mem_append_right _ (List.mem_append_right _ (List.mem_append_right _ (List.mem_append_right _ (List.mem_append_right _ (List.mem_append_left _ h))))))) wkg_c_X7_together) rfl rfl rfl (by decide +kernel) ⟨Nat.le_of_ble_eq_true rfl, Nat.le_of_ble_eq_true rfl⟩) ⟨fun a U g mk q => by obtain ⟨q0, qP, qK⟩ := q; exact ⟨q0, qP, va_K.moved (u := U) (U := U.calling g mk a) (Vm.Alike.refl U.vm) qK⟩, va_recv hK hPc (ci := 7) (q0 := 0) rfl rfl, fun U hU hW => ⟨rfl, by rw [hU]; exact hPc, va_K.moved hW.alike hK⟩⟩ rfl rfl hl.1 rfl (lv_room (Nat.le_of_ble_eq_true rfl)) dX11_by_31 ⟨Nat.le_of_ble_eq_true rfl, Nat.le_of_ble_eq_true rfl⟩)) (fun rz35 gz34 => ?_)
          clear hPc
          rw [hQ]
          exact W.iret (v := rz35) hx hb hr (fun t ht hW => ⟨⟨rz35, (), rfl, trivial, vz16, az17, ez18, vz19, nz20, az21, hez18, hnz20, by rw [ht]; exact hP⟩, hS.F ht⟩) hS.2.2 dX11_by_34
        · skip
          refine W.eq (g2 := F0 m 31 ls [.ref (sZ 6 0)]) rfl ?_
          have hPc := hP.sub (ws' := (List.flatten [(wState (sZ 6) k (vz19 6) (nz20 6) (az21 6))])) [69, 70, 71, 72, 73, 74, 75, 76, 77, 78, 79] rfl
          refine vp_callSi (va_Run.run (va_runV (As := []) (rest := []) ⟨hx, hb, hml, hown, hts⟩ (c_X7_together l dC dI k (sZ 6) (vz19 6) (nz20 6) (az21 6) (hnz20 6)) (cwV 0 hts (gk_V (wl_mem 12 rfl) (wl_mem 13 rfl) (wl_mem 14 rfl) (wl_mem 15 rfl) (fun w h => List.mem_cons_of_mem _ (List.mem_append_right _ (List.mem_append_right _ (List.mem_append_right _ (List.mem_append_right _ (List.mem_append_right _ (List.mem_append_left _ h))))))) wkg_c_X7_together) rfl rfl rfl (by decide +kernel) ⟨Nat.le_of_ble_eq_true rfl, Nat.le_of_ble_eq_true rfl⟩) ⟨fun a U g mk q => by obtain ⟨q0, qP, qK⟩ := q; exact ⟨q0, qP, va_K.moved (u := U) (U := U.calling g mk a) (Vm.Alike.refl U.vm) qK⟩, va_recv hK hPc (ci := 7) (q0 := 0) rfl rfl, fun U hU hW => ⟨rfl, by rw [hU]; exact hPc, va_K.moved hW.alike hK⟩⟩ rfl rfl hl.1 rfl (lv_room (Nat.le_of_ble_eq_true rfl)) dX11_by_31 ⟨Nat.le_of_ble_eq_true rfl, Nat.le_of_ble_eq_true rfl⟩)) (fun rz37 gz36 => ?_)
          clear hPc
          rw [hQ]
          exact W.iret (v := rz37) hx hb hr (fun t ht hW => ⟨⟨rz37, (), rfl, trivial, vz16, az17, ez18, vz19, nz20, az21, hez18, hnz20, by rw [ht]; exact hP⟩, hS.F ht⟩) hS.2.2 dX11_by_34
        · skip
          refine W.eq (g2 := F0 m 31 ls [.ref (sZ 7 0)]) rfl ?_
          have hPc := hP.sub (ws' := (List.flatten [(wState (sZ 7) k (vz19 7) (nz20 7) (az21 7))])) [80, 81, 82, 83, 84, 85, 86, 87, 88, 89, 90] rfl
          refine vp_callSi (va_Run.run (va_runV (As := []) (rest := []) ⟨hx, hb, hml, hown, hts⟩ (c_X7_together l dC dI k (sZ 7) (vz19 7) (nz20 7) (az21 7) (hnz20 7)) (cwV 0 hts (gk_V (wl_mem 12 rfl) (wl_mem 13 rfl) (wl_mem 14 rfl) (wl_mem 15 rfl) (fun w h => List.mem_cons_of_mem _ (List.mem_append_right _ (List.mem_append_right _ (List.mem_append_right _ (List.mem_append_right _ (List.mem_append_right _ (List.mem_append_left _ h))))))) wkg_c_X7_together) rfl rfl rfl (by decide +kernel) ⟨Nat.le_of_ble_eq_true rfl, Nat.le_of_ble_eq_true rfl⟩) ⟨fun a U g mk q => by obtain ⟨q0, qP, qK⟩ := q; exact ⟨q0, qP, va_K.moved (u := U) (U := U.calling g mk a) (Vm.Alike.refl U.vm) qK⟩, va_recv hK hPc (ci := 7) (q0 := 0) rfl rfl, fun U hU hW => ⟨rfl, by rw [hU]; exact hPc, va_K.moved hW.alike hK⟩⟩ rfl rfl hl.1 rfl (lv_room (Nat.le_of_ble_eq_true rfl)) dX11_by_31 ⟨Nat.le_of_ble_eq_true rfl, Nat.le_of_ble_eq_true rfl⟩)) (fun rz39 gz38 => ?_)
          clear hPc
          rw [hQ]
          exact W.iret (v := rz39) hx hb hr (fun t ht hW => ⟨⟨rz39, (), rfl, trivial, vz16, az17, ez18, vz19, nz20, az21, hez18, hnz20, by rw [ht]; exact hP⟩, hS.F ht⟩) hS.2.2 dX11_by_34
      · skip
        have zz40 : ¬ p1.toInt < (4 : Int) := fun h9 => cz12 (zi_lt.mpr h9)
        refine lv_bipush (v := (-2)) hx hb dX11_by_16 (by decide) ?_
        rw [hQ]
        exact W.iret (v := (-2 : Int32)) hx hb hr (fun t ht hW => ⟨⟨(-2 : Int32), (), rfl, trivial, vP, aP, eP, vZ, nZ, aZ, heP, hnZ, by rw [ht]; exact hP⟩, hS.F ht⟩) hS.2.2 dX11_by_18
def wk_c_X11_law : List Cond := .code yX11_law cX11_law 5 (some .int) :: ([.methodLink RX11 180 yX11_noValley, .instanceMethod yX11_noValley, .selects RX11 yX11_noValley yX11_noValley, .initialized RX11, .methodLink RX11 304 yX11_tryLaw, .instanceMethod yX11_tryLaw, .selects RX11 yX11_tryLaw yX11_tryLaw, .fieldLink RX11 49 "SagMemory" "attempt" "LSagMemory$Story;", .methodLink RX11 183 yX8_atEnd, .instanceMethod yX8_atEnd, .selects RX8 yX8_atEnd yX8_atEnd, .initialized RX8, .methodLink RX11 209 yX7_together, .instanceMethod yX7_together, .selects RX7 yX7_together yX7_together, .initialized RX7] ++ (wk_c_X11_noValley ++ (wk_c_X11_tryLaw ++ (wsX110 ++ (wk_c_X8_atEnd ++ (wk_c_X7_together ++ []))))))
theorem wkg_c_X11_law : wk_c_X11_law.all goodWord = true := by decide +kernel
set_option maxHeartbeats 4000000 in
set_option maxRecDepth 100000 in
theorem c_X11_law (l : Launch) (dC : Nat → ClassId) (dI : Nat → Nat → Nat) (k : Nat → ClassId) (sz : Nat) (qX : Nat → Nat) (tapeX : Nat) (actsX : Nat) (storyX : Nat) (orderSearchX : Nat) (routeSearchX : Nat) (setSearchX : Nat) (probeX : Nat) (slot0X : Nat) (slot1X : Nat) (slot2X : Nat) (slot3X : Nat) (image0X : Nat) (image1X : Nat) (image2X : Nat) (aX : Nat → Nat → Int32) (qV : Nat → Nat) (vV : Nat → Int32) (bV : Nat → Int32) (cV : Nat → Int32) (wV : Nat → Int32) (aV : Nat → Nat → Int32) (eV : Nat → Nat → Int32) (qN : Nat → Nat) (vN : Nat → Int32) (aN : Nat → Nat → Int32) (eN : Nat → Nat → Int32) (qP : Nat → Nat) (vP : Nat → Int32) (aP : Nat → Nat → Int32) (eP : Nat → Nat → Int32) (qZ : Nat → Nat) (sZ : Nat → Nat → Nat) (vZ : Nat → Nat → Int32) (nZ : Nat → Nat → Int32) (aZ : Nat → Nat → Nat → Int32) (hbV : Rg 0 3 bV) (hcV : Rg 0 7 cV) (hwV : Rg 0 5 wV) (heV : RgA 0 99 eV) (heN : RgA 0 99 eN) (heP : RgA 0 99 eP) (hnZ : ∀ t9, Rg 0 8 (nZ t9)) : Met l yX11_law wk_c_X11_law ({ frames := 5, cells := 0, slots := 0, locals := 173 }) (va_Pc [.ref (qX 0)] (fun U => U.heap.size = sz ∧ va_P (dC, dI) vwCl (List.flatten [(wPlan qP k vP aP eP), (wState (sZ 0) k (vZ 0) (nZ 0) (aZ 0)), (wState (sZ 1) k (vZ 1) (nZ 1) (aZ 1)), (wState (sZ 2) k (vZ 2) (nZ 2) (aZ 2)), (wState (sZ 3) k (vZ 3) (nZ 3) (aZ 3)), (wState (sZ 4) k (vZ 4) (nZ 4) (aZ 4)), (wState (sZ 5) k (vZ 5) (nZ 5) (aZ 5)), (wState (sZ 6) k (vZ 6) (nZ 6) (aZ 6)), (wState (sZ 7) k (vZ 7) (nZ 7) (aZ 7))] ++ List.flatten [(wSag qX k tapeX (qV 0) actsX (qN 0) (qP 0) storyX (qZ 0) orderSearchX routeSearchX setSearchX probeX slot0X slot1X slot2X slot3X image0X image1X image2X aX), (wValley qV k vV bV cV wV aV eV), (wPlan qN k vN aN eN), (wStoO qZ k (qV 0) (qP 0) (sZ 0 0) (sZ 1 0) (sZ 2 0) (sZ 3 0) (sZ 4 0) (sZ 5 0) (sZ 6 0) (sZ 7 0))]) U.heap ∧ va_K (dC, dI) vwCl (tK k) U ∧ va_D (fun _ => True) (List.flatten [(wPlan qP k vP aP eP), (wState (sZ 0) k (vZ 0) (nZ 0) (aZ 0)), (wState (sZ 1) k (vZ 1) (nZ 1) (aZ 1)), (wState (sZ 2) k (vZ 2) (nZ 2) (aZ 2)), (wState (sZ 3) k (vZ 3) (nZ 3) (aZ 3)), (wState (sZ 4) k (vZ 4) (nZ 4) (aZ 4)), (wState (sZ 5) k (vZ 5) (nZ 5) (aZ 5)), (wState (sZ 6) k (vZ 6) (nZ 6) (aZ 6)), (wState (sZ 7) k (vZ 7) (nZ 7) (aZ 7))] ++ List.flatten [(wSag qX k tapeX (qV 0) actsX (qN 0) (qP 0) storyX (qZ 0) orderSearchX routeSearchX setSearchX probeX slot0X slot1X slot2X slot3X image0X image1X image2X aX), (wValley qV k vV bV cV wV aV eV), (wPlan qN k vN aN eN), (wStoO qZ k (qV 0) (qP 0) (sZ 0 0) (sZ 1 0) (sZ 2 0) (sZ 3 0) (sZ 4 0) (sZ 5 0) (sZ 6 0) (sZ 7 0))]))) (va_Qi (fun (r : Int32) (_ : Unit) => True) (fun (_ : Unit) (t : State) => ∃ (vP' : Nat → Int32) (aP' : Nat → Nat → Int32) (eP' : Nat → Nat → Int32) (vZ' : Nat → Nat → Int32) (nZ' : Nat → Nat → Int32) (aZ' : Nat → Nat → Nat → Int32), RgA 0 99 eP' ∧ (∀ t9, Rg 0 8 (nZ' t9)) ∧ va_P (dC, dI) vwCl (List.flatten [(wPlan qP k vP' aP' eP'), (wState (sZ 0) k (vZ' 0) (nZ' 0) (aZ' 0)), (wState (sZ 1) k (vZ' 1) (nZ' 1) (aZ' 1)), (wState (sZ 2) k (vZ' 2) (nZ' 2) (aZ' 2)), (wState (sZ 3) k (vZ' 3) (nZ' 3) (aZ' 3)), (wState (sZ 4) k (vZ' 4) (nZ' 4) (aZ' 4)), (wState (sZ 5) k (vZ' 5) (nZ' 5) (aZ' 5)), (wState (sZ 6) k (vZ' 6) (nZ' 6) (aZ' 6)), (wState (sZ 7) k (vZ' 7) (nZ' 7) (aZ' 7))] ++ List.flatten [(wSag qX k tapeX (qV 0) actsX (qN 0) (qP 0) storyX (qZ 0) orderSearchX routeSearchX setSearchX probeX slot0X slot1X slot2X slot3X image0X image1X image2X aX), (wValley qV k vV bV cV wV aV eV), (wPlan qN k vN aN eN), (wStoO qZ k (qV 0) (qP 0) (sZ 0 0) (sZ 1 0) (sZ 2 0) (sZ 3 0) (sZ 4 0) (sZ 5 0) (sZ 6 0) (sZ 7 0))]) t.heap) (va_A (List.flatten [(wPlan qP k vP aP eP), (wState (sZ 0) k (vZ 0) (nZ 0) (aZ 0)), (wState (sZ 1) k (vZ 1) (nZ 1) (aZ 1)), (wState (sZ 2) k (vZ 2) (nZ 2) (aZ 2)), (wState (sZ 3) k (vZ 3) (nZ 3) (aZ 3)), (wState (sZ 4) k (vZ 4) (nZ 4) (aZ 4)), (wState (sZ 5) k (vZ 5) (nZ 5) (aZ 5)), (wState (sZ 6) k (vZ 6) (nZ 6) (aZ 6)), (wState (sZ 7) k (vZ 7) (nZ 7) (aZ 7))] ++ List.flatten [(wSag qX k tapeX (qV 0) actsX (qN 0) (qP 0) storyX (qZ 0) orderSearchX routeSearchX setSearchX probeX slot0X slot1X slot2X slot3X image0X image1X image2X aX), (wValley qV k vV bV cV wV aV eV), (wPlan qN k vN aN eN), (wStoO qZ k (qV 0) (qP 0) (sZ 0 0) (sZ 1 0) (sZ 2 0) (sZ 3 0) (sZ 4 0) (sZ 5 0) (sZ 6 0) (sZ 7 0))]) sz)) 0 0 (va_A (List.flatten [(wPlan qP k vP aP eP), (wState (sZ 0) k (vZ 0) (nZ 0) (aZ 0)), (wState (sZ 1) k (vZ 1) (nZ 1) (aZ 1)), (wState (sZ 2) k (vZ 2) (nZ 2) (aZ 2)), (wState (sZ 3) k (vZ 3) (nZ 3) (aZ 3)), (wState (sZ 4) k (vZ 4) (nZ 4) (aZ 4)), (wState (sZ 5) k (vZ 5) (nZ 5) (aZ 5)), (wState (sZ 6) k (vZ 6) (nZ 6) (aZ 6)), (wState (sZ 7) k (vZ 7) (nZ 7) (aZ 7))] ++ List.flatten [(wSag qX k tapeX (qV 0) actsX (qN 0) (qP 0) storyX (qZ 0) orderSearchX routeSearchX setSearchX probeX slot0X slot1X slot2X slot3X image0X image1X image2X aX), (wValley qV k vV bV cV wV aV eV), (wPlan qN k vN aN eN), (wStoO qZ k (qV 0) (qP 0) (sZ 0 0) (sZ 1 0) (sZ 2 0) (sZ 3 0) (sZ 4 0) (sZ 5 0) (sZ 6 0) (sZ 7 0))]) sz) := by
  refine Met.ofW (cc := cX11_law) (maxL := 5) (ret := (some .int)) (by decide) rfl ?_
  intro p e s m args below meth c s₁ B hml hv
  obtain ⟨rfl, hsz, hP, hK, hD0⟩ := hv
  have hx := B.exec
  have hb := B.bytes
  have hr := B.returns
  have hts := atoms_spec (ws := wk_c_X11_law) B.pre
  have hown : s.vm.findClass RX11 = some m.cls := findClass_of_methodNamed B.named
  have hlocks := B.notSynchronized
  subst hsz
  have hD := hD0.self (sz := s.heap.size)
  generalize hAe : va_A (List.flatten [(wPlan qP k vP aP eP), (wState (sZ 0) k (vZ 0) (nZ 0) (aZ 0)), (wState (sZ 1) k (vZ 1) (nZ 1) (aZ 1)), (wState (sZ 2) k (vZ 2) (nZ 2) (aZ 2)), (wState (sZ 3) k (vZ 3) (nZ 3) (aZ 3)), (wState (sZ 4) k (vZ 4) (nZ 4) (aZ 4)), (wState (sZ 5) k (vZ 5) (nZ 5) (aZ 5)), (wState (sZ 6) k (vZ 6) (nZ 6) (aZ 6)), (wState (sZ 7) k (vZ 7) (nZ 7) (aZ 7))] ++ List.flatten [(wSag qX k tapeX (qV 0) actsX (qN 0) (qP 0) storyX (qZ 0) orderSearchX routeSearchX setSearchX probeX slot0X slot1X slot2X slot3X image0X image1X image2X aX), (wValley qV k vV bV cV wV aV eV), (wPlan qN k vN aN eN), (wStoO qZ k (qV 0) (qP 0) (sZ 0 0) (sZ 1 0) (sZ 2 0) (sZ 3 0) (sZ 4 0) (sZ 5 0) (sZ 6 0) (sZ 7 0))]) s.heap.size = A at hD ⊢
  have hA : ∀ q : Nat, s.heap.size ≤ q → A q := fun q h => by rw [← hAe]; exact Or.inr h
  have hS : va_S A s.heap s.heap [] := va_S.rf
  have hP : va_P (dC, dI) vwCl (List.flatten [(wPlan qP k vP aP eP), (wState (sZ 0) k (vZ 0) (nZ 0) (aZ 0)), (wState (sZ 1) k (vZ 1) (nZ 1) (aZ 1)), (wState (sZ 2) k (vZ 2) (nZ 2) (aZ 2)), (wState (sZ 3) k (vZ 3) (nZ 3) (aZ 3)), (wState (sZ 4) k (vZ 4) (nZ 4) (aZ 4)), (wState (sZ 5) k (vZ 5) (nZ 5) (aZ 5)), (wState (sZ 6) k (vZ 6) (nZ 6) (aZ 6)), (wState (sZ 7) k (vZ 7) (nZ 7) (aZ 7))] ++ List.flatten [(wSag qX k tapeX (qV 0) actsX (qN 0) (qP 0) storyX (qZ 0) orderSearchX routeSearchX setSearchX probeX slot0X slot1X slot2X slot3X image0X image1X image2X aX), (wValley qV k vV bV cV wV aV eV), (wPlan qN k vN aN eN), (wStoO qZ k (qV 0) (qP 0) (sZ 0 0) (sZ 1 0) (sZ 2 0) (sZ 3 0) (sZ 4 0) (sZ 5 0) (sZ 6 0) (sZ 7 0))]) s.heap := hP
  have hl := lv_entry ([.ref (qX 0)]) (n := 5) (Nat.le_of_ble_eq_true rfl)
  rw [lg_entry_eq]
  generalize (lg_sl ([.ref (qX 0)]) ++ List.replicate (5 - (lg_sl ([.ref (qX 0)])).length) Slot.unset).toArray = ls at hl ⊢
  have hl : lv_has ls 5 [(0, .ref (qX 0))] := hl
  refine w_gen (fun Q hQ => ?_)
  refine lv_aload_n hx hb dX11_law_0 rfl (lv_at hl 0 rfl) ?_
  have hPc := hP.sub (ws' := (List.flatten [(wSag qX k tapeX (qV 0) actsX (qN 0) (qP 0) storyX (qZ 0) orderSearchX routeSearchX setSearchX probeX slot0X slot1X slot2X slot3X image0X image1X image2X aX), (wValley qV k vV bV cV wV aV eV)])) [91, 92, 93, 94, 95, 96, 97, 98, 99, 100, 101, 102, 103] rfl
  refine vp_callSi (va_Run.run (va_runV (As := []) (rest := []) ⟨hx, hb, hml, hown, hts⟩ (c_X11_noValley l dC dI k qX tapeX actsX (qN 0) (qP 0) storyX (qZ 0) orderSearchX routeSearchX setSearchX probeX slot0X slot1X slot2X slot3X image0X image1X image2X aX qV vV bV cV wV aV eV hbV hcV hwV heV) (cwV 0 hts (gk_V (wl_mem 0 rfl) (wl_mem 1 rfl) (wl_mem 2 rfl) (wl_mem 3 rfl) (fun w h => List.mem_cons_of_mem _ (List.mem_append_right _ (List.mem_append_left _ h))) wkg_c_X11_noValley) rfl rfl rfl (by decide +kernel) ⟨Nat.le_of_ble_eq_true rfl, Nat.le_of_ble_eq_true rfl⟩) ⟨fun a U g mk q => by obtain ⟨q0, qP, qK⟩ := q; exact ⟨q0, qP, va_K.moved (u := U) (U := U.calling g mk a) (Vm.Alike.refl U.vm) qK⟩, va_recv hK hPc (ci := 11) (q0 := 0) rfl rfl, fun U hU hW => ⟨rfl, by rw [hU]; exact hPc, va_K.moved hW.alike hK⟩⟩ rfl rfl hl.1 rfl (lv_room (Nat.le_of_ble_eq_true rfl)) dX11_law_1 ⟨Nat.le_of_ble_eq_true rfl, Nat.le_of_ble_eq_true rfl⟩)) (fun rz2 gz1 => ?_)
  clear hPc
  have pz3 := gz1
  have pz3 : rz2.toInt = 0 ∨ rz2.toInt = 1 := pz3
  refine lv_if_eq (tgt := 10) hx hb dX11_law_4 (by decide) (fun cz4 => ?_) (fun cz4 => ?_)
  · skip
    have zz5 : rz2.toInt = (0 : Int) := zi_eq.mp cz4
    refine lv_iconst (v := 0) hx hb dX11_law_10 (by decide) ?_
    refine lv_istore_n (lv' := [(1, .int 0), (0, .ref (qX 0))]) hx hb dX11_law_11 rfl hl (by decide) rfl (fun ls hl => ?_)
    refine lv_iconst (v := 0) hx hb dX11_law_12 (by decide) ?_
    refine lv_istore_n (lv' := [(2, .int 0), (1, .int 0), (0, .ref (qX 0))]) hx hb dX11_law_13 rfl hl (by decide) rfl (fun ls hl => ?_)
    refine lv_iconst (v := 0) hx hb dX11_law_14 (by decide) ?_
    refine lv_istore_n (lv' := [(3, .int 0), (2, .int 0), (1, .int 0), (0, .ref (qX 0))]) hx hb dX11_law_15 rfl hl (by decide) rfl (fun ls hl => ?_)
    have lp16_kz327 : ∀ (n9_16 : Nat) (H : Heap) (locs : List Loc) (ls : Array Slot) (az318 : Nat → Nat → Int32) (ez319 : Nat → Nat → Int32) (vz320 : Nat → Int32) (az321 : Nat → Nat → Nat → Int32) (nz322 : Nat → Nat → Int32) (vz323 : Nat → Nat → Int32) (xz324 : Int32) (xz325 : Int32) (xz326 : Int32), (2147483647 - xz326.toInt).toNat < n9_16 → RgA 0 99 ez319 → (∀ t9, Rg 0 8 (nz322 t9)) → 0 ≤ xz326.toInt → va_P (dC, dI) vwCl (List.flatten [(wPlan qP k vz320 az318 ez319), (wState (sZ 0) k (vz323 0) (nz322 0) (az321 0)), (wState (sZ 1) k (vz323 1) (nz322 1) (az321 1)), (wState (sZ 2) k (vz323 2) (nz322 2) (az321 2)), (wState (sZ 3) k (vz323 3) (nz322 3) (az321 3)), (wState (sZ 4) k (vz323 4) (nz322 4) (az321 4)), (wState (sZ 5) k (vz323 5) (nz322 5) (az321 5)), (wState (sZ 6) k (vz323 6) (nz322 6) (az321 6)), (wState (sZ 7) k (vz323 7) (nz322 7) (az321 7))] ++ List.flatten [(wSag qX k tapeX (qV 0) actsX (qN 0) (qP 0) storyX (qZ 0) orderSearchX routeSearchX setSearchX probeX slot0X slot1X slot2X slot3X image0X image1X image2X aX), (wValley qV k vV bV cV wV aV eV), (wPlan qN k vN aN eN), (wStoO qZ k (qV 0) (qP 0) (sZ 0 0) (sZ 1 0) (sZ 2 0) (sZ 3 0) (sZ 4 0) (sZ 5 0) (sZ 6 0) (sZ 7 0))]) H → va_D A (List.flatten [(wPlan qP k vz320 az318 ez319), (wState (sZ 0) k (vz323 0) (nz322 0) (az321 0)), (wState (sZ 1) k (vz323 1) (nz322 1) (az321 1)), (wState (sZ 2) k (vz323 2) (nz322 2) (az321 2)), (wState (sZ 3) k (vz323 3) (nz322 3) (az321 3)), (wState (sZ 4) k (vz323 4) (nz322 4) (az321 4)), (wState (sZ 5) k (vz323 5) (nz322 5) (az321 5)), (wState (sZ 6) k (vz323 6) (nz322 6) (az321 6)), (wState (sZ 7) k (vz323 7) (nz322 7) (az321 7))] ++ List.flatten [(wSag qX k tapeX (qV 0) actsX (qN 0) (qP 0) storyX (qZ 0) orderSearchX routeSearchX setSearchX probeX slot0X slot1X slot2X slot3X image0X image1X image2X aX), (wValley qV k vV bV cV wV aV eV), (wPlan qN k vN aN eN), (wStoO qZ k (qV 0) (qP 0) (sZ 0 0) (sZ 1 0) (sZ 2 0) (sZ 3 0) (sZ 4 0) (sZ 5 0) (sZ 6 0) (sZ 7 0))]) → va_S A s.heap H locs → lv_has ls 5 [(0, .ref (qX 0)), (1, .int xz324), (2, .int xz325), (3, .int xz326)] → W p l e (headSpec wk_c_X11_law ({ frames := 5, cells := 0, slots := 0, locals := 173 })).room s m ([.ref (qX 0)] : List Value).toArray below meth c H locs 0 0 Q (F0 m 16 ls []) := by
      intro n9_16
      induction n9_16 with
      | zero => intro H locs ls az318 ez319 vz320 az321 nz322 vz323 xz324 xz325 xz326 hm; exact absurd hm (Nat.not_lt_zero _)
      | succ n9_16 ih16 =>
        intro H locs ls az318 ez319 vz320 az321 nz322 vz323 xz324 xz325 xz326 hm16 hez319 hnz322 jz328 hP hD hS hl
        refine lv_iload_n hx hb dX11_law_16 rfl (lv_at hl 3 rfl) ?_
        refine lv_iconst (v := 4) hx hb dX11_law_17 (by decide) ?_
        refine lv_icmp_ge (tgt := 59) hx hb dX11_law_18 (by decide) (fun cz329 => ?_) (fun cz329 => ?_)
        · skip
          have bz330 := fb_rng xz326
          have zz331 : (4 : Int) ≤ xz326.toInt := zi_le.mp cz329
          refine lv_iload_n hx hb dX11_law_59 rfl (lv_at hl 1 rfl) ?_
          rw [hQ]
          exact W.iret (v := xz324) hx hb hr (fun t ht hW => ⟨⟨xz324, (), rfl, trivial, vz320, az318, ez319, vz323, nz322, az321, hez319, hnz322, by rw [ht]; exact hP⟩, hS.F ht⟩) hS.2.2 dX11_law_60
        · skip
          have bz332 := fb_rng xz326
          have zz333 : ¬ (4 : Int) ≤ xz326.toInt := fun h9 => cz329 (zi_le.mpr h9)
          refine lv_aload_n hx hb dX11_law_21 rfl (lv_at hl 0 rfl) ?_
          refine lv_iload_n hx hb dX11_law_22 rfl (lv_at hl 3 rfl) ?_
          have hPc := hP
          have hDc : va_D A (List.flatten [(wPlan qP k vz320 az318 ez319), (wState (sZ 0) k (vz323 0) (nz322 0) (az321 0)), (wState (sZ 1) k (vz323 1) (nz322 1) (az321 1)), (wState (sZ 2) k (vz323 2) (nz322 2) (az321 2)), (wState (sZ 3) k (vz323 3) (nz322 3) (az321 3)), (wState (sZ 4) k (vz323 4) (nz322 4) (az321 4)), (wState (sZ 5) k (vz323 5) (nz322 5) (az321 5)), (wState (sZ 6) k (vz323 6) (nz322 6) (az321 6)), (wState (sZ 7) k (vz323 7) (nz322 7) (az321 7))] ++ List.flatten [(wSag qX k tapeX (qV 0) actsX (qN 0) (qP 0) storyX (qZ 0) orderSearchX routeSearchX setSearchX probeX slot0X slot1X slot2X slot3X image0X image1X image2X aX), (wValley qV k vV bV cV wV aV eV), (wPlan qN k vN aN eN), (wStoO qZ k (qV 0) (qP 0) (sZ 0 0) (sZ 1 0) (sZ 2 0) (sZ 3 0) (sZ 4 0) (sZ 5 0) (sZ 6 0) (sZ 7 0))]) := wc_subD hD [0, 1, 2, 3, 4, 5, 6, 7, 8, 9, 10, 11, 12] rfl rfl
          have hFc := wc_free hDc hS hA
          refine va_callv (va_runV (As := [.int xz326]) (rest := []) ⟨hx, hb, hml, hown, hts⟩ (c_X11_tryLaw l dC dI k H.size qX tapeX actsX storyX orderSearchX routeSearchX setSearchX probeX slot0X slot1X slot2X slot3X image0X image1X image2X aX qV vV bV cV wV aV eV qN vN aN eN qP vz320 az318 ez319 qZ sZ vz323 nz322 az321 xz326 hbV hcV hwV heV heN hez319 hnz322) (cwV 1 hts (gk_V (wl_mem 4 rfl) (wl_mem 5 rfl) (wl_mem 6 rfl) (wl_mem 3 rfl) (fun w h => List.mem_cons_of_mem _ (List.mem_append_right _ (List.mem_append_right _ (List.mem_append_left _ h)))) wkg_c_X11_tryLaw) rfl rfl rfl (by decide +kernel) ⟨Nat.le_of_ble_eq_true rfl, Nat.le_of_ble_eq_true rfl⟩) ⟨fun a U g mk q => by obtain ⟨q0, q1, qP, qK, qD⟩ := q; exact ⟨q0, q1, qP, va_K.moved (u := U) (U := U.calling g mk a) (Vm.Alike.refl U.vm) qK, qD⟩, va_recv hK hPc (ci := 11) (q0 := 91) rfl rfl, fun U hU hW => ⟨rfl, by rw [hU], by rw [hU]; exact hPc, va_K.moved hW.alike hK, hDc.weaken (fun _ _ _ _ => trivial)⟩⟩ rfl rfl hl.1 rfl (lv_room (Nat.le_of_ble_eq_true rfl)) dX11_law_23 ⟨Nat.le_of_ble_eq_true rfl, Nat.le_of_ble_eq_true rfl⟩) hS (fun q _ h => hFc q h) hFc (fun u t H1 locs ht hvm gz334 hB hz1 hk1 hS => ?_)
          obtain ⟨vz336, az337, ez338, vz339, nz340, az341, hez338, hnz340, hP1⟩ := hB
          rw [ht] at hP1
          obtain ⟨hP, hD⟩ := w_callR hP hD hk1 hP1 [0, 1, 2, 3, 4, 5, 6, 7, 8] rfl rfl (wk_memC [9, 10, 11, 12] rfl) rfl [some 0, some 1, some 2, some 3, some 4, some 5, some 6, some 7, some 8] rfl rfl
          clear hPc hDc hFc hk1 hP1
          generalize H1 = H at hP hS ⊢
          have hP : va_P (dC, dI) vwCl (List.flatten [(wPlan qP k vz336 az337 ez338), (wState (sZ 0) k (vz339 0) (nz340 0) (az341 0)), (wState (sZ 1) k (vz339 1) (nz340 1) (az341 1)), (wState (sZ 2) k (vz339 2) (nz340 2) (az341 2)), (wState (sZ 3) k (vz339 3) (nz340 3) (az341 3)), (wState (sZ 4) k (vz339 4) (nz340 4) (az341 4)), (wState (sZ 5) k (vz339 5) (nz340 5) (az341 5)), (wState (sZ 6) k (vz339 6) (nz340 6) (az341 6)), (wState (sZ 7) k (vz339 7) (nz340 7) (az341 7))] ++ List.flatten [(wSag qX k tapeX (qV 0) actsX (qN 0) (qP 0) storyX (qZ 0) orderSearchX routeSearchX setSearchX probeX slot0X slot1X slot2X slot3X image0X image1X image2X aX), (wValley qV k vV bV cV wV aV eV), (wPlan qN k vN aN eN), (wStoO qZ k (qV 0) (qP 0) (sZ 0 0) (sZ 1 0) (sZ 2 0) (sZ 3 0) (sZ 4 0) (sZ 5 0) (sZ 6 0) (sZ 7 0))]) H := hP
          have hD : va_D A (List.flatten [(wPlan qP k vz336 az337 ez338), (wState (sZ 0) k (vz339 0) (nz340 0) (az341 0)), (wState (sZ 1) k (vz339 1) (nz340 1) (az341 1)), (wState (sZ 2) k (vz339 2) (nz340 2) (az341 2)), (wState (sZ 3) k (vz339 3) (nz340 3) (az341 3)), (wState (sZ 4) k (vz339 4) (nz340 4) (az341 4)), (wState (sZ 5) k (vz339 5) (nz340 5) (az341 5)), (wState (sZ 6) k (vz339 6) (nz340 6) (az341 6)), (wState (sZ 7) k (vz339 7) (nz340 7) (az341 7))] ++ List.flatten [(wSag qX k tapeX (qV 0) actsX (qN 0) (qP 0) storyX (qZ 0) orderSearchX routeSearchX setSearchX probeX slot0X slot1X slot2X slot3X image0X image1X image2X aX), (wValley qV k vV bV cV wV aV eV), (wPlan qN k vN aN eN), (wStoO qZ k (qV 0) (qP 0) (sZ 0 0) (sZ 1 0) (sZ 2 0) (sZ 3 0) (sZ 4 0) (sZ 5 0) (sZ 6 0) (sZ 7 0))]) := hD
          refine W.widen (k := 0) (n := 0) (Nat.le_refl 0) (Nat.le_refl 0) ?_
          refine lv_aload_n hx hb dX11_law_26 rfl (lv_at hl 0 rfl) ?_
          refine va_get (D := (dC, dI)) (ci := 11) (v := .ref (qZ 0)) (C := RX11) (T := TX11) (N := 15) hx hb hts (fun w h => List.mem_cons_of_mem _ (List.mem_append_right _ (List.mem_append_right _ (List.mem_append_right _ (List.mem_append_left _ h))))) hown hK hP 91 rfl rfl 6 (by decide) (hts (.fieldLink RX11 49 "SagMemory" "attempt" "LSagMemory$Story;") (wl_mem 7 rfl)) (fun _ h9 => h9) rfl dX11_law_27 ?_
          have hPc : va_P (dC, dI) vwCl (List.flatten [(wStoO qZ k (qV 0) (qP 0) (sZ 0 0) (sZ 1 0) (sZ 2 0) (sZ 3 0) (sZ 4 0) (sZ 5 0) (sZ 6 0) (sZ 7 0)), (wState (sZ 0) k (vz339 0) (nz340 0) (az341 0)), (wState (sZ 1) k (vz339 1) (nz340 1) (az341 1)), (wState (sZ 2) k (vz339 2) (nz340 2) (az341 2)), (wState (sZ 3) k (vz339 3) (nz340 3) (az341 3)), (wState (sZ 4) k (vz339 4) (nz340 4) (az341 4)), (wState (sZ 5) k (vz339 5) (nz340 5) (az341 5)), (wState (sZ 6) k (vz339 6) (nz340 6) (az341 6)), (wState (sZ 7) k (vz339 7) (nz340 7) (az341 7)), (wValley qV k vV bV cV wV aV eV)]) H := wc_subP1 hP [12, 1, 2, 3, 4, 5, 6, 7, 8, 10] rfl
          refine va_csr (va_Run.run (va_runV (As := []) (rest := []) ⟨hx, hb, hml, hown, hts⟩ (c_X8_atEnd l dC dI k qZ sZ (qP 0) vz339 nz340 az341 qV vV bV cV wV aV eV hnz340 hbV hcV hwV heV) (cwV 0 hts (gk_V (wl_mem 8 rfl) (wl_mem 9 rfl) (wl_mem 10 rfl) (wl_mem 11 rfl) (fun w h => List.mem_cons_of_mem _ (List.mem_append_right _ (List.mem_append_right _ (List.mem_append_right _ (List.mem_append_right _ (List.mem_append_left _ h)))))) wkg_c_X8_atEnd) rfl rfl rfl (by decide +kernel) ⟨Nat.le_of_ble_eq_true rfl, Nat.le_of_ble_eq_true rfl⟩) ⟨fun a U g mk q => by obtain ⟨q0, qP, qK⟩ := q; exact ⟨q0, qP, va_K.moved (u := U) (U := U.calling g mk a) (Vm.Alike.refl U.vm) qK⟩, va_recv hK hPc (ci := 8) (q0 := 0) rfl rfl, fun U hU hW => ⟨rfl, by rw [hU]; exact hPc, va_K.moved hW.alike hK⟩⟩ rfl rfl hl.1 rfl (lv_room (Nat.le_of_ble_eq_true rfl)) dX11_law_30 ⟨Nat.le_of_ble_eq_true rfl, Nat.le_of_ble_eq_true rfl⟩)) (fun rz343 gz342 => ?_)
          clear hPc
          rcases gz342 with rfl | rfl | rfl | rfl | rfl | rfl | rfl | rfl
          · skip
            refine W.eq (g2 := F0 m 33 ls [.ref (sZ 0 0)]) rfl ?_
            have hPc := hP.sub (ws' := (List.flatten [(wState (sZ 0) k (vz339 0) (nz340 0) (az341 0))])) [3, 4, 5, 6, 7, 8, 9, 10, 11, 12, 13] rfl
            refine vp_callSi (va_Run.run (va_runV (As := []) (rest := []) ⟨hx, hb, hml, hown, hts⟩ (c_X7_together l dC dI k (sZ 0) (vz339 0) (nz340 0) (az341 0) (hnz340 0)) (cwV 0 hts (gk_V (wl_mem 12 rfl) (wl_mem 13 rfl) (wl_mem 14 rfl) (wl_mem 15 rfl) (fun w h => List.mem_cons_of_mem _ (List.mem_append_right _ (List.mem_append_right _ (List.mem_append_right _ (List.mem_append_right _ (List.mem_append_right _ (List.mem_append_left _ h))))))) wkg_c_X7_together) rfl rfl rfl (by decide +kernel) ⟨Nat.le_of_ble_eq_true rfl, Nat.le_of_ble_eq_true rfl⟩) ⟨fun a U g mk q => by obtain ⟨q0, qP, qK⟩ := q; exact ⟨q0, qP, va_K.moved (u := U) (U := U.calling g mk a) (Vm.Alike.refl U.vm) qK⟩, va_recv hK hPc (ci := 7) (q0 := 0) rfl rfl, fun U hU hW => ⟨rfl, by rw [hU]; exact hPc, va_K.moved hW.alike hK⟩⟩ rfl rfl hl.1 rfl (lv_room (Nat.le_of_ble_eq_true rfl)) dX11_law_33 ⟨Nat.le_of_ble_eq_true rfl, Nat.le_of_ble_eq_true rfl⟩)) (fun rz345 gz344 => ?_)
            clear hPc
            refine lv_istore (lv' := [(4, .int rz345), (0, .ref (qX 0)), (1, .int xz324), (2, .int xz325), (3, .int xz326)]) hx hb dX11_law_36 hl (by decide) rfl (fun ls hl => ?_)
            refine lv_iload_n hx hb dX11_law_38 rfl (lv_at hl 4 rfl) ?_
            have ct48_kz357 : ∀ (H : Heap) (locs : List Loc) (ls : Array Slot), va_P (dC, dI) vwCl (List.flatten [(wPlan qP k vz336 az337 ez338), (wState (sZ 0) k (vz339 0) (nz340 0) (az341 0)), (wState (sZ 1) k (vz339 1) (nz340 1) (az341 1)), (wState (sZ 2) k (vz339 2) (nz340 2) (az341 2)), (wState (sZ 3) k (vz339 3) (nz340 3) (az341 3)), (wState (sZ 4) k (vz339 4) (nz340 4) (az341 4)), (wState (sZ 5) k (vz339 5) (nz340 5) (az341 5)), (wState (sZ 6) k (vz339 6) (nz340 6) (az341 6)), (wState (sZ 7) k (vz339 7) (nz340 7) (az341 7))] ++ List.flatten [(wSag qX k tapeX (qV 0) actsX (qN 0) (qP 0) storyX (qZ 0) orderSearchX routeSearchX setSearchX probeX slot0X slot1X slot2X slot3X image0X image1X image2X aX), (wValley qV k vV bV cV wV aV eV), (wPlan qN k vN aN eN), (wStoO qZ k (qV 0) (qP 0) (sZ 0 0) (sZ 1 0) (sZ 2 0) (sZ 3 0) (sZ 4 0) (sZ 5 0) (sZ 6 0) (sZ 7 0))]) H → va_D A (List.flatten [(wPlan qP k vz336 az337 ez338), (wState (sZ 0) k (vz339 0) (nz340 0) (az341 0)), (wState (sZ 1) k (vz339 1) (nz340 1) (az341 1)), (wState (sZ 2) k (vz339 2) (nz340 2) (az341 2)), (wState (sZ 3) k (vz339 3) (nz340 3) (az341 3)), (wState (sZ 4) k (vz339 4) (nz340 4) (az341 4)), (wState (sZ 5) k (vz339 5) (nz340 5) (az341 5)), (wState (sZ 6) k (vz339 6) (nz340 6) (az341 6)), (wState (sZ 7) k (vz339 7) (nz340 7) (az341 7))] ++ List.flatten [(wSag qX k tapeX (qV 0) actsX (qN 0) (qP 0) storyX (qZ 0) orderSearchX routeSearchX setSearchX probeX slot0X slot1X slot2X slot3X image0X image1X image2X aX), (wValley qV k vV bV cV wV aV eV), (wPlan qN k vN aN eN), (wStoO qZ k (qV 0) (qP 0) (sZ 0 0) (sZ 1 0) (sZ 2 0) (sZ 3 0) (sZ 4 0) (sZ 5 0) (sZ 6 0) (sZ 7 0))]) → va_S A s.heap H locs → lv_has ls 5 [(0, .ref (qX 0)), (3, .int xz326), (4, .int rz345)] → W p l e (headSpec wk_c_X11_law ({ frames := 5, cells := 0, slots := 0, locals := 173 })).room s m ([.ref (qX 0)] : List Value).toArray below meth c H locs 0 0 Q (F0 m 48 ls []) := by
              intro H locs ls  hP hD hS hl
              refine lv_iload hx hb dX11_law_48 (lv_at hl 2 rfl) ?_
              refine lv_istore_n (lv' := [(2, .int rz345), (0, .ref (qX 0)), (3, .int xz326), (4, .int rz345)]) hx hb dX11_law_50 rfl hl (by decide) rfl (fun ls hl => ?_)
              refine lv_iload_n hx hb dX11_law_51 rfl (lv_at hl 2 rfl) ?_
              refine lv_istore_n (lv' := [(1, .int xz326), (2, .int rz345), (0, .ref (qX 0)), (3, .int xz326), (4, .int rz345)]) hx hb dX11_law_52 rfl hl (by decide) rfl (fun ls hl => ?_)
              obtain ⟨xz358, exz358⟩ : ∃ y : Int32, y = xz326 + Int32.ofInt (1) := ⟨_, rfl⟩
              have fxz358 : xz358.toInt = xz326.toInt + (1) := by rw [exz358]; exact fb_addI (y := Int32.ofInt (1)) (by show -2147483648 ≤ xz326.toInt + (1); omega) (by show xz326.toInt + (1) < 2147483648; omega)
              refine lv_iinc (v := xz358) (lv' := [(3, .int xz358), (1, .int xz326), (2, .int rz345), (0, .ref (qX 0)), (4, .int rz345)]) hx hb dX11_law_53 hl (k := 3) rfl exz358.symm (by decide) rfl (fun ls hl => ?_)
              refine lv_goto (tgt := 16) hx hb dX11_law_56 (by decide) ?_
              exact ih16 H locs ls az337 ez338 vz336 az341 nz340 vz339 xz326 rz345 xz358 (by show (2147483647 - xz358.toInt).toNat < n9_16; omega) hez338 hnz340 (by show 0 ≤ xz358.toInt; omega) hP hD hS (lv_sub hl [3, 1, 2, 0] rfl)
            refine lv_if_eq (tgt := 48) hx hb dX11_law_39 (by decide) (fun cz369 => ?_) (fun cz369 => ?_)
            · skip
              have zz370 : xz326.toInt = (0 : Int) := zi_eq.mp cz369
              exact ct48_kz357 H locs ls   hP hD hS (lv_sub hl [1, 4, 0] rfl)
            · skip
              have zz371 : ¬ xz326.toInt = (0 : Int) := fun h9 => cz369 (zi_eq.mpr h9)
              refine lv_iload hx hb dX11_law_42 (lv_at hl 0 rfl) ?_
              refine lv_iload_n hx hb dX11_law_44 rfl (lv_at hl 3 rfl) ?_
              refine lv_icmp_ge (tgt := 53) hx hb dX11_law_45 (by decide) (fun cz372 => ?_) (fun cz372 => ?_)
              · skip
                have bz373 := fb_rng xz325
                have bz374 := fb_rng rz345
                have zz375 : xz325.toInt ≤ rz345.toInt := zi_le.mp cz372
                obtain ⟨xz376, exz376⟩ : ∃ y : Int32, y = xz326 + Int32.ofInt (1) := ⟨_, rfl⟩
                have fxz376 : xz376.toInt = xz326.toInt + (1) := by rw [exz376]; exact fb_addI (y := Int32.ofInt (1)) (by show -2147483648 ≤ xz326.toInt + (1); omega) (by show xz326.toInt + (1) < 2147483648; omega)
                refine lv_iinc (v := xz376) (lv' := [(3, .int xz376), (4, .int rz345), (0, .ref (qX 0)), (1, .int xz324), (2, .int xz325)]) hx hb dX11_law_53 hl (k := 4) rfl exz376.symm (by decide) rfl (fun ls hl => ?_)
                refine lv_goto (tgt := 16) hx hb dX11_law_56 (by decide) ?_
                exact ih16 H locs ls az337 ez338 vz336 az341 nz340 vz339 xz324 xz325 xz376 (by show (2147483647 - xz376.toInt).toNat < n9_16; omega) hez338 hnz340 (by show 0 ≤ xz376.toInt; omega) hP hD hS (lv_sub hl [2, 3, 4, 0] rfl)
              · skip
                have bz377 := fb_rng xz325
                have bz378 := fb_rng rz345
                have zz379 : ¬ xz325.toInt ≤ rz345.toInt := fun h9 => cz372 (zi_le.mpr h9)
                exact ct48_kz357 H locs ls   hP hD hS (lv_sub hl [1, 4, 0] rfl)
          · skip
            refine W.eq (g2 := F0 m 33 ls [.ref (sZ 1 0)]) rfl ?_
            have hPc := hP.sub (ws' := (List.flatten [(wState (sZ 1) k (vz339 1) (nz340 1) (az341 1))])) [14, 15, 16, 17, 18, 19, 20, 21, 22, 23, 24] rfl
            refine vp_callSi (va_Run.run (va_runV (As := []) (rest := []) ⟨hx, hb, hml, hown, hts⟩ (c_X7_together l dC dI k (sZ 1) (vz339 1) (nz340 1) (az341 1) (hnz340 1)) (cwV 0 hts (gk_V (wl_mem 12 rfl) (wl_mem 13 rfl) (wl_mem 14 rfl) (wl_mem 15 rfl) (fun w h => List.mem_cons_of_mem _ (List.mem_append_right _ (List.mem_append_right _ (List.mem_append_right _ (List.mem_append_right _ (List.mem_append_right _ (List.mem_append_left _ h))))))) wkg_c_X7_together) rfl rfl rfl (by decide +kernel) ⟨Nat.le_of_ble_eq_true rfl, Nat.le_of_ble_eq_true rfl⟩) ⟨fun a U g mk q => by obtain ⟨q0, qP, qK⟩ := q; exact ⟨q0, qP, va_K.moved (u := U) (U := U.calling g mk a) (Vm.Alike.refl U.vm) qK⟩, va_recv hK hPc (ci := 7) (q0 := 0) rfl rfl, fun U hU hW => ⟨rfl, by rw [hU]; exact hPc, va_K.moved hW.alike hK⟩⟩ rfl rfl hl.1 rfl (lv_room (Nat.le_of_ble_eq_true rfl)) dX11_law_33 ⟨Nat.le_of_ble_eq_true rfl, Nat.le_of_ble_eq_true rfl⟩)) (fun rz381 gz380 => ?_)
            clear hPc
            refine lv_istore (lv' := [(4, .int rz381), (0, .ref (qX 0)), (1, .int xz324), (2, .int xz325), (3, .int xz326)]) hx hb dX11_law_36 hl (by decide) rfl (fun ls hl => ?_)
            refine lv_iload_n hx hb dX11_law_38 rfl (lv_at hl 4 rfl) ?_
            have ct48_kz393 : ∀ (H : Heap) (locs : List Loc) (ls : Array Slot), va_P (dC, dI) vwCl (List.flatten [(wPlan qP k vz336 az337 ez338), (wState (sZ 0) k (vz339 0) (nz340 0) (az341 0)), (wState (sZ 1) k (vz339 1) (nz340 1) (az341 1)), (wState (sZ 2) k (vz339 2) (nz340 2) (az341 2)), (wState (sZ 3) k (vz339 3) (nz340 3) (az341 3)), (wState (sZ 4) k (vz339 4) (nz340 4) (az341 4)), (wState (sZ 5) k (vz339 5) (nz340 5) (az341 5)), (wState (sZ 6) k (vz339 6) (nz340 6) (az341 6)), (wState (sZ 7) k (vz339 7) (nz340 7) (az341 7))] ++ List.flatten [(wSag qX k tapeX (qV 0) actsX (qN 0) (qP 0) storyX (qZ 0) orderSearchX routeSearchX setSearchX probeX slot0X slot1X slot2X slot3X image0X image1X image2X aX), (wValley qV k vV bV cV wV aV eV), (wPlan qN k vN aN eN), (wStoO qZ k (qV 0) (qP 0) (sZ 0 0) (sZ 1 0) (sZ 2 0) (sZ 3 0) (sZ 4 0) (sZ 5 0) (sZ 6 0) (sZ 7 0))]) H → va_D A (List.flatten [(wPlan qP k vz336 az337 ez338), (wState (sZ 0) k (vz339 0) (nz340 0) (az341 0)), (wState (sZ 1) k (vz339 1) (nz340 1) (az341 1)), (wState (sZ 2) k (vz339 2) (nz340 2) (az341 2)), (wState (sZ 3) k (vz339 3) (nz340 3) (az341 3)), (wState (sZ 4) k (vz339 4) (nz340 4) (az341 4)), (wState (sZ 5) k (vz339 5) (nz340 5) (az341 5)), (wState (sZ 6) k (vz339 6) (nz340 6) (az341 6)), (wState (sZ 7) k (vz339 7) (nz340 7) (az341 7))] ++ List.flatten [(wSag qX k tapeX (qV 0) actsX (qN 0) (qP 0) storyX (qZ 0) orderSearchX routeSearchX setSearchX probeX slot0X slot1X slot2X slot3X image0X image1X image2X aX), (wValley qV k vV bV cV wV aV eV), (wPlan qN k vN aN eN), (wStoO qZ k (qV 0) (qP 0) (sZ 0 0) (sZ 1 0) (sZ 2 0) (sZ 3 0) (sZ 4 0) (sZ 5 0) (sZ 6 0) (sZ 7 0))]) → va_S A s.heap H locs → lv_has ls 5 [(0, .ref (qX 0)), (3, .int xz326), (4, .int rz381)] → W p l e (headSpec wk_c_X11_law ({ frames := 5, cells := 0, slots := 0, locals := 173 })).room s m ([.ref (qX 0)] : List Value).toArray below meth c H locs 0 0 Q (F0 m 48 ls []) := by
              intro H locs ls  hP hD hS hl
              refine lv_iload hx hb dX11_law_48 (lv_at hl 2 rfl) ?_
              refine lv_istore_n (lv' := [(2, .int rz381), (0, .ref (qX 0)), (3, .int xz326), (4, .int rz381)]) hx hb dX11_law_50 rfl hl (by decide) rfl (fun ls hl => ?_)
              refine lv_iload_n hx hb dX11_law_51 rfl (lv_at hl 2 rfl) ?_
              refine lv_istore_n (lv' := [(1, .int xz326), (2, .int rz381), (0, .ref (qX 0)), (3, .int xz326), (4, .int rz381)]) hx hb dX11_law_52 rfl hl (by decide) rfl (fun ls hl => ?_)
              obtain ⟨xz394, exz394⟩ : ∃ y : Int32, y = xz326 + Int32.ofInt (1) := ⟨_, rfl⟩
              have fxz394 : xz394.toInt = xz326.toInt + (1) := by rw [exz394]; exact fb_addI (y := Int32.ofInt (1)) (by show -2147483648 ≤ xz326.toInt + (1); omega) (by show xz326.toInt + (1) < 2147483648; omega)
              refine lv_iinc (v := xz394) (lv' := [(3, .int xz394), (1, .int xz326), (2, .int rz381), (0, .ref (qX 0)), (4, .int rz381)]) hx hb dX11_law_53 hl (k := 3) rfl exz394.symm (by decide) rfl (fun ls hl => ?_)
              refine lv_goto (tgt := 16) hx hb dX11_law_56 (by decide) ?_
              exact ih16 H locs ls az337 ez338 vz336 az341 nz340 vz339 xz326 rz381 xz394 (by show (2147483647 - xz394.toInt).toNat < n9_16; omega) hez338 hnz340 (by show 0 ≤ xz394.toInt; omega) hP hD hS (lv_sub hl [3, 1, 2, 0] rfl)
            refine lv_if_eq (tgt := 48) hx hb dX11_law_39 (by decide) (fun cz405 => ?_) (fun cz405 => ?_)
            · skip
              have zz406 : xz326.toInt = (0 : Int) := zi_eq.mp cz405
              exact ct48_kz393 H locs ls   hP hD hS (lv_sub hl [1, 4, 0] rfl)
            · skip
              have zz407 : ¬ xz326.toInt = (0 : Int) := fun h9 => cz405 (zi_eq.mpr h9)
              refine lv_iload hx hb dX11_law_42 (lv_at hl 0 rfl) ?_
              refine lv_iload_n hx hb dX11_law_44 rfl (lv_at hl 3 rfl) ?_
              refine lv_icmp_ge (tgt := 53) hx hb dX11_law_45 (by decide) (fun cz408 => ?_) (fun cz408 => ?_)
              · skip
                have bz409 := fb_rng xz325
                have bz410 := fb_rng rz381
                have zz411 : xz325.toInt ≤ rz381.toInt := zi_le.mp cz408
                obtain ⟨xz412, exz412⟩ : ∃ y : Int32, y = xz326 + Int32.ofInt (1) := ⟨_, rfl⟩
                have fxz412 : xz412.toInt = xz326.toInt + (1) := by rw [exz412]; exact fb_addI (y := Int32.ofInt (1)) (by show -2147483648 ≤ xz326.toInt + (1); omega) (by show xz326.toInt + (1) < 2147483648; omega)
                refine lv_iinc (v := xz412) (lv' := [(3, .int xz412), (4, .int rz381), (0, .ref (qX 0)), (1, .int xz324), (2, .int xz325)]) hx hb dX11_law_53 hl (k := 4) rfl exz412.symm (by decide) rfl (fun ls hl => ?_)
                refine lv_goto (tgt := 16) hx hb dX11_law_56 (by decide) ?_
                exact ih16 H locs ls az337 ez338 vz336 az341 nz340 vz339 xz324 xz325 xz412 (by show (2147483647 - xz412.toInt).toNat < n9_16; omega) hez338 hnz340 (by show 0 ≤ xz412.toInt; omega) hP hD hS (lv_sub hl [2, 3, 4, 0] rfl)
              · skip
                have bz413 := fb_rng xz325
                have bz414 := fb_rng rz381
                have zz415 : ¬ xz325.toInt ≤ rz381.toInt := fun h9 => cz408 (zi_le.mpr h9)
                exact ct48_kz393 H locs ls   hP hD hS (lv_sub hl [1, 4, 0] rfl)
          · skip
            refine W.eq (g2 := F0 m 33 ls [.ref (sZ 2 0)]) rfl ?_
            have hPc := hP.sub (ws' := (List.flatten [(wState (sZ 2) k (vz339 2) (nz340 2) (az341 2))])) [25, 26, 27, 28, 29, 30, 31, 32, 33, 34, 35] rfl
            refine vp_callSi (va_Run.run (va_runV (As := []) (rest := []) ⟨hx, hb, hml, hown, hts⟩ (c_X7_together l dC dI k (sZ 2) (vz339 2) (nz340 2) (az341 2) (hnz340 2)) (cwV 0 hts (gk_V (wl_mem 12 rfl) (wl_mem 13 rfl) (wl_mem 14 rfl) (wl_mem 15 rfl) (fun w h => List.mem_cons_of_mem _ (List.mem_append_right _ (List.mem_append_right _ (List.mem_append_right _ (List.mem_append_right _ (List.mem_append_right _ (List.mem_append_left _ h))))))) wkg_c_X7_together) rfl rfl rfl (by decide +kernel) ⟨Nat.le_of_ble_eq_true rfl, Nat.le_of_ble_eq_true rfl⟩) ⟨fun a U g mk q => by obtain ⟨q0, qP, qK⟩ := q; exact ⟨q0, qP, va_K.moved (u := U) (U := U.calling g mk a) (Vm.Alike.refl U.vm) qK⟩, va_recv hK hPc (ci := 7) (q0 := 0) rfl rfl, fun U hU hW => ⟨rfl, by rw [hU]; exact hPc, va_K.moved hW.alike hK⟩⟩ rfl rfl hl.1 rfl (lv_room (Nat.le_of_ble_eq_true rfl)) dX11_law_33 ⟨Nat.le_of_ble_eq_true rfl, Nat.le_of_ble_eq_true rfl⟩)) (fun rz417 gz416 => ?_)
            clear hPc
            refine lv_istore (lv' := [(4, .int rz417), (0, .ref (qX 0)), (1, .int xz324), (2, .int xz325), (3, .int xz326)]) hx hb dX11_law_36 hl (by decide) rfl (fun ls hl => ?_)
            refine lv_iload_n hx hb dX11_law_38 rfl (lv_at hl 4 rfl) ?_
            have ct48_kz429 : ∀ (H : Heap) (locs : List Loc) (ls : Array Slot), va_P (dC, dI) vwCl (List.flatten [(wPlan qP k vz336 az337 ez338), (wState (sZ 0) k (vz339 0) (nz340 0) (az341 0)), (wState (sZ 1) k (vz339 1) (nz340 1) (az341 1)), (wState (sZ 2) k (vz339 2) (nz340 2) (az341 2)), (wState (sZ 3) k (vz339 3) (nz340 3) (az341 3)), (wState (sZ 4) k (vz339 4) (nz340 4) (az341 4)), (wState (sZ 5) k (vz339 5) (nz340 5) (az341 5)), (wState (sZ 6) k (vz339 6) (nz340 6) (az341 6)), (wState (sZ 7) k (vz339 7) (nz340 7) (az341 7))] ++ List.flatten [(wSag qX k tapeX (qV 0) actsX (qN 0) (qP 0) storyX (qZ 0) orderSearchX routeSearchX setSearchX probeX slot0X slot1X slot2X slot3X image0X image1X image2X aX), (wValley qV k vV bV cV wV aV eV), (wPlan qN k vN aN eN), (wStoO qZ k (qV 0) (qP 0) (sZ 0 0) (sZ 1 0) (sZ 2 0) (sZ 3 0) (sZ 4 0) (sZ 5 0) (sZ 6 0) (sZ 7 0))]) H → va_D A (List.flatten [(wPlan qP k vz336 az337 ez338), (wState (sZ 0) k (vz339 0) (nz340 0) (az341 0)), (wState (sZ 1) k (vz339 1) (nz340 1) (az341 1)), (wState (sZ 2) k (vz339 2) (nz340 2) (az341 2)), (wState (sZ 3) k (vz339 3) (nz340 3) (az341 3)), (wState (sZ 4) k (vz339 4) (nz340 4) (az341 4)), (wState (sZ 5) k (vz339 5) (nz340 5) (az341 5)), (wState (sZ 6) k (vz339 6) (nz340 6) (az341 6)), (wState (sZ 7) k (vz339 7) (nz340 7) (az341 7))] ++ List.flatten [(wSag qX k tapeX (qV 0) actsX (qN 0) (qP 0) storyX (qZ 0) orderSearchX routeSearchX setSearchX probeX slot0X slot1X slot2X slot3X image0X image1X image2X aX), (wValley qV k vV bV cV wV aV eV), (wPlan qN k vN aN eN), (wStoO qZ k (qV 0) (qP 0) (sZ 0 0) (sZ 1 0) (sZ 2 0) (sZ 3 0) (sZ 4 0) (sZ 5 0) (sZ 6 0) (sZ 7 0))]) → va_S A s.heap H locs → lv_has ls 5 [(0, .ref (qX 0)), (3, .int xz326), (4, .int rz417)] → W p l e (headSpec wk_c_X11_law ({ frames := 5, cells := 0, slots := 0, locals := 173 })).room s m ([.ref (qX 0)] : List Value).toArray below meth c H locs 0 0 Q (F0 m 48 ls []) := by
              intro H locs ls  hP hD hS hl
              refine lv_iload hx hb dX11_law_48 (lv_at hl 2 rfl) ?_
              refine lv_istore_n (lv' := [(2, .int rz417), (0, .ref (qX 0)), (3, .int xz326), (4, .int rz417)]) hx hb dX11_law_50 rfl hl (by decide) rfl (fun ls hl => ?_)
              refine lv_iload_n hx hb dX11_law_51 rfl (lv_at hl 2 rfl) ?_
              refine lv_istore_n (lv' := [(1, .int xz326), (2, .int rz417), (0, .ref (qX 0)), (3, .int xz326), (4, .int rz417)]) hx hb dX11_law_52 rfl hl (by decide) rfl (fun ls hl => ?_)
              obtain ⟨xz430, exz430⟩ : ∃ y : Int32, y = xz326 + Int32.ofInt (1) := ⟨_, rfl⟩
              have fxz430 : xz430.toInt = xz326.toInt + (1) := by rw [exz430]; exact fb_addI (y := Int32.ofInt (1)) (by show -2147483648 ≤ xz326.toInt + (1); omega) (by show xz326.toInt + (1) < 2147483648; omega)
              refine lv_iinc (v := xz430) (lv' := [(3, .int xz430), (1, .int xz326), (2, .int rz417), (0, .ref (qX 0)), (4, .int rz417)]) hx hb dX11_law_53 hl (k := 3) rfl exz430.symm (by decide) rfl (fun ls hl => ?_)
              refine lv_goto (tgt := 16) hx hb dX11_law_56 (by decide) ?_
              exact ih16 H locs ls az337 ez338 vz336 az341 nz340 vz339 xz326 rz417 xz430 (by show (2147483647 - xz430.toInt).toNat < n9_16; omega) hez338 hnz340 (by show 0 ≤ xz430.toInt; omega) hP hD hS (lv_sub hl [3, 1, 2, 0] rfl)
            refine lv_if_eq (tgt := 48) hx hb dX11_law_39 (by decide) (fun cz441 => ?_) (fun cz441 => ?_)
            · skip
              have zz442 : xz326.toInt = (0 : Int) := zi_eq.mp cz441
              exact ct48_kz429 H locs ls   hP hD hS (lv_sub hl [1, 4, 0] rfl)
            · skip
              have zz443 : ¬ xz326.toInt = (0 : Int) := fun h9 => cz441 (zi_eq.mpr h9)
              refine lv_iload hx hb dX11_law_42 (lv_at hl 0 rfl) ?_
              refine lv_iload_n hx hb dX11_law_44 rfl (lv_at hl 3 rfl) ?_
              refine lv_icmp_ge (tgt := 53) hx hb dX11_law_45 (by decide) (fun cz444 => ?_) (fun cz444 => ?_)
              · skip
                have bz445 := fb_rng xz325
                have bz446 := fb_rng rz417
                have zz447 : xz325.toInt ≤ rz417.toInt := zi_le.mp cz444
                obtain ⟨xz448, exz448⟩ : ∃ y : Int32, y = xz326 + Int32.ofInt (1) := ⟨_, rfl⟩
                have fxz448 : xz448.toInt = xz326.toInt + (1) := by rw [exz448]; exact fb_addI (y := Int32.ofInt (1)) (by show -2147483648 ≤ xz326.toInt + (1); omega) (by show xz326.toInt + (1) < 2147483648; omega)
                refine lv_iinc (v := xz448) (lv' := [(3, .int xz448), (4, .int rz417), (0, .ref (qX 0)), (1, .int xz324), (2, .int xz325)]) hx hb dX11_law_53 hl (k := 4) rfl exz448.symm (by decide) rfl (fun ls hl => ?_)
                refine lv_goto (tgt := 16) hx hb dX11_law_56 (by decide) ?_
                exact ih16 H locs ls az337 ez338 vz336 az341 nz340 vz339 xz324 xz325 xz448 (by show (2147483647 - xz448.toInt).toNat < n9_16; omega) hez338 hnz340 (by show 0 ≤ xz448.toInt; omega) hP hD hS (lv_sub hl [2, 3, 4, 0] rfl)
              · skip
                have bz449 := fb_rng xz325
                have bz450 := fb_rng rz417
                have zz451 : ¬ xz325.toInt ≤ rz417.toInt := fun h9 => cz444 (zi_le.mpr h9)
                exact ct48_kz429 H locs ls   hP hD hS (lv_sub hl [1, 4, 0] rfl)
          · skip
            refine W.eq (g2 := F0 m 33 ls [.ref (sZ 3 0)]) rfl ?_
            have hPc := hP.sub (ws' := (List.flatten [(wState (sZ 3) k (vz339 3) (nz340 3) (az341 3))])) [36, 37, 38, 39, 40, 41, 42, 43, 44, 45, 46] rfl
            refine vp_callSi (va_Run.run (va_runV (As := []) (rest := []) ⟨hx, hb, hml, hown, hts⟩ (c_X7_together l dC dI k (sZ 3) (vz339 3) (nz340 3) (az341 3) (hnz340 3)) (cwV 0 hts (gk_V (wl_mem 12 rfl) (wl_mem 13 rfl) (wl_mem 14 rfl) (wl_mem 15 rfl) (fun w h => List.mem_cons_of_mem _ (List.mem_append_right _ (List.mem_append_right _ (List.mem_append_right _ (List.mem_append_right _ (List.mem_append_right _ (List.mem_append_left _ h))))))) wkg_c_X7_together) rfl rfl rfl (by decide +kernel) ⟨Nat.le_of_ble_eq_true rfl, Nat.le_of_ble_eq_true rfl⟩) ⟨fun a U g mk q => by obtain ⟨q0, qP, qK⟩ := q; exact ⟨q0, qP, va_K.moved (u := U) (U := U.calling g mk a) (Vm.Alike.refl U.vm) qK⟩, va_recv hK hPc (ci := 7) (q0 := 0) rfl rfl, fun U hU hW => ⟨rfl, by rw [hU]; exact hPc, va_K.moved hW.alike hK⟩⟩ rfl rfl hl.1 rfl (lv_room (Nat.le_of_ble_eq_true rfl)) dX11_law_33 ⟨Nat.le_of_ble_eq_true rfl, Nat.le_of_ble_eq_true rfl⟩)) (fun rz453 gz452 => ?_)
            clear hPc
            refine lv_istore (lv' := [(4, .int rz453), (0, .ref (qX 0)), (1, .int xz324), (2, .int xz325), (3, .int xz326)]) hx hb dX11_law_36 hl (by decide) rfl (fun ls hl => ?_)
            refine lv_iload_n hx hb dX11_law_38 rfl (lv_at hl 4 rfl) ?_
            have ct48_kz465 : ∀ (H : Heap) (locs : List Loc) (ls : Array Slot), va_P (dC, dI) vwCl (List.flatten [(wPlan qP k vz336 az337 ez338), (wState (sZ 0) k (vz339 0) (nz340 0) (az341 0)), (wState (sZ 1) k (vz339 1) (nz340 1) (az341 1)), (wState (sZ 2) k (vz339 2) (nz340 2) (az341 2)), (wState (sZ 3) k (vz339 3) (nz340 3) (az341 3)), (wState (sZ 4) k (vz339 4) (nz340 4) (az341 4)), (wState (sZ 5) k (vz339 5) (nz340 5) (az341 5)), (wState (sZ 6) k (vz339 6) (nz340 6) (az341 6)), (wState (sZ 7) k (vz339 7) (nz340 7) (az341 7))] ++ List.flatten [(wSag qX k tapeX (qV 0) actsX (qN 0) (qP 0) storyX (qZ 0) orderSearchX routeSearchX setSearchX probeX slot0X slot1X slot2X slot3X image0X image1X image2X aX), (wValley qV k vV bV cV wV aV eV), (wPlan qN k vN aN eN), (wStoO qZ k (qV 0) (qP 0) (sZ 0 0) (sZ 1 0) (sZ 2 0) (sZ 3 0) (sZ 4 0) (sZ 5 0) (sZ 6 0) (sZ 7 0))]) H → va_D A (List.flatten [(wPlan qP k vz336 az337 ez338), (wState (sZ 0) k (vz339 0) (nz340 0) (az341 0)), (wState (sZ 1) k (vz339 1) (nz340 1) (az341 1)), (wState (sZ 2) k (vz339 2) (nz340 2) (az341 2)), (wState (sZ 3) k (vz339 3) (nz340 3) (az341 3)), (wState (sZ 4) k (vz339 4) (nz340 4) (az341 4)), (wState (sZ 5) k (vz339 5) (nz340 5) (az341 5)), (wState (sZ 6) k (vz339 6) (nz340 6) (az341 6)), (wState (sZ 7) k (vz339 7) (nz340 7) (az341 7))] ++ List.flatten [(wSag qX k tapeX (qV 0) actsX (qN 0) (qP 0) storyX (qZ 0) orderSearchX routeSearchX setSearchX probeX slot0X slot1X slot2X slot3X image0X image1X image2X aX), (wValley qV k vV bV cV wV aV eV), (wPlan qN k vN aN eN), (wStoO qZ k (qV 0) (qP 0) (sZ 0 0) (sZ 1 0) (sZ 2 0) (sZ 3 0) (sZ 4 0) (sZ 5 0) (sZ 6 0) (sZ 7 0))]) → va_S A s.heap H locs → lv_has ls 5 [(0, .ref (qX 0)), (3, .int xz326), (4, .int rz453)] → W p l e (headSpec wk_c_X11_law ({ frames := 5, cells := 0, slots := 0, locals := 173 })).room s m ([.ref (qX 0)] : List Value).toArray below meth c H locs 0 0 Q (F0 m 48 ls []) := by
              intro H locs ls  hP hD hS hl
              refine lv_iload hx hb dX11_law_48 (lv_at hl 2 rfl) ?_
              refine lv_istore_n (lv' := [(2, .int rz453), (0, .ref (qX 0)), (3, .int xz326), (4, .int rz453)]) hx hb dX11_law_50 rfl hl (by decide) rfl (fun ls hl => ?_)
              refine lv_iload_n hx hb dX11_law_51 rfl (lv_at hl 2 rfl) ?_
              refine lv_istore_n (lv' := [(1, .int xz326), (2, .int rz453), (0, .ref (qX 0)), (3, .int xz326), (4, .int rz453)]) hx hb dX11_law_52 rfl hl (by decide) rfl (fun ls hl => ?_)
              obtain ⟨xz466, exz466⟩ : ∃ y : Int32, y = xz326 + Int32.ofInt (1) := ⟨_, rfl⟩
              have fxz466 : xz466.toInt = xz326.toInt + (1) := by rw [exz466]; exact fb_addI (y := Int32.ofInt (1)) (by show -2147483648 ≤ xz326.toInt + (1); omega) (by show xz326.toInt + (1) < 2147483648; omega)
              refine lv_iinc (v := xz466) (lv' := [(3, .int xz466), (1, .int xz326), (2, .int rz453), (0, .ref (qX 0)), (4, .int rz453)]) hx hb dX11_law_53 hl (k := 3) rfl exz466.symm (by decide) rfl (fun ls hl => ?_)
              refine lv_goto (tgt := 16) hx hb dX11_law_56 (by decide) ?_
              exact ih16 H locs ls az337 ez338 vz336 az341 nz340 vz339 xz326 rz453 xz466 (by show (2147483647 - xz466.toInt).toNat < n9_16; omega) hez338 hnz340 (by show 0 ≤ xz466.toInt; omega) hP hD hS (lv_sub hl [3, 1, 2, 0] rfl)
            refine lv_if_eq (tgt := 48) hx hb dX11_law_39 (by decide) (fun cz477 => ?_) (fun cz477 => ?_)
            · skip
              have zz478 : xz326.toInt = (0 : Int) := zi_eq.mp cz477
              exact ct48_kz465 H locs ls   hP hD hS (lv_sub hl [1, 4, 0] rfl)
            · skip
              have zz479 : ¬ xz326.toInt = (0 : Int) := fun h9 => cz477 (zi_eq.mpr h9)
              refine lv_iload hx hb dX11_law_42 (lv_at hl 0 rfl) ?_
              refine lv_iload_n hx hb dX11_law_44 rfl (lv_at hl 3 rfl) ?_
              refine lv_icmp_ge (tgt := 53) hx hb dX11_law_45 (by decide) (fun cz480 => ?_) (fun cz480 => ?_)
              · skip
                have bz481 := fb_rng xz325
                have bz482 := fb_rng rz453
                have zz483 : xz325.toInt ≤ rz453.toInt := zi_le.mp cz480
                obtain ⟨xz484, exz484⟩ : ∃ y : Int32, y = xz326 + Int32.ofInt (1) := ⟨_, rfl⟩
                have fxz484 : xz484.toInt = xz326.toInt + (1) := by rw [exz484]; exact fb_addI (y := Int32.ofInt (1)) (by show -2147483648 ≤ xz326.toInt + (1); omega) (by show xz326.toInt + (1) < 2147483648; omega)
                refine lv_iinc (v := xz484) (lv' := [(3, .int xz484), (4, .int rz453), (0, .ref (qX 0)), (1, .int xz324), (2, .int xz325)]) hx hb dX11_law_53 hl (k := 4) rfl exz484.symm (by decide) rfl (fun ls hl => ?_)
                refine lv_goto (tgt := 16) hx hb dX11_law_56 (by decide) ?_
                exact ih16 H locs ls az337 ez338 vz336 az341 nz340 vz339 xz324 xz325 xz484 (by show (2147483647 - xz484.toInt).toNat < n9_16; omega) hez338 hnz340 (by show 0 ≤ xz484.toInt; omega) hP hD hS (lv_sub hl [2, 3, 4, 0] rfl)
              · skip
                have bz485 := fb_rng xz325
                have bz486 := fb_rng rz453
                have zz487 : ¬ xz325.toInt ≤ rz453.toInt := fun h9 => cz480 (zi_le.mpr h9)
                exact ct48_kz465 H locs ls   hP hD hS (lv_sub hl [1, 4, 0] rfl)
          · skip
            refine W.eq (g2 := F0 m 33 ls [.ref (sZ 4 0)]) rfl ?_
            have hPc := hP.sub (ws' := (List.flatten [(wState (sZ 4) k (vz339 4) (nz340 4) (az341 4))])) [47, 48, 49, 50, 51, 52, 53, 54, 55, 56, 57] rfl
            refine vp_callSi (va_Run.run (va_runV (As := []) (rest := []) ⟨hx, hb, hml, hown, hts⟩ (c_X7_together l dC dI k (sZ 4) (vz339 4) (nz340 4) (az341 4) (hnz340 4)) (cwV 0 hts (gk_V (wl_mem 12 rfl) (wl_mem 13 rfl) (wl_mem 14 rfl) (wl_mem 15 rfl) (fun w h => List.mem_cons_of_mem _ (List.mem_append_right _ (List.mem_append_right _ (List.mem_append_right _ (List.mem_append_right _ (List.mem_append_right _ (List.mem_append_left _ h))))))) wkg_c_X7_together) rfl rfl rfl (by decide +kernel) ⟨Nat.le_of_ble_eq_true rfl, Nat.le_of_ble_eq_true rfl⟩) ⟨fun a U g mk q => by obtain ⟨q0, qP, qK⟩ := q; exact ⟨q0, qP, va_K.moved (u := U) (U := U.calling g mk a) (Vm.Alike.refl U.vm) qK⟩, va_recv hK hPc (ci := 7) (q0 := 0) rfl rfl, fun U hU hW => ⟨rfl, by rw [hU]; exact hPc, va_K.moved hW.alike hK⟩⟩ rfl rfl hl.1 rfl (lv_room (Nat.le_of_ble_eq_true rfl)) dX11_law_33 ⟨Nat.le_of_ble_eq_true rfl, Nat.le_of_ble_eq_true rfl⟩)) (fun rz489 gz488 => ?_)
            clear hPc
            refine lv_istore (lv' := [(4, .int rz489), (0, .ref (qX 0)), (1, .int xz324), (2, .int xz325), (3, .int xz326)]) hx hb dX11_law_36 hl (by decide) rfl (fun ls hl => ?_)
            refine lv_iload_n hx hb dX11_law_38 rfl (lv_at hl 4 rfl) ?_
            have ct48_kz501 : ∀ (H : Heap) (locs : List Loc) (ls : Array Slot), va_P (dC, dI) vwCl (List.flatten [(wPlan qP k vz336 az337 ez338), (wState (sZ 0) k (vz339 0) (nz340 0) (az341 0)), (wState (sZ 1) k (vz339 1) (nz340 1) (az341 1)), (wState (sZ 2) k (vz339 2) (nz340 2) (az341 2)), (wState (sZ 3) k (vz339 3) (nz340 3) (az341 3)), (wState (sZ 4) k (vz339 4) (nz340 4) (az341 4)), (wState (sZ 5) k (vz339 5) (nz340 5) (az341 5)), (wState (sZ 6) k (vz339 6) (nz340 6) (az341 6)), (wState (sZ 7) k (vz339 7) (nz340 7) (az341 7))] ++ List.flatten [(wSag qX k tapeX (qV 0) actsX (qN 0) (qP 0) storyX (qZ 0) orderSearchX routeSearchX setSearchX probeX slot0X slot1X slot2X slot3X image0X image1X image2X aX), (wValley qV k vV bV cV wV aV eV), (wPlan qN k vN aN eN), (wStoO qZ k (qV 0) (qP 0) (sZ 0 0) (sZ 1 0) (sZ 2 0) (sZ 3 0) (sZ 4 0) (sZ 5 0) (sZ 6 0) (sZ 7 0))]) H → va_D A (List.flatten [(wPlan qP k vz336 az337 ez338), (wState (sZ 0) k (vz339 0) (nz340 0) (az341 0)), (wState (sZ 1) k (vz339 1) (nz340 1) (az341 1)), (wState (sZ 2) k (vz339 2) (nz340 2) (az341 2)), (wState (sZ 3) k (vz339 3) (nz340 3) (az341 3)), (wState (sZ 4) k (vz339 4) (nz340 4) (az341 4)), (wState (sZ 5) k (vz339 5) (nz340 5) (az341 5)), (wState (sZ 6) k (vz339 6) (nz340 6) (az341 6)), (wState (sZ 7) k (vz339 7) (nz340 7) (az341 7))] ++ List.flatten [(wSag qX k tapeX (qV 0) actsX (qN 0) (qP 0) storyX (qZ 0) orderSearchX routeSearchX setSearchX probeX slot0X slot1X slot2X slot3X image0X image1X image2X aX), (wValley qV k vV bV cV wV aV eV), (wPlan qN k vN aN eN), (wStoO qZ k (qV 0) (qP 0) (sZ 0 0) (sZ 1 0) (sZ 2 0) (sZ 3 0) (sZ 4 0) (sZ 5 0) (sZ 6 0) (sZ 7 0))]) → va_S A s.heap H locs → lv_has ls 5 [(0, .ref (qX 0)), (3, .int xz326), (4, .int rz489)] → W p l e (headSpec wk_c_X11_law ({ frames := 5, cells := 0, slots := 0, locals := 173 })).room s m ([.ref (qX 0)] : List Value).toArray below meth c H locs 0 0 Q (F0 m 48 ls []) := by
              intro H locs ls  hP hD hS hl
              refine lv_iload hx hb dX11_law_48 (lv_at hl 2 rfl) ?_
              refine lv_istore_n (lv' := [(2, .int rz489), (0, .ref (qX 0)), (3, .int xz326), (4, .int rz489)]) hx hb dX11_law_50 rfl hl (by decide) rfl (fun ls hl => ?_)
              refine lv_iload_n hx hb dX11_law_51 rfl (lv_at hl 2 rfl) ?_
              refine lv_istore_n (lv' := [(1, .int xz326), (2, .int rz489), (0, .ref (qX 0)), (3, .int xz326), (4, .int rz489)]) hx hb dX11_law_52 rfl hl (by decide) rfl (fun ls hl => ?_)
              obtain ⟨xz502, exz502⟩ : ∃ y : Int32, y = xz326 + Int32.ofInt (1) := ⟨_, rfl⟩
              have fxz502 : xz502.toInt = xz326.toInt + (1) := by rw [exz502]; exact fb_addI (y := Int32.ofInt (1)) (by show -2147483648 ≤ xz326.toInt + (1); omega) (by show xz326.toInt + (1) < 2147483648; omega)
              refine lv_iinc (v := xz502) (lv' := [(3, .int xz502), (1, .int xz326), (2, .int rz489), (0, .ref (qX 0)), (4, .int rz489)]) hx hb dX11_law_53 hl (k := 3) rfl exz502.symm (by decide) rfl (fun ls hl => ?_)
              refine lv_goto (tgt := 16) hx hb dX11_law_56 (by decide) ?_
              exact ih16 H locs ls az337 ez338 vz336 az341 nz340 vz339 xz326 rz489 xz502 (by show (2147483647 - xz502.toInt).toNat < n9_16; omega) hez338 hnz340 (by show 0 ≤ xz502.toInt; omega) hP hD hS (lv_sub hl [3, 1, 2, 0] rfl)
            refine lv_if_eq (tgt := 48) hx hb dX11_law_39 (by decide) (fun cz513 => ?_) (fun cz513 => ?_)
            · skip
              have zz514 : xz326.toInt = (0 : Int) := zi_eq.mp cz513
              exact ct48_kz501 H locs ls   hP hD hS (lv_sub hl [1, 4, 0] rfl)
            · skip
              have zz515 : ¬ xz326.toInt = (0 : Int) := fun h9 => cz513 (zi_eq.mpr h9)
              refine lv_iload hx hb dX11_law_42 (lv_at hl 0 rfl) ?_
              refine lv_iload_n hx hb dX11_law_44 rfl (lv_at hl 3 rfl) ?_
              refine lv_icmp_ge (tgt := 53) hx hb dX11_law_45 (by decide) (fun cz516 => ?_) (fun cz516 => ?_)
              · skip
                have bz517 := fb_rng xz325
                have bz518 := fb_rng rz489
                have zz519 : xz325.toInt ≤ rz489.toInt := zi_le.mp cz516
                obtain ⟨xz520, exz520⟩ : ∃ y : Int32, y = xz326 + Int32.ofInt (1) := ⟨_, rfl⟩
                have fxz520 : xz520.toInt = xz326.toInt + (1) := by rw [exz520]; exact fb_addI (y := Int32.ofInt (1)) (by show -2147483648 ≤ xz326.toInt + (1); omega) (by show xz326.toInt + (1) < 2147483648; omega)
                refine lv_iinc (v := xz520) (lv' := [(3, .int xz520), (4, .int rz489), (0, .ref (qX 0)), (1, .int xz324), (2, .int xz325)]) hx hb dX11_law_53 hl (k := 4) rfl exz520.symm (by decide) rfl (fun ls hl => ?_)
                refine lv_goto (tgt := 16) hx hb dX11_law_56 (by decide) ?_
                exact ih16 H locs ls az337 ez338 vz336 az341 nz340 vz339 xz324 xz325 xz520 (by show (2147483647 - xz520.toInt).toNat < n9_16; omega) hez338 hnz340 (by show 0 ≤ xz520.toInt; omega) hP hD hS (lv_sub hl [2, 3, 4, 0] rfl)
              · skip
                have bz521 := fb_rng xz325
                have bz522 := fb_rng rz489
                have zz523 : ¬ xz325.toInt ≤ rz489.toInt := fun h9 => cz516 (zi_le.mpr h9)
                exact ct48_kz501 H locs ls   hP hD hS (lv_sub hl [1, 4, 0] rfl)
          · skip
            refine W.eq (g2 := F0 m 33 ls [.ref (sZ 5 0)]) rfl ?_
            have hPc := hP.sub (ws' := (List.flatten [(wState (sZ 5) k (vz339 5) (nz340 5) (az341 5))])) [58, 59, 60, 61, 62, 63, 64, 65, 66, 67, 68] rfl
            refine vp_callSi (va_Run.run (va_runV (As := []) (rest := []) ⟨hx, hb, hml, hown, hts⟩ (c_X7_together l dC dI k (sZ 5) (vz339 5) (nz340 5) (az341 5) (hnz340 5)) (cwV 0 hts (gk_V (wl_mem 12 rfl) (wl_mem 13 rfl) (wl_mem 14 rfl) (wl_mem 15 rfl) (fun w h => List.mem_cons_of_mem _ (List.mem_append_right _ (List.mem_append_right _ (List.mem_append_right _ (List.mem_append_right _ (List.mem_append_right _ (List.mem_append_left _ h))))))) wkg_c_X7_together) rfl rfl rfl (by decide +kernel) ⟨Nat.le_of_ble_eq_true rfl, Nat.le_of_ble_eq_true rfl⟩) ⟨fun a U g mk q => by obtain ⟨q0, qP, qK⟩ := q; exact ⟨q0, qP, va_K.moved (u := U) (U := U.calling g mk a) (Vm.Alike.refl U.vm) qK⟩, va_recv hK hPc (ci := 7) (q0 := 0) rfl rfl, fun U hU hW => ⟨rfl, by rw [hU]; exact hPc, va_K.moved hW.alike hK⟩⟩ rfl rfl hl.1 rfl (lv_room (Nat.le_of_ble_eq_true rfl)) dX11_law_33 ⟨Nat.le_of_ble_eq_true rfl, Nat.le_of_ble_eq_true rfl⟩)) (fun rz525 gz524 => ?_)
            clear hPc
            refine lv_istore (lv' := [(4, .int rz525), (0, .ref (qX 0)), (1, .int xz324), (2, .int xz325), (3, .int xz326)]) hx hb dX11_law_36 hl (by decide) rfl (fun ls hl => ?_)
            refine lv_iload_n hx hb dX11_law_38 rfl (lv_at hl 4 rfl) ?_
            have ct48_kz537 : ∀ (H : Heap) (locs : List Loc) (ls : Array Slot), va_P (dC, dI) vwCl (List.flatten [(wPlan qP k vz336 az337 ez338), (wState (sZ 0) k (vz339 0) (nz340 0) (az341 0)), (wState (sZ 1) k (vz339 1) (nz340 1) (az341 1)), (wState (sZ 2) k (vz339 2) (nz340 2) (az341 2)), (wState (sZ 3) k (vz339 3) (nz340 3) (az341 3)), (wState (sZ 4) k (vz339 4) (nz340 4) (az341 4)), (wState (sZ 5) k (vz339 5) (nz340 5) (az341 5)), (wState (sZ 6) k (vz339 6) (nz340 6) (az341 6)), (wState (sZ 7) k (vz339 7) (nz340 7) (az341 7))] ++ List.flatten [(wSag qX k tapeX (qV 0) actsX (qN 0) (qP 0) storyX (qZ 0) orderSearchX routeSearchX setSearchX probeX slot0X slot1X slot2X slot3X image0X image1X image2X aX), (wValley qV k vV bV cV wV aV eV), (wPlan qN k vN aN eN), (wStoO qZ k (qV 0) (qP 0) (sZ 0 0) (sZ 1 0) (sZ 2 0) (sZ 3 0) (sZ 4 0) (sZ 5 0) (sZ 6 0) (sZ 7 0))]) H → va_D A (List.flatten [(wPlan qP k vz336 az337 ez338), (wState (sZ 0) k (vz339 0) (nz340 0) (az341 0)), (wState (sZ 1) k (vz339 1) (nz340 1) (az341 1)), (wState (sZ 2) k (vz339 2) (nz340 2) (az341 2)), (wState (sZ 3) k (vz339 3) (nz340 3) (az341 3)), (wState (sZ 4) k (vz339 4) (nz340 4) (az341 4)), (wState (sZ 5) k (vz339 5) (nz340 5) (az341 5)), (wState (sZ 6) k (vz339 6) (nz340 6) (az341 6)), (wState (sZ 7) k (vz339 7) (nz340 7) (az341 7))] ++ List.flatten [(wSag qX k tapeX (qV 0) actsX (qN 0) (qP 0) storyX (qZ 0) orderSearchX routeSearchX setSearchX probeX slot0X slot1X slot2X slot3X image0X image1X image2X aX), (wValley qV k vV bV cV wV aV eV), (wPlan qN k vN aN eN), (wStoO qZ k (qV 0) (qP 0) (sZ 0 0) (sZ 1 0) (sZ 2 0) (sZ 3 0) (sZ 4 0) (sZ 5 0) (sZ 6 0) (sZ 7 0))]) → va_S A s.heap H locs → lv_has ls 5 [(0, .ref (qX 0)), (3, .int xz326), (4, .int rz525)] → W p l e (headSpec wk_c_X11_law ({ frames := 5, cells := 0, slots := 0, locals := 173 })).room s m ([.ref (qX 0)] : List Value).toArray below meth c H locs 0 0 Q (F0 m 48 ls []) := by
              intro H locs ls  hP hD hS hl
              refine lv_iload hx hb dX11_law_48 (lv_at hl 2 rfl) ?_
              refine lv_istore_n (lv' := [(2, .int rz525), (0, .ref (qX 0)), (3, .int xz326), (4, .int rz525)]) hx hb dX11_law_50 rfl hl (by decide) rfl (fun ls hl => ?_)
              refine lv_iload_n hx hb dX11_law_51 rfl (lv_at hl 2 rfl) ?_
              refine lv_istore_n (lv' := [(1, .int xz326), (2, .int rz525), (0, .ref (qX 0)), (3, .int xz326), (4, .int rz525)]) hx hb dX11_law_52 rfl hl (by decide) rfl (fun ls hl => ?_)
              obtain ⟨xz538, exz538⟩ : ∃ y : Int32, y = xz326 + Int32.ofInt (1) := ⟨_, rfl⟩
              have fxz538 : xz538.toInt = xz326.toInt + (1) := by rw [exz538]; exact fb_addI (y := Int32.ofInt (1)) (by show -2147483648 ≤ xz326.toInt + (1); omega) (by show xz326.toInt + (1) < 2147483648; omega)
              refine lv_iinc (v := xz538) (lv' := [(3, .int xz538), (1, .int xz326), (2, .int rz525), (0, .ref (qX 0)), (4, .int rz525)]) hx hb dX11_law_53 hl (k := 3) rfl exz538.symm (by decide) rfl (fun ls hl => ?_)
              refine lv_goto (tgt := 16) hx hb dX11_law_56 (by decide) ?_
              exact ih16 H locs ls az337 ez338 vz336 az341 nz340 vz339 xz326 rz525 xz538 (by show (2147483647 - xz538.toInt).toNat < n9_16; omega) hez338 hnz340 (by show 0 ≤ xz538.toInt; omega) hP hD hS (lv_sub hl [3, 1, 2, 0] rfl)
            refine lv_if_eq (tgt := 48) hx hb dX11_law_39 (by decide) (fun cz549 => ?_) (fun cz549 => ?_)
            · skip
              have zz550 : xz326.toInt = (0 : Int) := zi_eq.mp cz549
              exact ct48_kz537 H locs ls   hP hD hS (lv_sub hl [1, 4, 0] rfl)
            · skip
              have zz551 : ¬ xz326.toInt = (0 : Int) := fun h9 => cz549 (zi_eq.mpr h9)
              refine lv_iload hx hb dX11_law_42 (lv_at hl 0 rfl) ?_
              refine lv_iload_n hx hb dX11_law_44 rfl (lv_at hl 3 rfl) ?_
              refine lv_icmp_ge (tgt := 53) hx hb dX11_law_45 (by decide) (fun cz552 => ?_) (fun cz552 => ?_)
              · skip
                have bz553 := fb_rng xz325
                have bz554 := fb_rng rz525
                have zz555 : xz325.toInt ≤ rz525.toInt := zi_le.mp cz552
                obtain ⟨xz556, exz556⟩ : ∃ y : Int32, y = xz326 + Int32.ofInt (1) := ⟨_, rfl⟩
                have fxz556 : xz556.toInt = xz326.toInt + (1) := by rw [exz556]; exact fb_addI (y := Int32.ofInt (1)) (by show -2147483648 ≤ xz326.toInt + (1); omega) (by show xz326.toInt + (1) < 2147483648; omega)
                refine lv_iinc (v := xz556) (lv' := [(3, .int xz556), (4, .int rz525), (0, .ref (qX 0)), (1, .int xz324), (2, .int xz325)]) hx hb dX11_law_53 hl (k := 4) rfl exz556.symm (by decide) rfl (fun ls hl => ?_)
                refine lv_goto (tgt := 16) hx hb dX11_law_56 (by decide) ?_
                exact ih16 H locs ls az337 ez338 vz336 az341 nz340 vz339 xz324 xz325 xz556 (by show (2147483647 - xz556.toInt).toNat < n9_16; omega) hez338 hnz340 (by show 0 ≤ xz556.toInt; omega) hP hD hS (lv_sub hl [2, 3, 4, 0] rfl)
              · skip
                have bz557 := fb_rng xz325
                have bz558 := fb_rng rz525
                have zz559 : ¬ xz325.toInt ≤ rz525.toInt := fun h9 => cz552 (zi_le.mpr h9)
                exact ct48_kz537 H locs ls   hP hD hS (lv_sub hl [1, 4, 0] rfl)
          · skip
            refine W.eq (g2 := F0 m 33 ls [.ref (sZ 6 0)]) rfl ?_
            have hPc := hP.sub (ws' := (List.flatten [(wState (sZ 6) k (vz339 6) (nz340 6) (az341 6))])) [69, 70, 71, 72, 73, 74, 75, 76, 77, 78, 79] rfl
            refine vp_callSi (va_Run.run (va_runV (As := []) (rest := []) ⟨hx, hb, hml, hown, hts⟩ (c_X7_together l dC dI k (sZ 6) (vz339 6) (nz340 6) (az341 6) (hnz340 6)) (cwV 0 hts (gk_V (wl_mem 12 rfl) (wl_mem 13 rfl) (wl_mem 14 rfl) (wl_mem 15 rfl) (fun w h => List.mem_cons_of_mem _ (List.mem_append_right _ (List.mem_append_right _ (List.mem_append_right _ (List.mem_append_right _ (List.mem_append_right _ (List.mem_append_left _ h))))))) wkg_c_X7_together) rfl rfl rfl (by decide +kernel) ⟨Nat.le_of_ble_eq_true rfl, Nat.le_of_ble_eq_true rfl⟩) ⟨fun a U g mk q => by obtain ⟨q0, qP, qK⟩ := q; exact ⟨q0, qP, va_K.moved (u := U) (U := U.calling g mk a) (Vm.Alike.refl U.vm) qK⟩, va_recv hK hPc (ci := 7) (q0 := 0) rfl rfl, fun U hU hW => ⟨rfl, by rw [hU]; exact hPc, va_K.moved hW.alike hK⟩⟩ rfl rfl hl.1 rfl (lv_room (Nat.le_of_ble_eq_true rfl)) dX11_law_33 ⟨Nat.le_of_ble_eq_true rfl, Nat.le_of_ble_eq_true rfl⟩)) (fun rz561 gz560 => ?_)
            clear hPc
            refine lv_istore (lv' := [(4, .int rz561), (0, .ref (qX 0)), (1, .int xz324), (2, .int xz325), (3, .int xz326)]) hx hb dX11_law_36 hl (by decide) rfl (fun ls hl => ?_)
            refine lv_iload_n hx hb dX11_law_38 rfl (lv_at hl 4 rfl) ?_
            have ct48_kz573 : ∀ (H : Heap) (locs : List Loc) (ls : Array Slot), va_P (dC, dI) vwCl (List.flatten [(wPlan qP k vz336 az337 ez338), (wState (sZ 0) k (vz339 0) (nz340 0) (az341 0)), (wState (sZ 1) k (vz339 1) (nz340 1) (az341 1)), (wState (sZ 2) k (vz339 2) (nz340 2) (az341 2)), (wState (sZ 3) k (vz339 3) (nz340 3) (az341 3)), (wState (sZ 4) k (vz339 4) (nz340 4) (az341 4)), (wState (sZ 5) k (vz339 5) (nz340 5) (az341 5)), (wState (sZ 6) k (vz339 6) (nz340 6) (az341 6)), (wState (sZ 7) k (vz339 7) (nz340 7) (az341 7))] ++ List.flatten [(wSag qX k tapeX (qV 0) actsX (qN 0) (qP 0) storyX (qZ 0) orderSearchX routeSearchX setSearchX probeX slot0X slot1X slot2X slot3X image0X image1X image2X aX), (wValley qV k vV bV cV wV aV eV), (wPlan qN k vN aN eN), (wStoO qZ k (qV 0) (qP 0) (sZ 0 0) (sZ 1 0) (sZ 2 0) (sZ 3 0) (sZ 4 0) (sZ 5 0) (sZ 6 0) (sZ 7 0))]) H → va_D A (List.flatten [(wPlan qP k vz336 az337 ez338), (wState (sZ 0) k (vz339 0) (nz340 0) (az341 0)), (wState (sZ 1) k (vz339 1) (nz340 1) (az341 1)), (wState (sZ 2) k (vz339 2) (nz340 2) (az341 2)), (wState (sZ 3) k (vz339 3) (nz340 3) (az341 3)), (wState (sZ 4) k (vz339 4) (nz340 4) (az341 4)), (wState (sZ 5) k (vz339 5) (nz340 5) (az341 5)), (wState (sZ 6) k (vz339 6) (nz340 6) (az341 6)), (wState (sZ 7) k (vz339 7) (nz340 7) (az341 7))] ++ List.flatten [(wSag qX k tapeX (qV 0) actsX (qN 0) (qP 0) storyX (qZ 0) orderSearchX routeSearchX setSearchX probeX slot0X slot1X slot2X slot3X image0X image1X image2X aX), (wValley qV k vV bV cV wV aV eV), (wPlan qN k vN aN eN), (wStoO qZ k (qV 0) (qP 0) (sZ 0 0) (sZ 1 0) (sZ 2 0) (sZ 3 0) (sZ 4 0) (sZ 5 0) (sZ 6 0) (sZ 7 0))]) → va_S A s.heap H locs → lv_has ls 5 [(0, .ref (qX 0)), (3, .int xz326), (4, .int rz561)] → W p l e (headSpec wk_c_X11_law ({ frames := 5, cells := 0, slots := 0, locals := 173 })).room s m ([.ref (qX 0)] : List Value).toArray below meth c H locs 0 0 Q (F0 m 48 ls []) := by
              intro H locs ls  hP hD hS hl
              refine lv_iload hx hb dX11_law_48 (lv_at hl 2 rfl) ?_
              refine lv_istore_n (lv' := [(2, .int rz561), (0, .ref (qX 0)), (3, .int xz326), (4, .int rz561)]) hx hb dX11_law_50 rfl hl (by decide) rfl (fun ls hl => ?_)
              refine lv_iload_n hx hb dX11_law_51 rfl (lv_at hl 2 rfl) ?_
              refine lv_istore_n (lv' := [(1, .int xz326), (2, .int rz561), (0, .ref (qX 0)), (3, .int xz326), (4, .int rz561)]) hx hb dX11_law_52 rfl hl (by decide) rfl (fun ls hl => ?_)
              obtain ⟨xz574, exz574⟩ : ∃ y : Int32, y = xz326 + Int32.ofInt (1) := ⟨_, rfl⟩
              have fxz574 : xz574.toInt = xz326.toInt + (1) := by rw [exz574]; exact fb_addI (y := Int32.ofInt (1)) (by show -2147483648 ≤ xz326.toInt + (1); omega) (by show xz326.toInt + (1) < 2147483648; omega)
              refine lv_iinc (v := xz574) (lv' := [(3, .int xz574), (1, .int xz326), (2, .int rz561), (0, .ref (qX 0)), (4, .int rz561)]) hx hb dX11_law_53 hl (k := 3) rfl exz574.symm (by decide) rfl (fun ls hl => ?_)
              refine lv_goto (tgt := 16) hx hb dX11_law_56 (by decide) ?_
              exact ih16 H locs ls az337 ez338 vz336 az341 nz340 vz339 xz326 rz561 xz574 (by show (2147483647 - xz574.toInt).toNat < n9_16; omega) hez338 hnz340 (by show 0 ≤ xz574.toInt; omega) hP hD hS (lv_sub hl [3, 1, 2, 0] rfl)
            refine lv_if_eq (tgt := 48) hx hb dX11_law_39 (by decide) (fun cz585 => ?_) (fun cz585 => ?_)
            · skip
              have zz586 : xz326.toInt = (0 : Int) := zi_eq.mp cz585
              exact ct48_kz573 H locs ls   hP hD hS (lv_sub hl [1, 4, 0] rfl)
            · skip
              have zz587 : ¬ xz326.toInt = (0 : Int) := fun h9 => cz585 (zi_eq.mpr h9)
              refine lv_iload hx hb dX11_law_42 (lv_at hl 0 rfl) ?_
              refine lv_iload_n hx hb dX11_law_44 rfl (lv_at hl 3 rfl) ?_
              refine lv_icmp_ge (tgt := 53) hx hb dX11_law_45 (by decide) (fun cz588 => ?_) (fun cz588 => ?_)
              · skip
                have bz589 := fb_rng xz325
                have bz590 := fb_rng rz561
                have zz591 : xz325.toInt ≤ rz561.toInt := zi_le.mp cz588
                obtain ⟨xz592, exz592⟩ : ∃ y : Int32, y = xz326 + Int32.ofInt (1) := ⟨_, rfl⟩
                have fxz592 : xz592.toInt = xz326.toInt + (1) := by rw [exz592]; exact fb_addI (y := Int32.ofInt (1)) (by show -2147483648 ≤ xz326.toInt + (1); omega) (by show xz326.toInt + (1) < 2147483648; omega)
                refine lv_iinc (v := xz592) (lv' := [(3, .int xz592), (4, .int rz561), (0, .ref (qX 0)), (1, .int xz324), (2, .int xz325)]) hx hb dX11_law_53 hl (k := 4) rfl exz592.symm (by decide) rfl (fun ls hl => ?_)
                refine lv_goto (tgt := 16) hx hb dX11_law_56 (by decide) ?_
                exact ih16 H locs ls az337 ez338 vz336 az341 nz340 vz339 xz324 xz325 xz592 (by show (2147483647 - xz592.toInt).toNat < n9_16; omega) hez338 hnz340 (by show 0 ≤ xz592.toInt; omega) hP hD hS (lv_sub hl [2, 3, 4, 0] rfl)
              · skip
                have bz593 := fb_rng xz325
                have bz594 := fb_rng rz561
                have zz595 : ¬ xz325.toInt ≤ rz561.toInt := fun h9 => cz588 (zi_le.mpr h9)
                exact ct48_kz573 H locs ls   hP hD hS (lv_sub hl [1, 4, 0] rfl)
          · skip
            refine W.eq (g2 := F0 m 33 ls [.ref (sZ 7 0)]) rfl ?_
            have hPc := hP.sub (ws' := (List.flatten [(wState (sZ 7) k (vz339 7) (nz340 7) (az341 7))])) [80, 81, 82, 83, 84, 85, 86, 87, 88, 89, 90] rfl
            refine vp_callSi (va_Run.run (va_runV (As := []) (rest := []) ⟨hx, hb, hml, hown, hts⟩ (c_X7_together l dC dI k (sZ 7) (vz339 7) (nz340 7) (az341 7) (hnz340 7)) (cwV 0 hts (gk_V (wl_mem 12 rfl) (wl_mem 13 rfl) (wl_mem 14 rfl) (wl_mem 15 rfl) (fun w h => List.mem_cons_of_mem _ (List.mem_append_right _ (List.mem_append_right _ (List.mem_append_right _ (List.mem_append_right _ (List.mem_append_right _ (List.mem_append_left _ h))))))) wkg_c_X7_together) rfl rfl rfl (by decide +kernel) ⟨Nat.le_of_ble_eq_true rfl, Nat.le_of_ble_eq_true rfl⟩) ⟨fun a U g mk q => by obtain ⟨q0, qP, qK⟩ := q; exact ⟨q0, qP, va_K.moved (u := U) (U := U.calling g mk a) (Vm.Alike.refl U.vm) qK⟩, va_recv hK hPc (ci := 7) (q0 := 0) rfl rfl, fun U hU hW => ⟨rfl, by rw [hU]; exact hPc, va_K.moved hW.alike hK⟩⟩ rfl rfl hl.1 rfl (lv_room (Nat.le_of_ble_eq_true rfl)) dX11_law_33 ⟨Nat.le_of_ble_eq_true rfl, Nat.le_of_ble_eq_true rfl⟩)) (fun rz597 gz596 => ?_)
            clear hPc
            refine lv_istore (lv' := [(4, .int rz597), (0, .ref (qX 0)), (1, .int xz324), (2, .int xz325), (3, .int xz326)]) hx hb dX11_law_36 hl (by decide) rfl (fun ls hl => ?_)
            refine lv_iload_n hx hb dX11_law_38 rfl (lv_at hl 4 rfl) ?_
            have ct48_kz609 : ∀ (H : Heap) (locs : List Loc) (ls : Array Slot), va_P (dC, dI) vwCl (List.flatten [(wPlan qP k vz336 az337 ez338), (wState (sZ 0) k (vz339 0) (nz340 0) (az341 0)), (wState (sZ 1) k (vz339 1) (nz340 1) (az341 1)), (wState (sZ 2) k (vz339 2) (nz340 2) (az341 2)), (wState (sZ 3) k (vz339 3) (nz340 3) (az341 3)), (wState (sZ 4) k (vz339 4) (nz340 4) (az341 4)), (wState (sZ 5) k (vz339 5) (nz340 5) (az341 5)), (wState (sZ 6) k (vz339 6) (nz340 6) (az341 6)), (wState (sZ 7) k (vz339 7) (nz340 7) (az341 7))] ++ List.flatten [(wSag qX k tapeX (qV 0) actsX (qN 0) (qP 0) storyX (qZ 0) orderSearchX routeSearchX setSearchX probeX slot0X slot1X slot2X slot3X image0X image1X image2X aX), (wValley qV k vV bV cV wV aV eV), (wPlan qN k vN aN eN), (wStoO qZ k (qV 0) (qP 0) (sZ 0 0) (sZ 1 0) (sZ 2 0) (sZ 3 0) (sZ 4 0) (sZ 5 0) (sZ 6 0) (sZ 7 0))]) H → va_D A (List.flatten [(wPlan qP k vz336 az337 ez338), (wState (sZ 0) k (vz339 0) (nz340 0) (az341 0)), (wState (sZ 1) k (vz339 1) (nz340 1) (az341 1)), (wState (sZ 2) k (vz339 2) (nz340 2) (az341 2)), (wState (sZ 3) k (vz339 3) (nz340 3) (az341 3)), (wState (sZ 4) k (vz339 4) (nz340 4) (az341 4)), (wState (sZ 5) k (vz339 5) (nz340 5) (az341 5)), (wState (sZ 6) k (vz339 6) (nz340 6) (az341 6)), (wState (sZ 7) k (vz339 7) (nz340 7) (az341 7))] ++ List.flatten [(wSag qX k tapeX (qV 0) actsX (qN 0) (qP 0) storyX (qZ 0) orderSearchX routeSearchX setSearchX probeX slot0X slot1X slot2X slot3X image0X image1X image2X aX), (wValley qV k vV bV cV wV aV eV), (wPlan qN k vN aN eN), (wStoO qZ k (qV 0) (qP 0) (sZ 0 0) (sZ 1 0) (sZ 2 0) (sZ 3 0) (sZ 4 0) (sZ 5 0) (sZ 6 0) (sZ 7 0))]) → va_S A s.heap H locs → lv_has ls 5 [(0, .ref (qX 0)), (3, .int xz326), (4, .int rz597)] → W p l e (headSpec wk_c_X11_law ({ frames := 5, cells := 0, slots := 0, locals := 173 })).room s m ([.ref (qX 0)] : List Value).toArray below meth c H locs 0 0 Q (F0 m 48 ls []) := by
              intro H locs ls  hP hD hS hl
              refine lv_iload hx hb dX11_law_48 (lv_at hl 2 rfl) ?_
              refine lv_istore_n (lv' := [(2, .int rz597), (0, .ref (qX 0)), (3, .int xz326), (4, .int rz597)]) hx hb dX11_law_50 rfl hl (by decide) rfl (fun ls hl => ?_)
              refine lv_iload_n hx hb dX11_law_51 rfl (lv_at hl 2 rfl) ?_
              refine lv_istore_n (lv' := [(1, .int xz326), (2, .int rz597), (0, .ref (qX 0)), (3, .int xz326), (4, .int rz597)]) hx hb dX11_law_52 rfl hl (by decide) rfl (fun ls hl => ?_)
              obtain ⟨xz610, exz610⟩ : ∃ y : Int32, y = xz326 + Int32.ofInt (1) := ⟨_, rfl⟩
              have fxz610 : xz610.toInt = xz326.toInt + (1) := by rw [exz610]; exact fb_addI (y := Int32.ofInt (1)) (by show -2147483648 ≤ xz326.toInt + (1); omega) (by show xz326.toInt + (1) < 2147483648; omega)
              refine lv_iinc (v := xz610) (lv' := [(3, .int xz610), (1, .int xz326), (2, .int rz597), (0, .ref (qX 0)), (4, .int rz597)]) hx hb dX11_law_53 hl (k := 3) rfl exz610.symm (by decide) rfl (fun ls hl => ?_)
              refine lv_goto (tgt := 16) hx hb dX11_law_56 (by decide) ?_
              exact ih16 H locs ls az337 ez338 vz336 az341 nz340 vz339 xz326 rz597 xz610 (by show (2147483647 - xz610.toInt).toNat < n9_16; omega) hez338 hnz340 (by show 0 ≤ xz610.toInt; omega) hP hD hS (lv_sub hl [3, 1, 2, 0] rfl)
            refine lv_if_eq (tgt := 48) hx hb dX11_law_39 (by decide) (fun cz621 => ?_) (fun cz621 => ?_)
            · skip
              have zz622 : xz326.toInt = (0 : Int) := zi_eq.mp cz621
              exact ct48_kz609 H locs ls   hP hD hS (lv_sub hl [1, 4, 0] rfl)
            · skip
              have zz623 : ¬ xz326.toInt = (0 : Int) := fun h9 => cz621 (zi_eq.mpr h9)
              refine lv_iload hx hb dX11_law_42 (lv_at hl 0 rfl) ?_
              refine lv_iload_n hx hb dX11_law_44 rfl (lv_at hl 3 rfl) ?_
              refine lv_icmp_ge (tgt := 53) hx hb dX11_law_45 (by decide) (fun cz624 => ?_) (fun cz624 => ?_)
              · skip
                have bz625 := fb_rng xz325
                have bz626 := fb_rng rz597
                have zz627 : xz325.toInt ≤ rz597.toInt := zi_le.mp cz624
                obtain ⟨xz628, exz628⟩ : ∃ y : Int32, y = xz326 + Int32.ofInt (1) := ⟨_, rfl⟩
                have fxz628 : xz628.toInt = xz326.toInt + (1) := by rw [exz628]; exact fb_addI (y := Int32.ofInt (1)) (by show -2147483648 ≤ xz326.toInt + (1); omega) (by show xz326.toInt + (1) < 2147483648; omega)
                refine lv_iinc (v := xz628) (lv' := [(3, .int xz628), (4, .int rz597), (0, .ref (qX 0)), (1, .int xz324), (2, .int xz325)]) hx hb dX11_law_53 hl (k := 4) rfl exz628.symm (by decide) rfl (fun ls hl => ?_)
                refine lv_goto (tgt := 16) hx hb dX11_law_56 (by decide) ?_
                exact ih16 H locs ls az337 ez338 vz336 az341 nz340 vz339 xz324 xz325 xz628 (by show (2147483647 - xz628.toInt).toNat < n9_16; omega) hez338 hnz340 (by show 0 ≤ xz628.toInt; omega) hP hD hS (lv_sub hl [2, 3, 4, 0] rfl)
              · skip
                have bz629 := fb_rng xz325
                have bz630 := fb_rng rz597
                have zz631 : ¬ xz325.toInt ≤ rz597.toInt := fun h9 => cz624 (zi_le.mpr h9)
                exact ct48_kz609 H locs ls   hP hD hS (lv_sub hl [1, 4, 0] rfl)
    exact lp16_kz327 _ s.heap [] ls aP eP vP aZ nZ vZ (0 : Int32) (0 : Int32) (0 : Int32) (Nat.lt_succ_self _) heP hnZ (by show 0 ≤ (0 : Int); omega) hP hD hS (lv_sub hl [3, 2, 1, 0] rfl)
  · skip
    have zz632 : ¬ rz2.toInt = (0 : Int) := fun h9 => cz4 (zi_eq.mpr h9)
    refine lv_bipush (v := (-2)) hx hb dX11_law_7 (by decide) ?_
    rw [hQ]
    exact W.iret (v := (-2 : Int32)) hx hb hr (fun t ht hW => ⟨⟨(-2 : Int32), (), rfl, trivial, vP, aP, eP, vZ, nZ, aZ, heP, hnZ, by rw [ht]; exact hP⟩, hS.F ht⟩) hS.2.2 dX11_law_9
def wk_c_X11_share : List Cond := .code yX11_share cX11_share 9 (some .int) :: ([.fieldLink RX11 19 "SagMemory" "told" "LSagMemory$Valley;", .methodLink RX11 141 yX10_hasCart, .instanceMethod yX10_hasCart, .selects RX10 yX10_hasCart yX10_hasCart, .initialized RX10, .fieldLink RX11 177 "SagMemory$Valley" "carts" "I", .methodLink RX11 307 yJ6_bitCount_0f7a4, .static yJ6_bitCount_0f7a4, .initialized RJ6, .methodLink RX11 312 yX11_factorial, .static yX11_factorial, .initialized RX11, .methodLink RX11 316 yX11_sagOfSet, .instanceMethod yX11_sagOfSet, .selects RX11 yX11_sagOfSet yX11_sagOfSet, .methodLink RX11 319 yX11_lowestTerm, .static yX11_lowestTerm] ++ (wsX110 ++ (wk_c_X10_hasCart ++ (wsX100 ++ (wk_c_J6_bitCount_0f7a4 ++ (wk_c_X11_factorial ++ (wk_c_X11_sagOfSet ++ (wk_c_X11_lowestTerm ++ []))))))))
theorem wkg_c_X11_share : wk_c_X11_share.all goodWord = true := by decide +kernel
set_option maxHeartbeats 4000000 in
set_option maxRecDepth 100000 in
theorem c_X11_share (l : Launch) (dC : Nat → ClassId) (dI : Nat → Nat → Nat) (k : Nat → ClassId) (sz : Nat) (qX : Nat → Nat) (tapeX : Nat) (actsX : Nat) (storyX : Nat) (orderSearchX : Nat) (routeSearchX : Nat) (setSearchX : Nat) (probeX : Nat) (slot0X : Nat) (slot1X : Nat) (slot2X : Nat) (slot3X : Nat) (image0X : Nat) (image1X : Nat) (image2X : Nat) (aX : Nat → Nat → Int32) (qV : Nat → Nat) (vV : Nat → Int32) (bV : Nat → Int32) (cV : Nat → Int32) (wV : Nat → Int32) (aV : Nat → Nat → Int32) (eV : Nat → Nat → Int32) (qN : Nat → Nat) (vN : Nat → Int32) (aN : Nat → Nat → Int32) (eN : Nat → Nat → Int32) (qP : Nat → Nat) (vP : Nat → Int32) (aP : Nat → Nat → Int32) (eP : Nat → Nat → Int32) (qZ : Nat → Nat) (sZ : Nat → Nat → Nat) (vZ : Nat → Nat → Int32) (nZ : Nat → Nat → Int32) (aZ : Nat → Nat → Nat → Int32) (p1 : Int32) (p2 : Int32) (hbV : Rg 0 3 bV) (hcV : Rg 0 7 cV) (hwV : Rg 0 5 wV) (heV : RgA 0 99 eV) (heN : RgA 0 99 eN) (heP : RgA 0 99 eP) (hnZ : ∀ t9, Rg 0 8 (nZ t9)) : Met l yX11_share wk_c_X11_share ({ frames := 5, cells := 0, slots := 0, locals := 174 }) (va_Pc [.ref (qX 0), .int p1, .int p2] (fun U => U.heap.size = sz ∧ va_P (dC, dI) vwCl (List.flatten [(wPlan qP k vP aP eP), (wState (sZ 0) k (vZ 0) (nZ 0) (aZ 0)), (wState (sZ 1) k (vZ 1) (nZ 1) (aZ 1)), (wState (sZ 2) k (vZ 2) (nZ 2) (aZ 2)), (wState (sZ 3) k (vZ 3) (nZ 3) (aZ 3)), (wState (sZ 4) k (vZ 4) (nZ 4) (aZ 4)), (wState (sZ 5) k (vZ 5) (nZ 5) (aZ 5)), (wState (sZ 6) k (vZ 6) (nZ 6) (aZ 6)), (wState (sZ 7) k (vZ 7) (nZ 7) (aZ 7))] ++ List.flatten [(wSag qX k tapeX (qV 0) actsX (qN 0) (qP 0) storyX (qZ 0) orderSearchX routeSearchX setSearchX probeX slot0X slot1X slot2X slot3X image0X image1X image2X aX), (wValley qV k vV bV cV wV aV eV), (wPlan qN k vN aN eN), (wStoO qZ k (qV 0) (qP 0) (sZ 0 0) (sZ 1 0) (sZ 2 0) (sZ 3 0) (sZ 4 0) (sZ 5 0) (sZ 6 0) (sZ 7 0))]) U.heap ∧ va_K (dC, dI) vwCl (tK k) U ∧ va_D (fun _ => True) (List.flatten [(wPlan qP k vP aP eP), (wState (sZ 0) k (vZ 0) (nZ 0) (aZ 0)), (wState (sZ 1) k (vZ 1) (nZ 1) (aZ 1)), (wState (sZ 2) k (vZ 2) (nZ 2) (aZ 2)), (wState (sZ 3) k (vZ 3) (nZ 3) (aZ 3)), (wState (sZ 4) k (vZ 4) (nZ 4) (aZ 4)), (wState (sZ 5) k (vZ 5) (nZ 5) (aZ 5)), (wState (sZ 6) k (vZ 6) (nZ 6) (aZ 6)), (wState (sZ 7) k (vZ 7) (nZ 7) (aZ 7))] ++ List.flatten [(wSag qX k tapeX (qV 0) actsX (qN 0) (qP 0) storyX (qZ 0) orderSearchX routeSearchX setSearchX probeX slot0X slot1X slot2X slot3X image0X image1X image2X aX), (wValley qV k vV bV cV wV aV eV), (wPlan qN k vN aN eN), (wStoO qZ k (qV 0) (qP 0) (sZ 0 0) (sZ 1 0) (sZ 2 0) (sZ 3 0) (sZ 4 0) (sZ 5 0) (sZ 6 0) (sZ 7 0))]))) (va_Qi (fun (r : Int32) (_ : Unit) => True) (fun (_ : Unit) (t : State) => ∃ (vP' : Nat → Int32) (aP' : Nat → Nat → Int32) (eP' : Nat → Nat → Int32) (vZ' : Nat → Nat → Int32) (nZ' : Nat → Nat → Int32) (aZ' : Nat → Nat → Nat → Int32), RgA 0 99 eP' ∧ (∀ t9, Rg 0 8 (nZ' t9)) ∧ va_P (dC, dI) vwCl (List.flatten [(wPlan qP k vP' aP' eP'), (wState (sZ 0) k (vZ' 0) (nZ' 0) (aZ' 0)), (wState (sZ 1) k (vZ' 1) (nZ' 1) (aZ' 1)), (wState (sZ 2) k (vZ' 2) (nZ' 2) (aZ' 2)), (wState (sZ 3) k (vZ' 3) (nZ' 3) (aZ' 3)), (wState (sZ 4) k (vZ' 4) (nZ' 4) (aZ' 4)), (wState (sZ 5) k (vZ' 5) (nZ' 5) (aZ' 5)), (wState (sZ 6) k (vZ' 6) (nZ' 6) (aZ' 6)), (wState (sZ 7) k (vZ' 7) (nZ' 7) (aZ' 7))] ++ List.flatten [(wSag qX k tapeX (qV 0) actsX (qN 0) (qP 0) storyX (qZ 0) orderSearchX routeSearchX setSearchX probeX slot0X slot1X slot2X slot3X image0X image1X image2X aX), (wValley qV k vV bV cV wV aV eV), (wPlan qN k vN aN eN), (wStoO qZ k (qV 0) (qP 0) (sZ 0 0) (sZ 1 0) (sZ 2 0) (sZ 3 0) (sZ 4 0) (sZ 5 0) (sZ 6 0) (sZ 7 0))]) t.heap) (va_A (List.flatten [(wPlan qP k vP aP eP), (wState (sZ 0) k (vZ 0) (nZ 0) (aZ 0)), (wState (sZ 1) k (vZ 1) (nZ 1) (aZ 1)), (wState (sZ 2) k (vZ 2) (nZ 2) (aZ 2)), (wState (sZ 3) k (vZ 3) (nZ 3) (aZ 3)), (wState (sZ 4) k (vZ 4) (nZ 4) (aZ 4)), (wState (sZ 5) k (vZ 5) (nZ 5) (aZ 5)), (wState (sZ 6) k (vZ 6) (nZ 6) (aZ 6)), (wState (sZ 7) k (vZ 7) (nZ 7) (aZ 7))] ++ List.flatten [(wSag qX k tapeX (qV 0) actsX (qN 0) (qP 0) storyX (qZ 0) orderSearchX routeSearchX setSearchX probeX slot0X slot1X slot2X slot3X image0X image1X image2X aX), (wValley qV k vV bV cV wV aV eV), (wPlan qN k vN aN eN), (wStoO qZ k (qV 0) (qP 0) (sZ 0 0) (sZ 1 0) (sZ 2 0) (sZ 3 0) (sZ 4 0) (sZ 5 0) (sZ 6 0) (sZ 7 0))]) sz)) 0 0 (va_A (List.flatten [(wPlan qP k vP aP eP), (wState (sZ 0) k (vZ 0) (nZ 0) (aZ 0)), (wState (sZ 1) k (vZ 1) (nZ 1) (aZ 1)), (wState (sZ 2) k (vZ 2) (nZ 2) (aZ 2)), (wState (sZ 3) k (vZ 3) (nZ 3) (aZ 3)), (wState (sZ 4) k (vZ 4) (nZ 4) (aZ 4)), (wState (sZ 5) k (vZ 5) (nZ 5) (aZ 5)), (wState (sZ 6) k (vZ 6) (nZ 6) (aZ 6)), (wState (sZ 7) k (vZ 7) (nZ 7) (aZ 7))] ++ List.flatten [(wSag qX k tapeX (qV 0) actsX (qN 0) (qP 0) storyX (qZ 0) orderSearchX routeSearchX setSearchX probeX slot0X slot1X slot2X slot3X image0X image1X image2X aX), (wValley qV k vV bV cV wV aV eV), (wPlan qN k vN aN eN), (wStoO qZ k (qV 0) (qP 0) (sZ 0 0) (sZ 1 0) (sZ 2 0) (sZ 3 0) (sZ 4 0) (sZ 5 0) (sZ 6 0) (sZ 7 0))]) sz) := by
  refine Met.ofW (cc := cX11_share) (maxL := 9) (ret := (some .int)) (by decide) rfl ?_
  intro p e s m args below meth c s₁ B hml hv
  obtain ⟨rfl, hsz, hP, hK, hD0⟩ := hv
  have hx := B.exec
  have hb := B.bytes
  have hr := B.returns
  have hts := atoms_spec (ws := wk_c_X11_share) B.pre
  have hown : s.vm.findClass RX11 = some m.cls := findClass_of_methodNamed B.named
  have hlocks := B.notSynchronized
  subst hsz
  have hD := hD0.self (sz := s.heap.size)
  generalize hAe : va_A (List.flatten [(wPlan qP k vP aP eP), (wState (sZ 0) k (vZ 0) (nZ 0) (aZ 0)), (wState (sZ 1) k (vZ 1) (nZ 1) (aZ 1)), (wState (sZ 2) k (vZ 2) (nZ 2) (aZ 2)), (wState (sZ 3) k (vZ 3) (nZ 3) (aZ 3)), (wState (sZ 4) k (vZ 4) (nZ 4) (aZ 4)), (wState (sZ 5) k (vZ 5) (nZ 5) (aZ 5)), (wState (sZ 6) k (vZ 6) (nZ 6) (aZ 6)), (wState (sZ 7) k (vZ 7) (nZ 7) (aZ 7))] ++ List.flatten [(wSag qX k tapeX (qV 0) actsX (qN 0) (qP 0) storyX (qZ 0) orderSearchX routeSearchX setSearchX probeX slot0X slot1X slot2X slot3X image0X image1X image2X aX), (wValley qV k vV bV cV wV aV eV), (wPlan qN k vN aN eN), (wStoO qZ k (qV 0) (qP 0) (sZ 0 0) (sZ 1 0) (sZ 2 0) (sZ 3 0) (sZ 4 0) (sZ 5 0) (sZ 6 0) (sZ 7 0))]) s.heap.size = A at hD ⊢
  have hA : ∀ q : Nat, s.heap.size ≤ q → A q := fun q h => by rw [← hAe]; exact Or.inr h
  have hS : va_S A s.heap s.heap [] := va_S.rf
  have hP : va_P (dC, dI) vwCl (List.flatten [(wPlan qP k vP aP eP), (wState (sZ 0) k (vZ 0) (nZ 0) (aZ 0)), (wState (sZ 1) k (vZ 1) (nZ 1) (aZ 1)), (wState (sZ 2) k (vZ 2) (nZ 2) (aZ 2)), (wState (sZ 3) k (vZ 3) (nZ 3) (aZ 3)), (wState (sZ 4) k (vZ 4) (nZ 4) (aZ 4)), (wState (sZ 5) k (vZ 5) (nZ 5) (aZ 5)), (wState (sZ 6) k (vZ 6) (nZ 6) (aZ 6)), (wState (sZ 7) k (vZ 7) (nZ 7) (aZ 7))] ++ List.flatten [(wSag qX k tapeX (qV 0) actsX (qN 0) (qP 0) storyX (qZ 0) orderSearchX routeSearchX setSearchX probeX slot0X slot1X slot2X slot3X image0X image1X image2X aX), (wValley qV k vV bV cV wV aV eV), (wPlan qN k vN aN eN), (wStoO qZ k (qV 0) (qP 0) (sZ 0 0) (sZ 1 0) (sZ 2 0) (sZ 3 0) (sZ 4 0) (sZ 5 0) (sZ 6 0) (sZ 7 0))]) s.heap := hP
  have hl := lv_entry ([.ref (qX 0), .int p1, .int p2]) (n := 9) (Nat.le_of_ble_eq_true rfl)
  rw [lg_entry_eq]
  generalize (lg_sl ([.ref (qX 0), .int p1, .int p2]) ++ List.replicate (9 - (lg_sl ([.ref (qX 0), .int p1, .int p2])).length) Slot.unset).toArray = ls at hl ⊢
  have hl : lv_has ls 9 [(0, .ref (qX 0)), (1, .int p1), (2, .int p2)] := hl
  refine w_gen (fun Q hQ => ?_)
  refine lv_aload_n hx hb dX11_share_0 rfl (lv_at hl 0 rfl) ?_
  refine va_get (D := (dC, dI)) (ci := 11) (v := .ref (qV 0)) (C := RX11) (T := TX11) (N := 15) hx hb hts (fun w h => List.mem_cons_of_mem _ (List.mem_append_right _ (List.mem_append_left _ h))) hown hK hP 91 rfl rfl 1 (by decide) (hts (.fieldLink RX11 19 "SagMemory" "told" "LSagMemory$Valley;") (wl_mem 0 rfl)) (fun _ h9 => h9) rfl dX11_share_1 ?_
  refine lv_iload_n hx hb dX11_share_4 rfl (lv_at hl 1 rfl) ?_
  have hPc := hP.sub (ws' := (List.flatten [(wValley qV k vV bV cV wV aV eV)])) [96, 97, 98, 99, 100, 101, 102, 103] rfl
  refine vp_callSi (va_Run.run (va_runV (As := [.int p1]) (rest := []) ⟨hx, hb, hml, hown, hts⟩ (c_X10_hasCart l dC dI k qV vV bV cV wV aV eV p1 hbV hcV hwV heV) (cwV 1 hts (gk_V (wl_mem 1 rfl) (wl_mem 2 rfl) (wl_mem 3 rfl) (wl_mem 4 rfl) (fun w h => List.mem_cons_of_mem _ (List.mem_append_right _ (List.mem_append_right _ (List.mem_append_left _ h)))) wkg_c_X10_hasCart) rfl rfl rfl (by decide +kernel) ⟨Nat.le_of_ble_eq_true rfl, Nat.le_of_ble_eq_true rfl⟩) ⟨fun a U g mk q => by obtain ⟨q0, qP, qK⟩ := q; exact ⟨q0, qP, va_K.moved (u := U) (U := U.calling g mk a) (Vm.Alike.refl U.vm) qK⟩, va_recv hK hPc (ci := 10) (q0 := 0) rfl rfl, fun U hU hW => ⟨rfl, by rw [hU]; exact hPc, va_K.moved hW.alike hK⟩⟩ rfl rfl hl.1 rfl (lv_room (Nat.le_of_ble_eq_true rfl)) dX11_share_5 ⟨Nat.le_of_ble_eq_true rfl, Nat.le_of_ble_eq_true rfl⟩)) (fun rz2 gz1 => ?_)
  clear hPc
  rcases gz1 with ⟨er, cz3⟩ | ⟨er, cz4, cz5⟩ | ⟨er, cz6, cz7⟩
  · obtain rfl := er.symm
    have bz8 := fb_rng p1
    have zz9 : p1.toInt < (0 : Int) := zi_lt.mp cz3
    refine lv_if_eq (tgt := 20) hx hb dX11_share_8 (by decide) (fun cz10 => ?_) (fun cz10 => ?_)
    · skip
      refine lv_bipush (v := (-2)) hx hb dX11_share_20 (by decide) ?_
      rw [hQ]
      exact W.iret (v := (-2 : Int32)) hx hb hr (fun t ht hW => ⟨⟨(-2 : Int32), (), rfl, trivial, vP, aP, eP, vZ, nZ, aZ, heP, hnZ, by rw [ht]; exact hP⟩, hS.F ht⟩) hS.2.2 dX11_share_22
    · skip
      exact absurd cz10 (by decide)
  · obtain rfl := er.symm
    have bz11 := fb_rng p1
    have zz12 : ¬ p1.toInt < (0 : Int) := fun h9 => cz4 (zi_lt.mpr h9)
    have bz13 := hcV 0
    have zz14 : (cV 0).toInt ≤ p1.toInt := zi_le.mp cz5
    refine lv_if_eq (tgt := 20) hx hb dX11_share_8 (by decide) (fun cz15 => ?_) (fun cz15 => ?_)
    · skip
      refine lv_bipush (v := (-2)) hx hb dX11_share_20 (by decide) ?_
      rw [hQ]
      exact W.iret (v := (-2 : Int32)) hx hb hr (fun t ht hW => ⟨⟨(-2 : Int32), (), rfl, trivial, vP, aP, eP, vZ, nZ, aZ, heP, hnZ, by rw [ht]; exact hP⟩, hS.F ht⟩) hS.2.2 dX11_share_22
    · skip
      exact absurd cz15 (by decide)
  · obtain rfl := er.symm
    have bz16 := fb_rng p1
    have zz17 : ¬ p1.toInt < (0 : Int) := fun h9 => cz6 (zi_lt.mpr h9)
    have bz18 := hcV 0
    have zz19 : ¬ (cV 0).toInt ≤ p1.toInt := fun h9 => cz7 (zi_le.mpr h9)
    refine lv_if_eq (tgt := 20) hx hb dX11_share_8 (by decide) (fun cz20 => ?_) (fun cz20 => ?_)
    · skip
      exact absurd cz20 (by decide)
    · skip
      refine lv_iload_n hx hb dX11_share_11 rfl (lv_at hl 2 rfl) ?_
      refine lv_if_lt (tgt := 20) hx hb dX11_share_12 (by decide) (fun cz21 => ?_) (fun cz21 => ?_)
      · skip
        have bz22 := fb_rng p2
        have zz23 : p2.toInt < (0 : Int) := zi_lt.mp cz21
        refine lv_bipush (v := (-2)) hx hb dX11_share_20 (by decide) ?_
        rw [hQ]
        exact W.iret (v := (-2 : Int32)) hx hb hr (fun t ht hW => ⟨⟨(-2 : Int32), (), rfl, trivial, vP, aP, eP, vZ, nZ, aZ, heP, hnZ, by rw [ht]; exact hP⟩, hS.F ht⟩) hS.2.2 dX11_share_22
      · skip
        have bz24 := fb_rng p2
        have zz25 : ¬ p2.toInt < (0 : Int) := fun h9 => cz21 (zi_lt.mpr h9)
        refine lv_iload_n hx hb dX11_share_15 rfl (lv_at hl 2 rfl) ?_
        refine lv_iconst (v := 1) hx hb dX11_share_16 (by decide) ?_
        refine lv_icmp_le (tgt := 23) hx hb dX11_share_17 (by decide) (fun cz26 => ?_) (fun cz26 => ?_)
        · skip
          have zz27 : p2.toInt ≤ (1 : Int) := zi_le.mp cz26
          refine lv_lconst (v := 0) hx hb dX11_share_23 (by decide) ?_
          refine lv_lstore_n (lv' := [(3, .long 0), (0, .ref (qX 0)), (1, .int p1), (2, .int p2)]) hx hb dX11_share_24 rfl hl (by decide) rfl (fun ls hl => ?_)
          refine lv_iconst (v := 0) hx hb dX11_share_25 (by decide) ?_
          refine lv_istore (lv' := [(5, .int 0), (3, .long 0), (0, .ref (qX 0)), (1, .int p1), (2, .int p2)]) hx hb dX11_share_26 hl (by decide) rfl (fun ls hl => ?_)
          have lp28_kz131 : ∀ (n9_28 : Nat) (H : Heap) (locs : List Loc) (ls : Array Slot) (az123 : Nat → Nat → Int32) (ez124 : Nat → Nat → Int32) (vz125 : Nat → Int32) (az126 : Nat → Nat → Nat → Int32) (nz127 : Nat → Nat → Int32) (vz128 : Nat → Nat → Int32) (xz129 : Int64) (xz130 : Int32), (2147483647 - xz130.toInt).toNat < n9_28 → RgA 0 99 ez124 → (∀ t9, Rg 0 8 (nz127 t9)) → 0 ≤ xz130.toInt → va_P (dC, dI) vwCl (List.flatten [(wPlan qP k vz125 az123 ez124), (wState (sZ 0) k (vz128 0) (nz127 0) (az126 0)), (wState (sZ 1) k (vz128 1) (nz127 1) (az126 1)), (wState (sZ 2) k (vz128 2) (nz127 2) (az126 2)), (wState (sZ 3) k (vz128 3) (nz127 3) (az126 3)), (wState (sZ 4) k (vz128 4) (nz127 4) (az126 4)), (wState (sZ 5) k (vz128 5) (nz127 5) (az126 5)), (wState (sZ 6) k (vz128 6) (nz127 6) (az126 6)), (wState (sZ 7) k (vz128 7) (nz127 7) (az126 7))] ++ List.flatten [(wSag qX k tapeX (qV 0) actsX (qN 0) (qP 0) storyX (qZ 0) orderSearchX routeSearchX setSearchX probeX slot0X slot1X slot2X slot3X image0X image1X image2X aX), (wValley qV k vV bV cV wV aV eV), (wPlan qN k vN aN eN), (wStoO qZ k (qV 0) (qP 0) (sZ 0 0) (sZ 1 0) (sZ 2 0) (sZ 3 0) (sZ 4 0) (sZ 5 0) (sZ 6 0) (sZ 7 0))]) H → va_D A (List.flatten [(wPlan qP k vz125 az123 ez124), (wState (sZ 0) k (vz128 0) (nz127 0) (az126 0)), (wState (sZ 1) k (vz128 1) (nz127 1) (az126 1)), (wState (sZ 2) k (vz128 2) (nz127 2) (az126 2)), (wState (sZ 3) k (vz128 3) (nz127 3) (az126 3)), (wState (sZ 4) k (vz128 4) (nz127 4) (az126 4)), (wState (sZ 5) k (vz128 5) (nz127 5) (az126 5)), (wState (sZ 6) k (vz128 6) (nz127 6) (az126 6)), (wState (sZ 7) k (vz128 7) (nz127 7) (az126 7))] ++ List.flatten [(wSag qX k tapeX (qV 0) actsX (qN 0) (qP 0) storyX (qZ 0) orderSearchX routeSearchX setSearchX probeX slot0X slot1X slot2X slot3X image0X image1X image2X aX), (wValley qV k vV bV cV wV aV eV), (wPlan qN k vN aN eN), (wStoO qZ k (qV 0) (qP 0) (sZ 0 0) (sZ 1 0) (sZ 2 0) (sZ 3 0) (sZ 4 0) (sZ 5 0) (sZ 6 0) (sZ 7 0))]) → va_S A s.heap H locs → lv_has ls 9 [(0, .ref (qX 0)), (1, .int p1), (2, .int p2), (3, .long xz129), (5, .int xz130)] → W p l e (headSpec wk_c_X11_share ({ frames := 5, cells := 0, slots := 0, locals := 174 })).room s m ([.ref (qX 0), .int p1, .int p2] : List Value).toArray below meth c H locs 0 0 Q (F0 m 28 ls []) := by
            intro n9_28
            induction n9_28 with
            | zero => intro H locs ls az123 ez124 vz125 az126 nz127 vz128 xz129 xz130 hm; exact absurd hm (Nat.not_lt_zero _)
            | succ n9_28 ih28 =>
              intro H locs ls az123 ez124 vz125 az126 nz127 vz128 xz129 xz130 hm28 hez124 hnz127 jz132 hP hD hS hl
              refine lv_iload hx hb dX11_share_28 (lv_at hl 4 rfl) ?_
              refine lv_iconst (v := 1) hx hb dX11_share_30 (by decide) ?_
              refine lv_aload_n hx hb dX11_share_31 rfl (lv_at hl 0 rfl) ?_
              refine va_get (D := (dC, dI)) (ci := 11) (v := .ref (qV 0)) (C := RX11) (T := TX11) (N := 15) hx hb hts (fun w h => List.mem_cons_of_mem _ (List.mem_append_right _ (List.mem_append_left _ h))) hown hK hP 91 rfl rfl 1 (by decide) (hts (.fieldLink RX11 19 "SagMemory" "told" "LSagMemory$Valley;") (wl_mem 0 rfl)) (fun _ h9 => h9) rfl dX11_share_32 ?_
              refine va_get (D := (dC, dI)) (ci := 10) (v := .int (cV 0)) (C := RX10) (T := TX10) (N := 16) hx hb hts (fun w h => List.mem_cons_of_mem _ (List.mem_append_right _ (List.mem_append_right _ (List.mem_append_right _ (List.mem_append_left _ h))))) hown hK hP 96 rfl rfl 12 (by decide) (hts (.fieldLink RX11 177 "SagMemory$Valley" "carts" "I") (wl_mem 5 rfl)) (fun _ h9 => h9) rfl dX11_share_35 ?_
              refine lv_ishl hx hb dX11_share_38 ?_
              refine lv_topi (fun xz133 exz133 => ?_)
              refine lv_icmp_ge (tgt := 111) hx hb dX11_share_39 (by decide) (fun cz134 => ?_) (fun cz134 => ?_)
              · skip
                have bz135 := fb_rng xz133
                have bz136 := fb_rng xz130
                have zz137 : xz133.toInt ≤ xz130.toInt := zi_le.mp cz134
                refine lv_lload_n hx hb dX11_share_111 rfl (lv_at hl 3 rfl) ?_
                refine lv_aload_n hx hb dX11_share_112 rfl (lv_at hl 0 rfl) ?_
                refine va_get (D := (dC, dI)) (ci := 11) (v := .ref (qV 0)) (C := RX11) (T := TX11) (N := 15) hx hb hts (fun w h => List.mem_cons_of_mem _ (List.mem_append_right _ (List.mem_append_left _ h))) hown hK hP 91 rfl rfl 1 (by decide) (hts (.fieldLink RX11 19 "SagMemory" "told" "LSagMemory$Valley;") (wl_mem 0 rfl)) (fun _ h9 => h9) rfl dX11_share_113 ?_
                refine va_get (D := (dC, dI)) (ci := 10) (v := .int (cV 0)) (C := RX10) (T := TX10) (N := 16) hx hb hts (fun w h => List.mem_cons_of_mem _ (List.mem_append_right _ (List.mem_append_right _ (List.mem_append_right _ (List.mem_append_left _ h))))) hown hK hP 96 rfl rfl 12 (by decide) (hts (.fieldLink RX11 177 "SagMemory$Valley" "carts" "I") (wl_mem 5 rfl)) (fun _ h9 => h9) rfl dX11_share_116 ?_
                have hPc : va_P (dC, dI) vwCl (List.flatten ([] : List va_W)) H := fun k q h => by simp at h
                refine vp_callSl (va_Run.run (va_runS (As := [.int (cV 0)]) (rest := [.long xz129]) ⟨hx, hb, hml, hown, hts⟩ (c_X11_factorial l dC dI k (cV 0) (by show (-1000) ≤ (cV 0).toInt ∧ (cV 0).toInt ≤ 1000; omega)) (va_cwS 1 hts (gk_S (wl_mem 9 rfl) (wl_mem 10 rfl) (wl_mem 11 rfl) (fun w h => List.mem_cons_of_mem _ (List.mem_append_right _ (List.mem_append_right _ (List.mem_append_right _ (List.mem_append_right _ (List.mem_append_right _ (List.mem_append_left _ h))))))) wkg_c_X11_factorial) rfl rfl rfl (by decide +kernel) ⟨Nat.le_of_ble_eq_true rfl, Nat.le_of_ble_eq_true rfl⟩) ⟨fun a U g mk q => by obtain ⟨q0, qP, qK⟩ := q; exact ⟨q0, qP, va_K.moved (u := U) (U := U.calling g mk a) (Vm.Alike.refl U.vm) qK⟩, fun U hU hW => ⟨rfl, by rw [hU]; exact hPc, va_K.moved hW.alike hK⟩⟩ rfl rfl hl.1 rfl (lv_room (Nat.le_of_ble_eq_true rfl)) dX11_share_119 ⟨Nat.le_of_ble_eq_true rfl, Nat.le_of_ble_eq_true rfl⟩)) (fun rz139 gz138 => ?_)
                clear hPc
                refine lv_iload_n hx hb dX11_share_122 rfl (lv_at hl 2 rfl) ?_
                have hPc : va_P (dC, dI) vwCl (List.flatten ([] : List va_W)) H := fun k q h => by simp at h
                refine vp_callSl (va_Run.run (va_runS (As := [.long xz129, .long rz139, .int p2]) (rest := []) ⟨hx, hb, hml, hown, hts⟩ (c_X11_lowestTerm l dC dI k xz129 rz139 p2) (va_cwS 3 hts (gk_S (wl_mem 15 rfl) (wl_mem 16 rfl) (wl_mem 11 rfl) (fun w h => List.mem_cons_of_mem _ (List.mem_append_right _ (List.mem_append_right _ (List.mem_append_right _ (List.mem_append_right _ (List.mem_append_right _ (List.mem_append_right _ (List.mem_append_right _ (List.mem_append_left _ h))))))))) wkg_c_X11_lowestTerm) rfl rfl rfl (by decide +kernel) ⟨Nat.le_of_ble_eq_true rfl, Nat.le_of_ble_eq_true rfl⟩) ⟨fun a U g mk q => by obtain ⟨q0, qP, qK⟩ := q; exact ⟨q0, qP, va_K.moved (u := U) (U := U.calling g mk a) (Vm.Alike.refl U.vm) qK⟩, fun U hU hW => ⟨rfl, by rw [hU]; exact hPc, va_K.moved hW.alike hK⟩⟩ rfl rfl hl.1 rfl (lv_room (Nat.le_of_ble_eq_true rfl)) dX11_share_123 ⟨Nat.le_of_ble_eq_true rfl, Nat.le_of_ble_eq_true rfl⟩)) (fun rz141 gz140 => ?_)
                clear hPc
                refine lv_l2i hx hb dX11_share_126 rfl ?_
                refine lv_topi (fun xz142 exz142 => ?_)
                rw [hQ]
                exact W.iret (v := xz142) hx hb hr (fun t ht hW => ⟨⟨xz142, (), rfl, trivial, vz125, az123, ez124, vz128, nz127, az126, hez124, hnz127, by rw [ht]; exact hP⟩, hS.F ht⟩) hS.2.2 dX11_share_127
              · skip
                have bz143 := fb_rng xz133
                have bz144 := fb_rng xz130
                have zz145 : ¬ xz133.toInt ≤ xz130.toInt := fun h9 => cz134 (zi_le.mpr h9)
                refine lv_iload hx hb dX11_share_42 (lv_at hl 4 rfl) ?_
                refine lv_iload_n hx hb dX11_share_44 rfl (lv_at hl 1 rfl) ?_
                refine lv_ishr hx hb dX11_share_45 ?_
                refine lv_topi (fun xz146 exz146 => ?_)
                refine lv_iconst (v := 1) hx hb dX11_share_46 (by decide) ?_
                refine lv_iand hx hb dX11_share_47 ?_
                refine lv_topi (fun xz147 exz147 => ?_)
                have bxz147 : 0 ≤ xz147.toInt ∧ xz147.toInt ≤ 1 := by rw [exz147]; exact zand _ 1 2 (by decide) (by decide) (by decide)
                have ct105_kz189 : ∀ (H : Heap) (locs : List Loc) (ls : Array Slot) (az182 : Nat → Nat → Int32) (ez183 : Nat → Nat → Int32) (vz184 : Nat → Int32) (az185 : Nat → Nat → Nat → Int32) (nz186 : Nat → Nat → Int32) (vz187 : Nat → Nat → Int32) (xz188 : Int64), RgA 0 99 ez183 → (∀ t9, Rg 0 8 (nz186 t9)) → va_P (dC, dI) vwCl (List.flatten [(wPlan qP k vz184 az182 ez183), (wState (sZ 0) k (vz187 0) (nz186 0) (az185 0)), (wState (sZ 1) k (vz187 1) (nz186 1) (az185 1)), (wState (sZ 2) k (vz187 2) (nz186 2) (az185 2)), (wState (sZ 3) k (vz187 3) (nz186 3) (az185 3)), (wState (sZ 4) k (vz187 4) (nz186 4) (az185 4)), (wState (sZ 5) k (vz187 5) (nz186 5) (az185 5)), (wState (sZ 6) k (vz187 6) (nz186 6) (az185 6)), (wState (sZ 7) k (vz187 7) (nz186 7) (az185 7))] ++ List.flatten [(wSag qX k tapeX (qV 0) actsX (qN 0) (qP 0) storyX (qZ 0) orderSearchX routeSearchX setSearchX probeX slot0X slot1X slot2X slot3X image0X image1X image2X aX), (wValley qV k vV bV cV wV aV eV), (wPlan qN k vN aN eN), (wStoO qZ k (qV 0) (qP 0) (sZ 0 0) (sZ 1 0) (sZ 2 0) (sZ 3 0) (sZ 4 0) (sZ 5 0) (sZ 6 0) (sZ 7 0))]) H → va_D A (List.flatten [(wPlan qP k vz184 az182 ez183), (wState (sZ 0) k (vz187 0) (nz186 0) (az185 0)), (wState (sZ 1) k (vz187 1) (nz186 1) (az185 1)), (wState (sZ 2) k (vz187 2) (nz186 2) (az185 2)), (wState (sZ 3) k (vz187 3) (nz186 3) (az185 3)), (wState (sZ 4) k (vz187 4) (nz186 4) (az185 4)), (wState (sZ 5) k (vz187 5) (nz186 5) (az185 5)), (wState (sZ 6) k (vz187 6) (nz186 6) (az185 6)), (wState (sZ 7) k (vz187 7) (nz186 7) (az185 7))] ++ List.flatten [(wSag qX k tapeX (qV 0) actsX (qN 0) (qP 0) storyX (qZ 0) orderSearchX routeSearchX setSearchX probeX slot0X slot1X slot2X slot3X image0X image1X image2X aX), (wValley qV k vV bV cV wV aV eV), (wPlan qN k vN aN eN), (wStoO qZ k (qV 0) (qP 0) (sZ 0 0) (sZ 1 0) (sZ 2 0) (sZ 3 0) (sZ 4 0) (sZ 5 0) (sZ 6 0) (sZ 7 0))]) → va_S A s.heap H locs → lv_has ls 9 [(0, .ref (qX 0)), (1, .int p1), (2, .int p2), (3, .long xz188), (5, .int xz130)] → W p l e (headSpec wk_c_X11_share ({ frames := 5, cells := 0, slots := 0, locals := 174 })).room s m ([.ref (qX 0), .int p1, .int p2] : List Value).toArray below meth c H locs 0 0 Q (F0 m 105 ls []) := by
                  intro H locs ls az182 ez183 vz184 az185 nz186 vz187 xz188 hez183 hnz186 hP hD hS hl
                  obtain ⟨xz190, exz190⟩ : ∃ y : Int32, y = xz130 + Int32.ofInt (1) := ⟨_, rfl⟩
                  have fxz190 : xz190.toInt = xz130.toInt + (1) := by rw [exz190]; exact fb_addI (y := Int32.ofInt (1)) (by show -2147483648 ≤ xz130.toInt + (1); omega) (by show xz130.toInt + (1) < 2147483648; omega)
                  refine lv_iinc (v := xz190) (lv' := [(5, .int xz190), (0, .ref (qX 0)), (1, .int p1), (2, .int p2), (3, .long xz188)]) hx hb dX11_share_105 hl (k := 4) rfl exz190.symm (by decide) rfl (fun ls hl => ?_)
                  refine lv_goto (tgt := 28) hx hb dX11_share_108 (by decide) ?_
                  exact ih28 H locs ls az182 ez183 vz184 az185 nz186 vz187 xz188 xz190 (by show (2147483647 - xz190.toInt).toNat < n9_28; omega) hez183 hnz186 (by show 0 ≤ xz190.toInt; omega) hP hD hS (lv_sub hl [1, 2, 3, 4, 0] rfl)
                refine lv_if_ne (tgt := 105) hx hb dX11_share_48 (by decide) (fun cz191 => ?_) (fun cz191 => ?_)
                · skip
                  have zz192 : ¬ xz147.toInt = (0 : Int) := fun h9 => cz191 (zi_eq.mpr h9)
                  exact ct105_kz189 H locs ls az123 ez124 vz125 az126 nz127 vz128 xz129  hez124 hnz127 hP hD hS (lv_sub hl [0, 1, 2, 3, 4] rfl)
                · skip
                  have zz193 : xz147.toInt = (0 : Int) := zi_eq.mp cz191
                  refine lv_iload hx hb dX11_share_51 (lv_at hl 4 rfl) ?_
                  have hPc : va_P (dC, dI) vwCl (List.flatten ([] : List va_W)) H := fun k q h => by simp at h
                  refine vp_callSi (va_Run.run (va_runS (As := [.int xz130]) (rest := []) ⟨hx, hb, hml, hown, hts⟩ (c_J6_bitCount_0f7a4 l dC dI k xz130) (va_cwS 1 hts (gk_S (wl_mem 6 rfl) (wl_mem 7 rfl) (wl_mem 8 rfl) (fun w h => List.mem_cons_of_mem _ (List.mem_append_right _ (List.mem_append_right _ (List.mem_append_right _ (List.mem_append_right _ (List.mem_append_left _ h)))))) wkg_c_J6_bitCount_0f7a4) rfl rfl rfl (by decide +kernel) ⟨Nat.le_of_ble_eq_true rfl, Nat.le_of_ble_eq_true rfl⟩) ⟨fun a U g mk q => by obtain ⟨q0, qP, qK⟩ := q; exact ⟨q0, qP, va_K.moved (u := U) (U := U.calling g mk a) (Vm.Alike.refl U.vm) qK⟩, fun U hU hW => ⟨rfl, by rw [hU]; exact hPc, va_K.moved hW.alike hK⟩⟩ rfl rfl hl.1 rfl (lv_room (Nat.le_of_ble_eq_true rfl)) dX11_share_53 ⟨Nat.le_of_ble_eq_true rfl, Nat.le_of_ble_eq_true rfl⟩)) (fun rz195 gz194 => ?_)
                  clear hPc
                  have pz196 := gz194
                  have pz196 : 0 ≤ rz195.toInt ∧ rz195.toInt ≤ 63 := pz196
                  refine lv_istore (lv' := [(6, .int rz195), (0, .ref (qX 0)), (1, .int p1), (2, .int p2), (3, .long xz129), (5, .int xz130)]) hx hb dX11_share_56 hl (by decide) rfl (fun ls hl => ?_)
                  refine lv_iload hx hb dX11_share_58 (lv_at hl 0 rfl) ?_
                  have hPc : va_P (dC, dI) vwCl (List.flatten ([] : List va_W)) H := fun k q h => by simp at h
                  refine vp_callSl (va_Run.run (va_runS (As := [.int rz195]) (rest := []) ⟨hx, hb, hml, hown, hts⟩ (c_X11_factorial l dC dI k rz195 (by show (-1000) ≤ rz195.toInt ∧ rz195.toInt ≤ 1000; omega)) (va_cwS 1 hts (gk_S (wl_mem 9 rfl) (wl_mem 10 rfl) (wl_mem 11 rfl) (fun w h => List.mem_cons_of_mem _ (List.mem_append_right _ (List.mem_append_right _ (List.mem_append_right _ (List.mem_append_right _ (List.mem_append_right _ (List.mem_append_left _ h))))))) wkg_c_X11_factorial) rfl rfl rfl (by decide +kernel) ⟨Nat.le_of_ble_eq_true rfl, Nat.le_of_ble_eq_true rfl⟩) ⟨fun a U g mk q => by obtain ⟨q0, qP, qK⟩ := q; exact ⟨q0, qP, va_K.moved (u := U) (U := U.calling g mk a) (Vm.Alike.refl U.vm) qK⟩, fun U hU hW => ⟨rfl, by rw [hU]; exact hPc, va_K.moved hW.alike hK⟩⟩ rfl rfl hl.1 rfl (lv_room (Nat.le_of_ble_eq_true rfl)) dX11_share_60 ⟨Nat.le_of_ble_eq_true rfl, Nat.le_of_ble_eq_true rfl⟩)) (fun rz198 gz197 => ?_)
                  clear hPc
                  refine lv_aload_n hx hb dX11_share_63 rfl (lv_at hl 1 rfl) ?_
                  refine va_get (D := (dC, dI)) (ci := 11) (v := .ref (qV 0)) (C := RX11) (T := TX11) (N := 15) hx hb hts (fun w h => List.mem_cons_of_mem _ (List.mem_append_right _ (List.mem_append_left _ h))) hown hK hP 91 rfl rfl 1 (by decide) (hts (.fieldLink RX11 19 "SagMemory" "told" "LSagMemory$Valley;") (wl_mem 0 rfl)) (fun _ h9 => h9) rfl dX11_share_64 ?_
                  refine va_get (D := (dC, dI)) (ci := 10) (v := .int (cV 0)) (C := RX10) (T := TX10) (N := 16) hx hb hts (fun w h => List.mem_cons_of_mem _ (List.mem_append_right _ (List.mem_append_right _ (List.mem_append_right _ (List.mem_append_left _ h))))) hown hK hP 96 rfl rfl 12 (by decide) (hts (.fieldLink RX11 177 "SagMemory$Valley" "carts" "I") (wl_mem 5 rfl)) (fun _ h9 => h9) rfl dX11_share_67 ?_
                  refine lv_iconst (v := 1) hx hb dX11_share_70 (by decide) ?_
                  refine lv_isub hx hb dX11_share_71 ?_
                  refine lv_topi (fun xz199 exz199 => ?_)
                  have fxz199 : xz199.toInt = (cV 0).toInt - (1 : Int) := by rw [exz199]; exact fb_subI (x := (cV 0)) (y := (1 : Int32)) (by show -2147483648 ≤ (cV 0).toInt - (1 : Int); omega) (by show (cV 0).toInt - (1 : Int) < 2147483648; omega)
                  refine lv_iload hx hb dX11_share_72 (lv_at hl 0 rfl) ?_
                  refine lv_isub hx hb dX11_share_74 ?_
                  refine lv_topi (fun xz200 exz200 => ?_)
                  have fxz200 : xz200.toInt = xz199.toInt - rz195.toInt := by rw [exz200]; exact fb_subI (x := xz199) (y := rz195) (by show -2147483648 ≤ xz199.toInt - rz195.toInt; omega) (by show xz199.toInt - rz195.toInt < 2147483648; omega)
                  have hPc : va_P (dC, dI) vwCl (List.flatten ([] : List va_W)) H := fun k q h => by simp at h
                  refine vp_callSl (va_Run.run (va_runS (As := [.int xz200]) (rest := [.long rz198]) ⟨hx, hb, hml, hown, hts⟩ (c_X11_factorial l dC dI k xz200 (by show (-1000) ≤ xz200.toInt ∧ xz200.toInt ≤ 1000; omega)) (va_cwS 1 hts (gk_S (wl_mem 9 rfl) (wl_mem 10 rfl) (wl_mem 11 rfl) (fun w h => List.mem_cons_of_mem _ (List.mem_append_right _ (List.mem_append_right _ (List.mem_append_right _ (List.mem_append_right _ (List.mem_append_right _ (List.mem_append_left _ h))))))) wkg_c_X11_factorial) rfl rfl rfl (by decide +kernel) ⟨Nat.le_of_ble_eq_true rfl, Nat.le_of_ble_eq_true rfl⟩) ⟨fun a U g mk q => by obtain ⟨q0, qP, qK⟩ := q; exact ⟨q0, qP, va_K.moved (u := U) (U := U.calling g mk a) (Vm.Alike.refl U.vm) qK⟩, fun U hU hW => ⟨rfl, by rw [hU]; exact hPc, va_K.moved hW.alike hK⟩⟩ rfl rfl hl.1 rfl (lv_room (Nat.le_of_ble_eq_true rfl)) dX11_share_75 ⟨Nat.le_of_ble_eq_true rfl, Nat.le_of_ble_eq_true rfl⟩)) (fun rz202 gz201 => ?_)
                  clear hPc
                  refine lv_lmul hx hb dX11_share_78 ?_
                  refine lv_topl (fun xz203 exz203 => ?_)
                  refine lv_lstore (lv' := [(7, .long xz203), (6, .int rz195), (0, .ref (qX 0)), (1, .int p1), (2, .int p2), (3, .long xz129), (5, .int xz130)]) hx hb dX11_share_79 hl (by decide) rfl (fun ls hl => ?_)
                  refine lv_lload_n hx hb dX11_share_81 rfl (lv_at hl 5 rfl) ?_
                  refine lv_lload hx hb dX11_share_82 (lv_at hl 0 rfl) ?_
                  refine lv_aload_n hx hb dX11_share_84 rfl (lv_at hl 2 rfl) ?_
                  refine lv_iload hx hb dX11_share_85 (lv_at hl 6 rfl) ?_
                  refine lv_iconst (v := 1) hx hb dX11_share_87 (by decide) ?_
                  refine lv_iload_n hx hb dX11_share_88 rfl (lv_at hl 3 rfl) ?_
                  refine lv_ishl hx hb dX11_share_89 ?_
                  refine lv_topi (fun xz204 exz204 => ?_)
                  refine lv_ior hx hb dX11_share_90 ?_
                  refine lv_topi (fun xz205 exz205 => ?_)
                  have hPc := hP
                  have hDc : va_D A (List.flatten [(wPlan qP k vz125 az123 ez124), (wState (sZ 0) k (vz128 0) (nz127 0) (az126 0)), (wState (sZ 1) k (vz128 1) (nz127 1) (az126 1)), (wState (sZ 2) k (vz128 2) (nz127 2) (az126 2)), (wState (sZ 3) k (vz128 3) (nz127 3) (az126 3)), (wState (sZ 4) k (vz128 4) (nz127 4) (az126 4)), (wState (sZ 5) k (vz128 5) (nz127 5) (az126 5)), (wState (sZ 6) k (vz128 6) (nz127 6) (az126 6)), (wState (sZ 7) k (vz128 7) (nz127 7) (az126 7))] ++ List.flatten [(wSag qX k tapeX (qV 0) actsX (qN 0) (qP 0) storyX (qZ 0) orderSearchX routeSearchX setSearchX probeX slot0X slot1X slot2X slot3X image0X image1X image2X aX), (wValley qV k vV bV cV wV aV eV), (wPlan qN k vN aN eN), (wStoO qZ k (qV 0) (qP 0) (sZ 0 0) (sZ 1 0) (sZ 2 0) (sZ 3 0) (sZ 4 0) (sZ 5 0) (sZ 6 0) (sZ 7 0))]) := wc_subD hD [0, 1, 2, 3, 4, 5, 6, 7, 8, 9, 10, 11, 12] rfl rfl
                  have hFc := wc_free hDc hS hA
                  refine va_calli (va_runV (As := [.int xz205]) (rest := [.long xz203, .long xz129]) ⟨hx, hb, hml, hown, hts⟩ (c_X11_sagOfSet l dC dI k H.size qX tapeX actsX storyX orderSearchX routeSearchX setSearchX probeX slot0X slot1X slot2X slot3X image0X image1X image2X aX qV vV bV cV wV aV eV qN vN aN eN qP vz125 az123 ez124 qZ sZ vz128 nz127 az126 xz205 hbV hcV hwV heV heN hez124 hnz127) (cwV 1 hts (gk_V (wl_mem 12 rfl) (wl_mem 13 rfl) (wl_mem 14 rfl) (wl_mem 11 rfl) (fun w h => List.mem_cons_of_mem _ (List.mem_append_right _ (List.mem_append_right _ (List.mem_append_right _ (List.mem_append_right _ (List.mem_append_right _ (List.mem_append_right _ (List.mem_append_left _ h)))))))) wkg_c_X11_sagOfSet) rfl rfl rfl (by decide +kernel) ⟨Nat.le_of_ble_eq_true rfl, Nat.le_of_ble_eq_true rfl⟩) ⟨fun a U g mk q => by obtain ⟨q0, q1, qP, qK, qD⟩ := q; exact ⟨q0, q1, qP, va_K.moved (u := U) (U := U.calling g mk a) (Vm.Alike.refl U.vm) qK, qD⟩, va_recv hK hPc (ci := 11) (q0 := 91) rfl rfl, fun U hU hW => ⟨rfl, by rw [hU], by rw [hU]; exact hPc, va_K.moved hW.alike hK, hDc.weaken (fun _ _ _ _ => trivial)⟩⟩ rfl rfl hl.1 rfl (lv_room (Nat.le_of_ble_eq_true rfl)) dX11_share_91 ⟨Nat.le_of_ble_eq_true rfl, Nat.le_of_ble_eq_true rfl⟩) hS (fun q _ h => hFc q h) hFc (fun rz207 u t H1 locs ht hvm gz206 hB hz1 hk1 hS => ?_)
                  obtain ⟨vz208, az209, ez210, vz211, nz212, az213, hez210, hnz212, hP1⟩ := hB
                  rw [ht] at hP1
                  obtain ⟨hP, hD⟩ := w_callR hP hD hk1 hP1 [0, 1, 2, 3, 4, 5, 6, 7, 8] rfl rfl (wk_memC [9, 10, 11, 12] rfl) rfl [some 0, some 1, some 2, some 3, some 4, some 5, some 6, some 7, some 8] rfl rfl
                  clear hPc hDc hFc hk1 hP1
                  generalize H1 = H at hP hS ⊢
                  have hP : va_P (dC, dI) vwCl (List.flatten [(wPlan qP k vz208 az209 ez210), (wState (sZ 0) k (vz211 0) (nz212 0) (az213 0)), (wState (sZ 1) k (vz211 1) (nz212 1) (az213 1)), (wState (sZ 2) k (vz211 2) (nz212 2) (az213 2)), (wState (sZ 3) k (vz211 3) (nz212 3) (az213 3)), (wState (sZ 4) k (vz211 4) (nz212 4) (az213 4)), (wState (sZ 5) k (vz211 5) (nz212 5) (az213 5)), (wState (sZ 6) k (vz211 6) (nz212 6) (az213 6)), (wState (sZ 7) k (vz211 7) (nz212 7) (az213 7))] ++ List.flatten [(wSag qX k tapeX (qV 0) actsX (qN 0) (qP 0) storyX (qZ 0) orderSearchX routeSearchX setSearchX probeX slot0X slot1X slot2X slot3X image0X image1X image2X aX), (wValley qV k vV bV cV wV aV eV), (wPlan qN k vN aN eN), (wStoO qZ k (qV 0) (qP 0) (sZ 0 0) (sZ 1 0) (sZ 2 0) (sZ 3 0) (sZ 4 0) (sZ 5 0) (sZ 6 0) (sZ 7 0))]) H := hP
                  have hD : va_D A (List.flatten [(wPlan qP k vz208 az209 ez210), (wState (sZ 0) k (vz211 0) (nz212 0) (az213 0)), (wState (sZ 1) k (vz211 1) (nz212 1) (az213 1)), (wState (sZ 2) k (vz211 2) (nz212 2) (az213 2)), (wState (sZ 3) k (vz211 3) (nz212 3) (az213 3)), (wState (sZ 4) k (vz211 4) (nz212 4) (az213 4)), (wState (sZ 5) k (vz211 5) (nz212 5) (az213 5)), (wState (sZ 6) k (vz211 6) (nz212 6) (az213 6)), (wState (sZ 7) k (vz211 7) (nz212 7) (az213 7))] ++ List.flatten [(wSag qX k tapeX (qV 0) actsX (qN 0) (qP 0) storyX (qZ 0) orderSearchX routeSearchX setSearchX probeX slot0X slot1X slot2X slot3X image0X image1X image2X aX), (wValley qV k vV bV cV wV aV eV), (wPlan qN k vN aN eN), (wStoO qZ k (qV 0) (qP 0) (sZ 0 0) (sZ 1 0) (sZ 2 0) (sZ 3 0) (sZ 4 0) (sZ 5 0) (sZ 6 0) (sZ 7 0))]) := hD
                  refine W.widen (k := 0) (n := 0) (Nat.le_refl 0) (Nat.le_refl 0) ?_
                  refine lv_aload_n hx hb dX11_share_94 rfl (lv_at hl 2 rfl) ?_
                  refine lv_iload hx hb dX11_share_95 (lv_at hl 6 rfl) ?_
                  have hPc := hP
                  have hDc : va_D A (List.flatten [(wPlan qP k vz208 az209 ez210), (wState (sZ 0) k (vz211 0) (nz212 0) (az213 0)), (wState (sZ 1) k (vz211 1) (nz212 1) (az213 1)), (wState (sZ 2) k (vz211 2) (nz212 2) (az213 2)), (wState (sZ 3) k (vz211 3) (nz212 3) (az213 3)), (wState (sZ 4) k (vz211 4) (nz212 4) (az213 4)), (wState (sZ 5) k (vz211 5) (nz212 5) (az213 5)), (wState (sZ 6) k (vz211 6) (nz212 6) (az213 6)), (wState (sZ 7) k (vz211 7) (nz212 7) (az213 7))] ++ List.flatten [(wSag qX k tapeX (qV 0) actsX (qN 0) (qP 0) storyX (qZ 0) orderSearchX routeSearchX setSearchX probeX slot0X slot1X slot2X slot3X image0X image1X image2X aX), (wValley qV k vV bV cV wV aV eV), (wPlan qN k vN aN eN), (wStoO qZ k (qV 0) (qP 0) (sZ 0 0) (sZ 1 0) (sZ 2 0) (sZ 3 0) (sZ 4 0) (sZ 5 0) (sZ 6 0) (sZ 7 0))]) := wc_subD hD [0, 1, 2, 3, 4, 5, 6, 7, 8, 9, 10, 11, 12] rfl rfl
                  have hFc := wc_free hDc hS hA
                  refine va_calli (va_runV (As := [.int xz130]) (rest := [.int rz207, .long xz203, .long xz129]) ⟨hx, hb, hml, hown, hts⟩ (c_X11_sagOfSet l dC dI k H.size qX tapeX actsX storyX orderSearchX routeSearchX setSearchX probeX slot0X slot1X slot2X slot3X image0X image1X image2X aX qV vV bV cV wV aV eV qN vN aN eN qP vz208 az209 ez210 qZ sZ vz211 nz212 az213 xz130 hbV hcV hwV heV heN hez210 hnz212) (cwV 1 hts (gk_V (wl_mem 12 rfl) (wl_mem 13 rfl) (wl_mem 14 rfl) (wl_mem 11 rfl) (fun w h => List.mem_cons_of_mem _ (List.mem_append_right _ (List.mem_append_right _ (List.mem_append_right _ (List.mem_append_right _ (List.mem_append_right _ (List.mem_append_right _ (List.mem_append_left _ h)))))))) wkg_c_X11_sagOfSet) rfl rfl rfl (by decide +kernel) ⟨Nat.le_of_ble_eq_true rfl, Nat.le_of_ble_eq_true rfl⟩) ⟨fun a U g mk q => by obtain ⟨q0, q1, qP, qK, qD⟩ := q; exact ⟨q0, q1, qP, va_K.moved (u := U) (U := U.calling g mk a) (Vm.Alike.refl U.vm) qK, qD⟩, va_recv hK hPc (ci := 11) (q0 := 91) rfl rfl, fun U hU hW => ⟨rfl, by rw [hU], by rw [hU]; exact hPc, va_K.moved hW.alike hK, hDc.weaken (fun _ _ _ _ => trivial)⟩⟩ rfl rfl hl.1 rfl (lv_room (Nat.le_of_ble_eq_true rfl)) dX11_share_97 ⟨Nat.le_of_ble_eq_true rfl, Nat.le_of_ble_eq_true rfl⟩) hS (fun q _ h => hFc q h) hFc (fun rz215 u t H1 locs ht hvm gz214 hB hz1 hk1 hS => ?_)
                  obtain ⟨vz216, az217, ez218, vz219, nz220, az221, hez218, hnz220, hP1⟩ := hB
                  rw [ht] at hP1
                  obtain ⟨hP, hD⟩ := w_callR hP hD hk1 hP1 [0, 1, 2, 3, 4, 5, 6, 7, 8] rfl rfl (wk_memC [9, 10, 11, 12] rfl) rfl [some 0, some 1, some 2, some 3, some 4, some 5, some 6, some 7, some 8] rfl rfl
                  clear hPc hDc hFc hk1 hP1
                  generalize H1 = H at hP hS ⊢
                  have hP : va_P (dC, dI) vwCl (List.flatten [(wPlan qP k vz216 az217 ez218), (wState (sZ 0) k (vz219 0) (nz220 0) (az221 0)), (wState (sZ 1) k (vz219 1) (nz220 1) (az221 1)), (wState (sZ 2) k (vz219 2) (nz220 2) (az221 2)), (wState (sZ 3) k (vz219 3) (nz220 3) (az221 3)), (wState (sZ 4) k (vz219 4) (nz220 4) (az221 4)), (wState (sZ 5) k (vz219 5) (nz220 5) (az221 5)), (wState (sZ 6) k (vz219 6) (nz220 6) (az221 6)), (wState (sZ 7) k (vz219 7) (nz220 7) (az221 7))] ++ List.flatten [(wSag qX k tapeX (qV 0) actsX (qN 0) (qP 0) storyX (qZ 0) orderSearchX routeSearchX setSearchX probeX slot0X slot1X slot2X slot3X image0X image1X image2X aX), (wValley qV k vV bV cV wV aV eV), (wPlan qN k vN aN eN), (wStoO qZ k (qV 0) (qP 0) (sZ 0 0) (sZ 1 0) (sZ 2 0) (sZ 3 0) (sZ 4 0) (sZ 5 0) (sZ 6 0) (sZ 7 0))]) H := hP
                  have hD : va_D A (List.flatten [(wPlan qP k vz216 az217 ez218), (wState (sZ 0) k (vz219 0) (nz220 0) (az221 0)), (wState (sZ 1) k (vz219 1) (nz220 1) (az221 1)), (wState (sZ 2) k (vz219 2) (nz220 2) (az221 2)), (wState (sZ 3) k (vz219 3) (nz220 3) (az221 3)), (wState (sZ 4) k (vz219 4) (nz220 4) (az221 4)), (wState (sZ 5) k (vz219 5) (nz220 5) (az221 5)), (wState (sZ 6) k (vz219 6) (nz220 6) (az221 6)), (wState (sZ 7) k (vz219 7) (nz220 7) (az221 7))] ++ List.flatten [(wSag qX k tapeX (qV 0) actsX (qN 0) (qP 0) storyX (qZ 0) orderSearchX routeSearchX setSearchX probeX slot0X slot1X slot2X slot3X image0X image1X image2X aX), (wValley qV k vV bV cV wV aV eV), (wPlan qN k vN aN eN), (wStoO qZ k (qV 0) (qP 0) (sZ 0 0) (sZ 1 0) (sZ 2 0) (sZ 3 0) (sZ 4 0) (sZ 5 0) (sZ 6 0) (sZ 7 0))]) := hD
                  refine W.widen (k := 0) (n := 0) (Nat.le_refl 0) (Nat.le_refl 0) ?_
                  refine lv_isub hx hb dX11_share_100 ?_
                  refine lv_topi (fun xz222 exz222 => ?_)
                  refine lv_i2l hx hb dX11_share_101 rfl ?_
                  refine lv_lmul hx hb dX11_share_102 ?_
                  refine lv_topl (fun xz223 exz223 => ?_)
                  refine lv_ladd hx hb dX11_share_103 ?_
                  refine lv_topl (fun xz224 exz224 => ?_)
                  refine lv_lstore_n (lv' := [(3, .long xz224), (7, .long xz203), (6, .int rz195), (0, .ref (qX 0)), (1, .int p1), (2, .int p2), (5, .int xz130)]) hx hb dX11_share_104 rfl hl (by decide) rfl (fun ls hl => ?_)
                  exact ct105_kz189 H locs ls az217 ez218 vz216 az221 nz220 vz219 xz224  hez218 hnz220 hP hD hS (lv_sub hl [3, 4, 5, 0, 6] rfl)
          exact lp28_kz131 _ s.heap [] ls aP eP vP aZ nZ vZ (0 : Int64) (0 : Int32) (Nat.lt_succ_self _) heP hnZ (by show 0 ≤ (0 : Int); omega) hP hD hS (lv_sub hl [2, 3, 4, 1, 0] rfl)
        · skip
          have zz225 : ¬ p2.toInt ≤ (1 : Int) := fun h9 => cz26 (zi_le.mpr h9)
          refine lv_bipush (v := (-2)) hx hb dX11_share_20 (by decide) ?_
          rw [hQ]
          exact W.iret (v := (-2 : Int32)) hx hb hr (fun t ht hW => ⟨⟨(-2 : Int32), (), rfl, trivial, vP, aP, eP, vZ, nZ, aZ, heP, hnZ, by rw [ht]; exact hP⟩, hS.F ht⟩) hS.2.2 dX11_share_22
def wk_c_X11_chance : List Cond := .code yX11_chance cX11_chance 8 (some .int) :: ([.fieldLink RX11 19 "SagMemory" "told" "LSagMemory$Valley;", .methodLink RX11 131 yX10_hasBridge, .instanceMethod yX10_hasBridge, .selects RX10 yX10_hasBridge yX10_hasBridge, .initialized RX10, .fieldLink RX11 177 "SagMemory$Valley" "carts" "I", .methodLink RX11 330 yX11_waysTo, .instanceMethod yX11_waysTo, .selects RX11 yX11_waysTo yX11_waysTo, .initialized RX11, .methodLink RX11 333 yX11_breaksInCold, .instanceMethod yX11_breaksInCold, .selects RX11 yX11_breaksInCold yX11_breaksInCold, .methodLink RX11 336 yX11_power, .static yX11_power, .methodLink RX11 319 yX11_lowestTerm, .static yX11_lowestTerm] ++ (wsX110 ++ (wk_c_X10_hasBridge ++ (wsX100 ++ (wk_c_X11_waysTo ++ (wk_c_X11_breaksInCold ++ (wk_c_X11_power ++ (wk_c_X11_lowestTerm ++ []))))))))
theorem wkg_c_X11_chance : wk_c_X11_chance.all goodWord = true := by decide +kernel
set_option maxHeartbeats 4000000 in
set_option maxRecDepth 100000 in
theorem c_X11_chance (l : Launch) (dC : Nat → ClassId) (dI : Nat → Nat → Nat) (k : Nat → ClassId) (sz : Nat) (qX : Nat → Nat) (tapeX : Nat) (actsX : Nat) (storyX : Nat) (orderSearchX : Nat) (routeSearchX : Nat) (setSearchX : Nat) (probeX : Nat) (slot0X : Nat) (slot1X : Nat) (slot2X : Nat) (slot3X : Nat) (image0X : Nat) (image1X : Nat) (image2X : Nat) (aX : Nat → Nat → Int32) (qV : Nat → Nat) (vV : Nat → Int32) (bV : Nat → Int32) (cV : Nat → Int32) (wV : Nat → Int32) (aV : Nat → Nat → Int32) (eV : Nat → Nat → Int32) (qN : Nat → Nat) (vN : Nat → Int32) (aN : Nat → Nat → Int32) (eN : Nat → Nat → Int32) (qP : Nat → Nat) (vP : Nat → Int32) (aP : Nat → Nat → Int32) (eP : Nat → Nat → Int32) (qZ : Nat → Nat) (sZ : Nat → Nat → Nat) (vZ : Nat → Nat → Int32) (nZ : Nat → Nat → Int32) (aZ : Nat → Nat → Nat → Int32) (p1 : Int32) (p2 : Int32) (hbV : Rg 0 3 bV) (hcV : Rg 0 7 cV) (hwV : Rg 0 5 wV) (heV : RgA 0 99 eV) (heN : RgA 0 99 eN) (heP : RgA 0 99 eP) (hnZ : ∀ t9, Rg 0 8 (nZ t9)) : Met l yX11_chance wk_c_X11_chance ({ frames := 6, cells := 0, slots := 0, locals := 195 }) (va_Pc [.ref (qX 0), .int p1, .int p2] (fun U => U.heap.size = sz ∧ va_P (dC, dI) vwCl (List.flatten [(wPlan qP k vP aP eP), (wState (sZ 0) k (vZ 0) (nZ 0) (aZ 0)), (wState (sZ 1) k (vZ 1) (nZ 1) (aZ 1)), (wState (sZ 2) k (vZ 2) (nZ 2) (aZ 2)), (wState (sZ 3) k (vZ 3) (nZ 3) (aZ 3)), (wState (sZ 4) k (vZ 4) (nZ 4) (aZ 4)), (wState (sZ 5) k (vZ 5) (nZ 5) (aZ 5)), (wState (sZ 6) k (vZ 6) (nZ 6) (aZ 6)), (wState (sZ 7) k (vZ 7) (nZ 7) (aZ 7))] ++ List.flatten [(wSag qX k tapeX (qV 0) actsX (qN 0) (qP 0) storyX (qZ 0) orderSearchX routeSearchX setSearchX probeX slot0X slot1X slot2X slot3X image0X image1X image2X aX), (wValley qV k vV bV cV wV aV eV), (wPlan qN k vN aN eN), (wStoO qZ k (qV 0) (qP 0) (sZ 0 0) (sZ 1 0) (sZ 2 0) (sZ 3 0) (sZ 4 0) (sZ 5 0) (sZ 6 0) (sZ 7 0))]) U.heap ∧ va_K (dC, dI) vwCl (tK k) U ∧ va_D (fun _ => True) (List.flatten [(wPlan qP k vP aP eP), (wState (sZ 0) k (vZ 0) (nZ 0) (aZ 0)), (wState (sZ 1) k (vZ 1) (nZ 1) (aZ 1)), (wState (sZ 2) k (vZ 2) (nZ 2) (aZ 2)), (wState (sZ 3) k (vZ 3) (nZ 3) (aZ 3)), (wState (sZ 4) k (vZ 4) (nZ 4) (aZ 4)), (wState (sZ 5) k (vZ 5) (nZ 5) (aZ 5)), (wState (sZ 6) k (vZ 6) (nZ 6) (aZ 6)), (wState (sZ 7) k (vZ 7) (nZ 7) (aZ 7))] ++ List.flatten [(wSag qX k tapeX (qV 0) actsX (qN 0) (qP 0) storyX (qZ 0) orderSearchX routeSearchX setSearchX probeX slot0X slot1X slot2X slot3X image0X image1X image2X aX), (wValley qV k vV bV cV wV aV eV), (wPlan qN k vN aN eN), (wStoO qZ k (qV 0) (qP 0) (sZ 0 0) (sZ 1 0) (sZ 2 0) (sZ 3 0) (sZ 4 0) (sZ 5 0) (sZ 6 0) (sZ 7 0))]))) (va_Qi (fun (r : Int32) (_ : Unit) => True) (fun (_ : Unit) (t : State) => ∃ (vP' : Nat → Int32) (aP' : Nat → Nat → Int32) (eP' : Nat → Nat → Int32) (vZ' : Nat → Nat → Int32) (nZ' : Nat → Nat → Int32) (aZ' : Nat → Nat → Nat → Int32), RgA 0 99 eP' ∧ (∀ t9, Rg 0 8 (nZ' t9)) ∧ va_P (dC, dI) vwCl (List.flatten [(wPlan qP k vP' aP' eP'), (wState (sZ 0) k (vZ' 0) (nZ' 0) (aZ' 0)), (wState (sZ 1) k (vZ' 1) (nZ' 1) (aZ' 1)), (wState (sZ 2) k (vZ' 2) (nZ' 2) (aZ' 2)), (wState (sZ 3) k (vZ' 3) (nZ' 3) (aZ' 3)), (wState (sZ 4) k (vZ' 4) (nZ' 4) (aZ' 4)), (wState (sZ 5) k (vZ' 5) (nZ' 5) (aZ' 5)), (wState (sZ 6) k (vZ' 6) (nZ' 6) (aZ' 6)), (wState (sZ 7) k (vZ' 7) (nZ' 7) (aZ' 7))] ++ List.flatten [(wSag qX k tapeX (qV 0) actsX (qN 0) (qP 0) storyX (qZ 0) orderSearchX routeSearchX setSearchX probeX slot0X slot1X slot2X slot3X image0X image1X image2X aX), (wValley qV k vV bV cV wV aV eV), (wPlan qN k vN aN eN), (wStoO qZ k (qV 0) (qP 0) (sZ 0 0) (sZ 1 0) (sZ 2 0) (sZ 3 0) (sZ 4 0) (sZ 5 0) (sZ 6 0) (sZ 7 0))]) t.heap) (va_A (List.flatten [(wPlan qP k vP aP eP), (wState (sZ 0) k (vZ 0) (nZ 0) (aZ 0)), (wState (sZ 1) k (vZ 1) (nZ 1) (aZ 1)), (wState (sZ 2) k (vZ 2) (nZ 2) (aZ 2)), (wState (sZ 3) k (vZ 3) (nZ 3) (aZ 3)), (wState (sZ 4) k (vZ 4) (nZ 4) (aZ 4)), (wState (sZ 5) k (vZ 5) (nZ 5) (aZ 5)), (wState (sZ 6) k (vZ 6) (nZ 6) (aZ 6)), (wState (sZ 7) k (vZ 7) (nZ 7) (aZ 7))] ++ List.flatten [(wSag qX k tapeX (qV 0) actsX (qN 0) (qP 0) storyX (qZ 0) orderSearchX routeSearchX setSearchX probeX slot0X slot1X slot2X slot3X image0X image1X image2X aX), (wValley qV k vV bV cV wV aV eV), (wPlan qN k vN aN eN), (wStoO qZ k (qV 0) (qP 0) (sZ 0 0) (sZ 1 0) (sZ 2 0) (sZ 3 0) (sZ 4 0) (sZ 5 0) (sZ 6 0) (sZ 7 0))]) sz)) 0 0 (va_A (List.flatten [(wPlan qP k vP aP eP), (wState (sZ 0) k (vZ 0) (nZ 0) (aZ 0)), (wState (sZ 1) k (vZ 1) (nZ 1) (aZ 1)), (wState (sZ 2) k (vZ 2) (nZ 2) (aZ 2)), (wState (sZ 3) k (vZ 3) (nZ 3) (aZ 3)), (wState (sZ 4) k (vZ 4) (nZ 4) (aZ 4)), (wState (sZ 5) k (vZ 5) (nZ 5) (aZ 5)), (wState (sZ 6) k (vZ 6) (nZ 6) (aZ 6)), (wState (sZ 7) k (vZ 7) (nZ 7) (aZ 7))] ++ List.flatten [(wSag qX k tapeX (qV 0) actsX (qN 0) (qP 0) storyX (qZ 0) orderSearchX routeSearchX setSearchX probeX slot0X slot1X slot2X slot3X image0X image1X image2X aX), (wValley qV k vV bV cV wV aV eV), (wPlan qN k vN aN eN), (wStoO qZ k (qV 0) (qP 0) (sZ 0 0) (sZ 1 0) (sZ 2 0) (sZ 3 0) (sZ 4 0) (sZ 5 0) (sZ 6 0) (sZ 7 0))]) sz) := by
  refine Met.ofW (cc := cX11_chance) (maxL := 8) (ret := (some .int)) (by decide) rfl ?_
  intro p e s m args below meth c s₁ B hml hv
  obtain ⟨rfl, hsz, hP, hK, hD0⟩ := hv
  have hx := B.exec
  have hb := B.bytes
  have hr := B.returns
  have hts := atoms_spec (ws := wk_c_X11_chance) B.pre
  have hown : s.vm.findClass RX11 = some m.cls := findClass_of_methodNamed B.named
  have hlocks := B.notSynchronized
  subst hsz
  have hD := hD0.self (sz := s.heap.size)
  generalize hAe : va_A (List.flatten [(wPlan qP k vP aP eP), (wState (sZ 0) k (vZ 0) (nZ 0) (aZ 0)), (wState (sZ 1) k (vZ 1) (nZ 1) (aZ 1)), (wState (sZ 2) k (vZ 2) (nZ 2) (aZ 2)), (wState (sZ 3) k (vZ 3) (nZ 3) (aZ 3)), (wState (sZ 4) k (vZ 4) (nZ 4) (aZ 4)), (wState (sZ 5) k (vZ 5) (nZ 5) (aZ 5)), (wState (sZ 6) k (vZ 6) (nZ 6) (aZ 6)), (wState (sZ 7) k (vZ 7) (nZ 7) (aZ 7))] ++ List.flatten [(wSag qX k tapeX (qV 0) actsX (qN 0) (qP 0) storyX (qZ 0) orderSearchX routeSearchX setSearchX probeX slot0X slot1X slot2X slot3X image0X image1X image2X aX), (wValley qV k vV bV cV wV aV eV), (wPlan qN k vN aN eN), (wStoO qZ k (qV 0) (qP 0) (sZ 0 0) (sZ 1 0) (sZ 2 0) (sZ 3 0) (sZ 4 0) (sZ 5 0) (sZ 6 0) (sZ 7 0))]) s.heap.size = A at hD ⊢
  have hA : ∀ q : Nat, s.heap.size ≤ q → A q := fun q h => by rw [← hAe]; exact Or.inr h
  have hS : va_S A s.heap s.heap [] := va_S.rf
  have hP : va_P (dC, dI) vwCl (List.flatten [(wPlan qP k vP aP eP), (wState (sZ 0) k (vZ 0) (nZ 0) (aZ 0)), (wState (sZ 1) k (vZ 1) (nZ 1) (aZ 1)), (wState (sZ 2) k (vZ 2) (nZ 2) (aZ 2)), (wState (sZ 3) k (vZ 3) (nZ 3) (aZ 3)), (wState (sZ 4) k (vZ 4) (nZ 4) (aZ 4)), (wState (sZ 5) k (vZ 5) (nZ 5) (aZ 5)), (wState (sZ 6) k (vZ 6) (nZ 6) (aZ 6)), (wState (sZ 7) k (vZ 7) (nZ 7) (aZ 7))] ++ List.flatten [(wSag qX k tapeX (qV 0) actsX (qN 0) (qP 0) storyX (qZ 0) orderSearchX routeSearchX setSearchX probeX slot0X slot1X slot2X slot3X image0X image1X image2X aX), (wValley qV k vV bV cV wV aV eV), (wPlan qN k vN aN eN), (wStoO qZ k (qV 0) (qP 0) (sZ 0 0) (sZ 1 0) (sZ 2 0) (sZ 3 0) (sZ 4 0) (sZ 5 0) (sZ 6 0) (sZ 7 0))]) s.heap := hP
  have hl := lv_entry ([.ref (qX 0), .int p1, .int p2]) (n := 8) (Nat.le_of_ble_eq_true rfl)
  rw [lg_entry_eq]
  generalize (lg_sl ([.ref (qX 0), .int p1, .int p2]) ++ List.replicate (8 - (lg_sl ([.ref (qX 0), .int p1, .int p2])).length) Slot.unset).toArray = ls at hl ⊢
  have hl : lv_has ls 8 [(0, .ref (qX 0)), (1, .int p1), (2, .int p2)] := hl
  refine w_gen (fun Q hQ => ?_)
  refine lv_aload_n hx hb dX11_chance_0 rfl (lv_at hl 0 rfl) ?_
  refine va_get (D := (dC, dI)) (ci := 11) (v := .ref (qV 0)) (C := RX11) (T := TX11) (N := 15) hx hb hts (fun w h => List.mem_cons_of_mem _ (List.mem_append_right _ (List.mem_append_left _ h))) hown hK hP 91 rfl rfl 1 (by decide) (hts (.fieldLink RX11 19 "SagMemory" "told" "LSagMemory$Valley;") (wl_mem 0 rfl)) (fun _ h9 => h9) rfl dX11_chance_1 ?_
  refine lv_iload_n hx hb dX11_chance_4 rfl (lv_at hl 1 rfl) ?_
  have hPc := hP.sub (ws' := (List.flatten [(wValley qV k vV bV cV wV aV eV)])) [96, 97, 98, 99, 100, 101, 102, 103] rfl
  refine vp_callSi (va_Run.run (va_runV (As := [.int p1]) (rest := []) ⟨hx, hb, hml, hown, hts⟩ (c_X10_hasBridge l dC dI k qV vV bV cV wV aV eV p1 hbV hcV hwV heV) (cwV 1 hts (gk_V (wl_mem 1 rfl) (wl_mem 2 rfl) (wl_mem 3 rfl) (wl_mem 4 rfl) (fun w h => List.mem_cons_of_mem _ (List.mem_append_right _ (List.mem_append_right _ (List.mem_append_left _ h)))) wkg_c_X10_hasBridge) rfl rfl rfl (by decide +kernel) ⟨Nat.le_of_ble_eq_true rfl, Nat.le_of_ble_eq_true rfl⟩) ⟨fun a U g mk q => by obtain ⟨q0, qP, qK⟩ := q; exact ⟨q0, qP, va_K.moved (u := U) (U := U.calling g mk a) (Vm.Alike.refl U.vm) qK⟩, va_recv hK hPc (ci := 10) (q0 := 0) rfl rfl, fun U hU hW => ⟨rfl, by rw [hU]; exact hPc, va_K.moved hW.alike hK⟩⟩ rfl rfl hl.1 rfl (lv_room (Nat.le_of_ble_eq_true rfl)) dX11_chance_5 ⟨Nat.le_of_ble_eq_true rfl, Nat.le_of_ble_eq_true rfl⟩)) (fun rz2 gz1 => ?_)
  clear hPc
  rcases gz1 with ⟨er, cz3⟩ | ⟨er, cz4, cz5⟩ | ⟨er, cz6, cz7⟩
  · obtain rfl := er.symm
    have bz8 := fb_rng p1
    have zz9 : p1.toInt < (0 : Int) := zi_lt.mp cz3
    refine lv_if_eq (tgt := 20) hx hb dX11_chance_8 (by decide) (fun cz10 => ?_) (fun cz10 => ?_)
    · skip
      refine lv_bipush (v := (-2)) hx hb dX11_chance_20 (by decide) ?_
      rw [hQ]
      exact W.iret (v := (-2 : Int32)) hx hb hr (fun t ht hW => ⟨⟨(-2 : Int32), (), rfl, trivial, vP, aP, eP, vZ, nZ, aZ, heP, hnZ, by rw [ht]; exact hP⟩, hS.F ht⟩) hS.2.2 dX11_chance_22
    · skip
      exact absurd cz10 (by decide)
  · obtain rfl := er.symm
    have bz11 := fb_rng p1
    have zz12 : ¬ p1.toInt < (0 : Int) := fun h9 => cz4 (zi_lt.mpr h9)
    have bz13 := hbV 0
    have zz14 : (bV 0).toInt ≤ p1.toInt := zi_le.mp cz5
    refine lv_if_eq (tgt := 20) hx hb dX11_chance_8 (by decide) (fun cz15 => ?_) (fun cz15 => ?_)
    · skip
      refine lv_bipush (v := (-2)) hx hb dX11_chance_20 (by decide) ?_
      rw [hQ]
      exact W.iret (v := (-2 : Int32)) hx hb hr (fun t ht hW => ⟨⟨(-2 : Int32), (), rfl, trivial, vP, aP, eP, vZ, nZ, aZ, heP, hnZ, by rw [ht]; exact hP⟩, hS.F ht⟩) hS.2.2 dX11_chance_22
    · skip
      exact absurd cz15 (by decide)
  · obtain rfl := er.symm
    have bz16 := fb_rng p1
    have zz17 : ¬ p1.toInt < (0 : Int) := fun h9 => cz6 (zi_lt.mpr h9)
    have bz18 := hbV 0
    have zz19 : ¬ (bV 0).toInt ≤ p1.toInt := fun h9 => cz7 (zi_le.mpr h9)
    refine lv_if_eq (tgt := 20) hx hb dX11_chance_8 (by decide) (fun cz20 => ?_) (fun cz20 => ?_)
    · skip
      exact absurd cz20 (by decide)
    · skip
      refine lv_iload_n hx hb dX11_chance_11 rfl (lv_at hl 2 rfl) ?_
      refine lv_if_lt (tgt := 20) hx hb dX11_chance_12 (by decide) (fun cz21 => ?_) (fun cz21 => ?_)
      · skip
        have bz22 := fb_rng p2
        have zz23 : p2.toInt < (0 : Int) := zi_lt.mp cz21
        refine lv_bipush (v := (-2)) hx hb dX11_chance_20 (by decide) ?_
        rw [hQ]
        exact W.iret (v := (-2 : Int32)) hx hb hr (fun t ht hW => ⟨⟨(-2 : Int32), (), rfl, trivial, vP, aP, eP, vZ, nZ, aZ, heP, hnZ, by rw [ht]; exact hP⟩, hS.F ht⟩) hS.2.2 dX11_chance_22
      · skip
        have bz24 := fb_rng p2
        have zz25 : ¬ p2.toInt < (0 : Int) := fun h9 => cz21 (zi_lt.mpr h9)
        refine lv_iload_n hx hb dX11_chance_15 rfl (lv_at hl 2 rfl) ?_
        refine lv_iconst (v := 1) hx hb dX11_chance_16 (by decide) ?_
        refine lv_icmp_le (tgt := 23) hx hb dX11_chance_17 (by decide) (fun cz26 => ?_) (fun cz26 => ?_)
        · skip
          have zz27 : p2.toInt ≤ (1 : Int) := zi_le.mp cz26
          refine lv_lconst (v := 0) hx hb dX11_chance_23 (by decide) ?_
          refine lv_lstore_n (lv' := [(3, .long 0), (0, .ref (qX 0)), (1, .int p1), (2, .int p2)]) hx hb dX11_chance_24 rfl hl (by decide) rfl (fun ls hl => ?_)
          refine lv_iconst (v := 0) hx hb dX11_chance_25 (by decide) ?_
          refine lv_istore (lv' := [(5, .int 0), (3, .long 0), (0, .ref (qX 0)), (1, .int p1), (2, .int p2)]) hx hb dX11_chance_26 hl (by decide) rfl (fun ls hl => ?_)
          have lp28_kz96 : ∀ (n9_28 : Nat) (H : Heap) (locs : List Loc) (ls : Array Slot) (az88 : Nat → Nat → Int32) (ez89 : Nat → Nat → Int32) (vz90 : Nat → Int32) (az91 : Nat → Nat → Nat → Int32) (nz92 : Nat → Nat → Int32) (vz93 : Nat → Nat → Int32) (xz94 : Int64) (xz95 : Int32), (2147483647 - xz95.toInt).toNat < n9_28 → RgA 0 99 ez89 → (∀ t9, Rg 0 8 (nz92 t9)) → 0 ≤ xz95.toInt → va_P (dC, dI) vwCl (List.flatten [(wPlan qP k vz90 az88 ez89), (wState (sZ 0) k (vz93 0) (nz92 0) (az91 0)), (wState (sZ 1) k (vz93 1) (nz92 1) (az91 1)), (wState (sZ 2) k (vz93 2) (nz92 2) (az91 2)), (wState (sZ 3) k (vz93 3) (nz92 3) (az91 3)), (wState (sZ 4) k (vz93 4) (nz92 4) (az91 4)), (wState (sZ 5) k (vz93 5) (nz92 5) (az91 5)), (wState (sZ 6) k (vz93 6) (nz92 6) (az91 6)), (wState (sZ 7) k (vz93 7) (nz92 7) (az91 7))] ++ List.flatten [(wSag qX k tapeX (qV 0) actsX (qN 0) (qP 0) storyX (qZ 0) orderSearchX routeSearchX setSearchX probeX slot0X slot1X slot2X slot3X image0X image1X image2X aX), (wValley qV k vV bV cV wV aV eV), (wPlan qN k vN aN eN), (wStoO qZ k (qV 0) (qP 0) (sZ 0 0) (sZ 1 0) (sZ 2 0) (sZ 3 0) (sZ 4 0) (sZ 5 0) (sZ 6 0) (sZ 7 0))]) H → va_D A (List.flatten [(wPlan qP k vz90 az88 ez89), (wState (sZ 0) k (vz93 0) (nz92 0) (az91 0)), (wState (sZ 1) k (vz93 1) (nz92 1) (az91 1)), (wState (sZ 2) k (vz93 2) (nz92 2) (az91 2)), (wState (sZ 3) k (vz93 3) (nz92 3) (az91 3)), (wState (sZ 4) k (vz93 4) (nz92 4) (az91 4)), (wState (sZ 5) k (vz93 5) (nz92 5) (az91 5)), (wState (sZ 6) k (vz93 6) (nz92 6) (az91 6)), (wState (sZ 7) k (vz93 7) (nz92 7) (az91 7))] ++ List.flatten [(wSag qX k tapeX (qV 0) actsX (qN 0) (qP 0) storyX (qZ 0) orderSearchX routeSearchX setSearchX probeX slot0X slot1X slot2X slot3X image0X image1X image2X aX), (wValley qV k vV bV cV wV aV eV), (wPlan qN k vN aN eN), (wStoO qZ k (qV 0) (qP 0) (sZ 0 0) (sZ 1 0) (sZ 2 0) (sZ 3 0) (sZ 4 0) (sZ 5 0) (sZ 6 0) (sZ 7 0))]) → va_S A s.heap H locs → lv_has ls 8 [(0, .ref (qX 0)), (1, .int p1), (2, .int p2), (3, .long xz94), (5, .int xz95)] → W p l e (headSpec wk_c_X11_chance ({ frames := 6, cells := 0, slots := 0, locals := 195 })).room s m ([.ref (qX 0), .int p1, .int p2] : List Value).toArray below meth c H locs 0 0 Q (F0 m 28 ls []) := by
            intro n9_28
            induction n9_28 with
            | zero => intro H locs ls az88 ez89 vz90 az91 nz92 vz93 xz94 xz95 hm; exact absurd hm (Nat.not_lt_zero _)
            | succ n9_28 ih28 =>
              intro H locs ls az88 ez89 vz90 az91 nz92 vz93 xz94 xz95 hm28 hez89 hnz92 jz97 hP hD hS hl
              refine lv_iload hx hb dX11_chance_28 (lv_at hl 4 rfl) ?_
              refine lv_iconst (v := 1) hx hb dX11_chance_30 (by decide) ?_
              refine lv_aload_n hx hb dX11_chance_31 rfl (lv_at hl 0 rfl) ?_
              refine va_get (D := (dC, dI)) (ci := 11) (v := .ref (qV 0)) (C := RX11) (T := TX11) (N := 15) hx hb hts (fun w h => List.mem_cons_of_mem _ (List.mem_append_right _ (List.mem_append_left _ h))) hown hK hP 91 rfl rfl 1 (by decide) (hts (.fieldLink RX11 19 "SagMemory" "told" "LSagMemory$Valley;") (wl_mem 0 rfl)) (fun _ h9 => h9) rfl dX11_chance_32 ?_
              refine va_get (D := (dC, dI)) (ci := 10) (v := .int (cV 0)) (C := RX10) (T := TX10) (N := 16) hx hb hts (fun w h => List.mem_cons_of_mem _ (List.mem_append_right _ (List.mem_append_right _ (List.mem_append_right _ (List.mem_append_left _ h))))) hown hK hP 96 rfl rfl 12 (by decide) (hts (.fieldLink RX11 177 "SagMemory$Valley" "carts" "I") (wl_mem 5 rfl)) (fun _ h9 => h9) rfl dX11_chance_35 ?_
              have bz98 := hcV 0
              refine lv_ishl hx hb dX11_chance_38 ?_
              refine lv_topi (fun xz99 exz99 => ?_)
              refine lv_icmp_ge (tgt := 78) hx hb dX11_chance_39 (by decide) (fun cz100 => ?_) (fun cz100 => ?_)
              · skip
                have bz101 := fb_rng xz99
                have bz102 := fb_rng xz95
                have zz103 : xz99.toInt ≤ xz95.toInt := zi_le.mp cz100
                refine lv_lload_n hx hb dX11_chance_78 rfl (lv_at hl 3 rfl) ?_
                refine lv_bipush (v := 10) hx hb dX11_chance_79 (by decide) ?_
                refine lv_aload_n hx hb dX11_chance_81 rfl (lv_at hl 0 rfl) ?_
                refine va_get (D := (dC, dI)) (ci := 11) (v := .ref (qV 0)) (C := RX11) (T := TX11) (N := 15) hx hb hts (fun w h => List.mem_cons_of_mem _ (List.mem_append_right _ (List.mem_append_left _ h))) hown hK hP 91 rfl rfl 1 (by decide) (hts (.fieldLink RX11 19 "SagMemory" "told" "LSagMemory$Valley;") (wl_mem 0 rfl)) (fun _ h9 => h9) rfl dX11_chance_82 ?_
                refine va_get (D := (dC, dI)) (ci := 10) (v := .int (cV 0)) (C := RX10) (T := TX10) (N := 16) hx hb hts (fun w h => List.mem_cons_of_mem _ (List.mem_append_right _ (List.mem_append_right _ (List.mem_append_right _ (List.mem_append_left _ h))))) hown hK hP 96 rfl rfl 12 (by decide) (hts (.fieldLink RX11 177 "SagMemory$Valley" "carts" "I") (wl_mem 5 rfl)) (fun _ h9 => h9) rfl dX11_chance_85 ?_
                have hPc : va_P (dC, dI) vwCl (List.flatten ([] : List va_W)) H := fun k q h => by simp at h
                refine vp_callSl (va_Run.run (va_runS (As := [.int 10, .int (cV 0)]) (rest := [.long xz94]) ⟨hx, hb, hml, hown, hts⟩ (c_X11_power l dC dI k (10 : Int32) (cV 0)) (va_cwS 2 hts (gk_S (wl_mem 13 rfl) (wl_mem 14 rfl) (wl_mem 9 rfl) (fun w h => List.mem_cons_of_mem _ (List.mem_append_right _ (List.mem_append_right _ (List.mem_append_right _ (List.mem_append_right _ (List.mem_append_right _ (List.mem_append_right _ (List.mem_append_left _ h)))))))) wkg_c_X11_power) rfl rfl rfl (by decide +kernel) ⟨Nat.le_of_ble_eq_true rfl, Nat.le_of_ble_eq_true rfl⟩) ⟨fun a U g mk q => by obtain ⟨q0, qP, qK⟩ := q; exact ⟨q0, qP, va_K.moved (u := U) (U := U.calling g mk a) (Vm.Alike.refl U.vm) qK⟩, fun U hU hW => ⟨rfl, by rw [hU]; exact hPc, va_K.moved hW.alike hK⟩⟩ rfl rfl hl.1 rfl (lv_room (Nat.le_of_ble_eq_true rfl)) dX11_chance_88 ⟨Nat.le_of_ble_eq_true rfl, Nat.le_of_ble_eq_true rfl⟩)) (fun rz105 gz104 => ?_)
                clear hPc
                refine lv_iload_n hx hb dX11_chance_91 rfl (lv_at hl 2 rfl) ?_
                have hPc : va_P (dC, dI) vwCl (List.flatten ([] : List va_W)) H := fun k q h => by simp at h
                refine vp_callSl (va_Run.run (va_runS (As := [.long xz94, .long rz105, .int p2]) (rest := []) ⟨hx, hb, hml, hown, hts⟩ (c_X11_lowestTerm l dC dI k xz94 rz105 p2) (va_cwS 3 hts (gk_S (wl_mem 15 rfl) (wl_mem 16 rfl) (wl_mem 9 rfl) (fun w h => List.mem_cons_of_mem _ (List.mem_append_right _ (List.mem_append_right _ (List.mem_append_right _ (List.mem_append_right _ (List.mem_append_right _ (List.mem_append_right _ (List.mem_append_right _ (List.mem_append_left _ h))))))))) wkg_c_X11_lowestTerm) rfl rfl rfl (by decide +kernel) ⟨Nat.le_of_ble_eq_true rfl, Nat.le_of_ble_eq_true rfl⟩) ⟨fun a U g mk q => by obtain ⟨q0, qP, qK⟩ := q; exact ⟨q0, qP, va_K.moved (u := U) (U := U.calling g mk a) (Vm.Alike.refl U.vm) qK⟩, fun U hU hW => ⟨rfl, by rw [hU]; exact hPc, va_K.moved hW.alike hK⟩⟩ rfl rfl hl.1 rfl (lv_room (Nat.le_of_ble_eq_true rfl)) dX11_chance_92 ⟨Nat.le_of_ble_eq_true rfl, Nat.le_of_ble_eq_true rfl⟩)) (fun rz107 gz106 => ?_)
                clear hPc
                refine lv_l2i hx hb dX11_chance_95 rfl ?_
                refine lv_topi (fun xz108 exz108 => ?_)
                rw [hQ]
                exact W.iret (v := xz108) hx hb hr (fun t ht hW => ⟨⟨xz108, (), rfl, trivial, vz90, az88, ez89, vz93, nz92, az91, hez89, hnz92, by rw [ht]; exact hP⟩, hS.F ht⟩) hS.2.2 dX11_chance_96
              · skip
                have bz109 := fb_rng xz99
                have bz110 := fb_rng xz95
                have zz111 : ¬ xz99.toInt ≤ xz95.toInt := fun h9 => cz100 (zi_le.mpr h9)
                refine lv_aload_n hx hb dX11_chance_42 rfl (lv_at hl 0 rfl) ?_
                refine lv_iload hx hb dX11_chance_43 (lv_at hl 4 rfl) ?_
                have hPc := hP.sub (ws' := (List.flatten [(wSag qX k tapeX (qV 0) actsX (qN 0) (qP 0) storyX (qZ 0) orderSearchX routeSearchX setSearchX probeX slot0X slot1X slot2X slot3X image0X image1X image2X aX), (wValley qV k vV bV cV wV aV eV)])) [91, 92, 93, 94, 95, 96, 97, 98, 99, 100, 101, 102, 103] rfl
                refine vp_callSl (va_Run.run (va_runV (As := [.int xz95]) (rest := []) ⟨hx, hb, hml, hown, hts⟩ (c_X11_waysTo l dC dI k qX tapeX actsX (qN 0) (qP 0) storyX (qZ 0) orderSearchX routeSearchX setSearchX probeX slot0X slot1X slot2X slot3X image0X image1X image2X aX qV vV bV cV wV aV eV xz95 hbV hcV hwV heV) (cwV 1 hts (gk_V (wl_mem 6 rfl) (wl_mem 7 rfl) (wl_mem 8 rfl) (wl_mem 9 rfl) (fun w h => List.mem_cons_of_mem _ (List.mem_append_right _ (List.mem_append_right _ (List.mem_append_right _ (List.mem_append_right _ (List.mem_append_left _ h)))))) wkg_c_X11_waysTo) rfl rfl rfl (by decide +kernel) ⟨Nat.le_of_ble_eq_true rfl, Nat.le_of_ble_eq_true rfl⟩) ⟨fun a U g mk q => by obtain ⟨q0, qP, qK⟩ := q; exact ⟨q0, qP, va_K.moved (u := U) (U := U.calling g mk a) (Vm.Alike.refl U.vm) qK⟩, va_recv hK hPc (ci := 11) (q0 := 0) rfl rfl, fun U hU hW => ⟨rfl, by rw [hU]; exact hPc, va_K.moved hW.alike hK⟩⟩ rfl rfl hl.1 rfl (lv_room (Nat.le_of_ble_eq_true rfl)) dX11_chance_45 ⟨Nat.le_of_ble_eq_true rfl, Nat.le_of_ble_eq_true rfl⟩)) (fun rz113 gz112 => ?_)
                clear hPc
                refine lv_lstore (lv' := [(6, .long rz113), (0, .ref (qX 0)), (1, .int p1), (2, .int p2), (3, .long xz94), (5, .int xz95)]) hx hb dX11_chance_48 hl (by decide) rfl (fun ls hl => ?_)
                refine lv_lload hx hb dX11_chance_50 (lv_at hl 0 rfl) ?_
                refine lv_lconst (v := 0) hx hb dX11_chance_52 (by decide) ?_
                refine W.lcmp hx hb dX11_chance_53 ?_
                have ct72_kz137 : ∀ (H : Heap) (locs : List Loc) (ls : Array Slot) (az130 : Nat → Nat → Int32) (ez131 : Nat → Nat → Int32) (vz132 : Nat → Int32) (az133 : Nat → Nat → Nat → Int32) (nz134 : Nat → Nat → Int32) (vz135 : Nat → Nat → Int32) (xz136 : Int64), RgA 0 99 ez131 → (∀ t9, Rg 0 8 (nz134 t9)) → va_P (dC, dI) vwCl (List.flatten [(wPlan qP k vz132 az130 ez131), (wState (sZ 0) k (vz135 0) (nz134 0) (az133 0)), (wState (sZ 1) k (vz135 1) (nz134 1) (az133 1)), (wState (sZ 2) k (vz135 2) (nz134 2) (az133 2)), (wState (sZ 3) k (vz135 3) (nz134 3) (az133 3)), (wState (sZ 4) k (vz135 4) (nz134 4) (az133 4)), (wState (sZ 5) k (vz135 5) (nz134 5) (az133 5)), (wState (sZ 6) k (vz135 6) (nz134 6) (az133 6)), (wState (sZ 7) k (vz135 7) (nz134 7) (az133 7))] ++ List.flatten [(wSag qX k tapeX (qV 0) actsX (qN 0) (qP 0) storyX (qZ 0) orderSearchX routeSearchX setSearchX probeX slot0X slot1X slot2X slot3X image0X image1X image2X aX), (wValley qV k vV bV cV wV aV eV), (wPlan qN k vN aN eN), (wStoO qZ k (qV 0) (qP 0) (sZ 0 0) (sZ 1 0) (sZ 2 0) (sZ 3 0) (sZ 4 0) (sZ 5 0) (sZ 6 0) (sZ 7 0))]) H → va_D A (List.flatten [(wPlan qP k vz132 az130 ez131), (wState (sZ 0) k (vz135 0) (nz134 0) (az133 0)), (wState (sZ 1) k (vz135 1) (nz134 1) (az133 1)), (wState (sZ 2) k (vz135 2) (nz134 2) (az133 2)), (wState (sZ 3) k (vz135 3) (nz134 3) (az133 3)), (wState (sZ 4) k (vz135 4) (nz134 4) (az133 4)), (wState (sZ 5) k (vz135 5) (nz134 5) (az133 5)), (wState (sZ 6) k (vz135 6) (nz134 6) (az133 6)), (wState (sZ 7) k (vz135 7) (nz134 7) (az133 7))] ++ List.flatten [(wSag qX k tapeX (qV 0) actsX (qN 0) (qP 0) storyX (qZ 0) orderSearchX routeSearchX setSearchX probeX slot0X slot1X slot2X slot3X image0X image1X image2X aX), (wValley qV k vV bV cV wV aV eV), (wPlan qN k vN aN eN), (wStoO qZ k (qV 0) (qP 0) (sZ 0 0) (sZ 1 0) (sZ 2 0) (sZ 3 0) (sZ 4 0) (sZ 5 0) (sZ 6 0) (sZ 7 0))]) → va_S A s.heap H locs → lv_has ls 8 [(0, .ref (qX 0)), (1, .int p1), (2, .int p2), (3, .long xz136), (5, .int xz95)] → W p l e (headSpec wk_c_X11_chance ({ frames := 6, cells := 0, slots := 0, locals := 195 })).room s m ([.ref (qX 0), .int p1, .int p2] : List Value).toArray below meth c H locs 0 0 Q (F0 m 72 ls []) := by
                  intro H locs ls az130 ez131 vz132 az133 nz134 vz135 xz136 hez131 hnz134 hP hD hS hl
                  obtain ⟨xz138, exz138⟩ : ∃ y : Int32, y = xz95 + Int32.ofInt (1) := ⟨_, rfl⟩
                  have fxz138 : xz138.toInt = xz95.toInt + (1) := by rw [exz138]; exact fb_addI (y := Int32.ofInt (1)) (by show -2147483648 ≤ xz95.toInt + (1); omega) (by show xz95.toInt + (1) < 2147483648; omega)
                  refine lv_iinc (v := xz138) (lv' := [(5, .int xz138), (0, .ref (qX 0)), (1, .int p1), (2, .int p2), (3, .long xz136)]) hx hb dX11_chance_72 hl (k := 4) rfl exz138.symm (by decide) rfl (fun ls hl => ?_)
                  refine lv_goto (tgt := 28) hx hb dX11_chance_75 (by decide) ?_
                  exact ih28 H locs ls az130 ez131 vz132 az133 nz134 vz135 xz136 xz138 (by show (2147483647 - xz138.toInt).toNat < n9_28; omega) hez131 hnz134 (by show 0 ≤ xz138.toInt; omega) hP hD hS (lv_sub hl [1, 2, 3, 4, 0] rfl)
                refine lv_if_le (tgt := 72) hx hb dX11_chance_54 (by decide) (fun cz139 => ?_) (fun cz139 => ?_)
                · skip
                  rw [lg_cmp_le] at cz139
                  have zz140 : rz113.toInt ≤ (0 : Int) := zi_leL.mp cz139
                  exact ct72_kz137 H locs ls az88 ez89 vz90 az91 nz92 vz93 xz94  hez89 hnz92 hP hD hS (lv_sub hl [1, 2, 3, 4, 5] rfl)
                · skip
                  rw [lg_cmp_le] at cz139
                  have zz141 : ¬ rz113.toInt ≤ (0 : Int) := fun h9 => cz139 (zi_leL.mpr h9)
                  refine lv_aload_n hx hb dX11_chance_57 rfl (lv_at hl 1 rfl) ?_
                  refine lv_iload hx hb dX11_chance_58 (lv_at hl 5 rfl) ?_
                  refine lv_iload_n hx hb dX11_chance_60 rfl (lv_at hl 2 rfl) ?_
                  have hPc := hP
                  have hDc : va_D A (List.flatten [(wPlan qP k vz90 az88 ez89), (wState (sZ 0) k (vz93 0) (nz92 0) (az91 0)), (wState (sZ 1) k (vz93 1) (nz92 1) (az91 1)), (wState (sZ 2) k (vz93 2) (nz92 2) (az91 2)), (wState (sZ 3) k (vz93 3) (nz92 3) (az91 3)), (wState (sZ 4) k (vz93 4) (nz92 4) (az91 4)), (wState (sZ 5) k (vz93 5) (nz92 5) (az91 5)), (wState (sZ 6) k (vz93 6) (nz92 6) (az91 6)), (wState (sZ 7) k (vz93 7) (nz92 7) (az91 7))] ++ List.flatten [(wSag qX k tapeX (qV 0) actsX (qN 0) (qP 0) storyX (qZ 0) orderSearchX routeSearchX setSearchX probeX slot0X slot1X slot2X slot3X image0X image1X image2X aX), (wValley qV k vV bV cV wV aV eV), (wPlan qN k vN aN eN), (wStoO qZ k (qV 0) (qP 0) (sZ 0 0) (sZ 1 0) (sZ 2 0) (sZ 3 0) (sZ 4 0) (sZ 5 0) (sZ 6 0) (sZ 7 0))]) := wc_subD hD [0, 1, 2, 3, 4, 5, 6, 7, 8, 9, 10, 11, 12] rfl rfl
                  have hFc := wc_free hDc hS hA
                  refine va_calli (va_runV (As := [.int xz95, .int p1]) (rest := []) ⟨hx, hb, hml, hown, hts⟩ (c_X11_breaksInCold l dC dI k H.size qX tapeX actsX storyX orderSearchX routeSearchX setSearchX probeX slot0X slot1X slot2X slot3X image0X image1X image2X aX qV vV bV cV wV aV eV qN vN aN eN qP vz90 az88 ez89 qZ sZ vz93 nz92 az91 xz95 p1 hbV hcV hwV heV heN hez89 hnz92) (cwV 2 hts (gk_V (wl_mem 10 rfl) (wl_mem 11 rfl) (wl_mem 12 rfl) (wl_mem 9 rfl) (fun w h => List.mem_cons_of_mem _ (List.mem_append_right _ (List.mem_append_right _ (List.mem_append_right _ (List.mem_append_right _ (List.mem_append_right _ (List.mem_append_left _ h))))))) wkg_c_X11_breaksInCold) rfl rfl rfl (by decide +kernel) ⟨Nat.le_of_ble_eq_true rfl, Nat.le_of_ble_eq_true rfl⟩) ⟨fun a U g mk q => by obtain ⟨q0, q1, qP, qK, qD⟩ := q; exact ⟨q0, q1, qP, va_K.moved (u := U) (U := U.calling g mk a) (Vm.Alike.refl U.vm) qK, qD⟩, va_recv hK hPc (ci := 11) (q0 := 91) rfl rfl, fun U hU hW => ⟨rfl, by rw [hU], by rw [hU]; exact hPc, va_K.moved hW.alike hK, hDc.weaken (fun _ _ _ _ => trivial)⟩⟩ rfl rfl hl.1 rfl (lv_room (Nat.le_of_ble_eq_true rfl)) dX11_chance_61 ⟨Nat.le_of_ble_eq_true rfl, Nat.le_of_ble_eq_true rfl⟩) hS (fun q _ h => hFc q h) hFc (fun rz143 u t H1 locs ht hvm gz142 hB hz1 hk1 hS => ?_)
                  obtain ⟨vz144, az145, ez146, vz147, nz148, az149, hez146, hnz148, hP1⟩ := hB
                  rw [ht] at hP1
                  obtain ⟨hP, hD⟩ := w_callR hP hD hk1 hP1 [0, 1, 2, 3, 4, 5, 6, 7, 8] rfl rfl (wk_memC [9, 10, 11, 12] rfl) rfl [some 0, some 1, some 2, some 3, some 4, some 5, some 6, some 7, some 8] rfl rfl
                  clear hPc hDc hFc hk1 hP1
                  generalize H1 = H at hP hS ⊢
                  have hP : va_P (dC, dI) vwCl (List.flatten [(wPlan qP k vz144 az145 ez146), (wState (sZ 0) k (vz147 0) (nz148 0) (az149 0)), (wState (sZ 1) k (vz147 1) (nz148 1) (az149 1)), (wState (sZ 2) k (vz147 2) (nz148 2) (az149 2)), (wState (sZ 3) k (vz147 3) (nz148 3) (az149 3)), (wState (sZ 4) k (vz147 4) (nz148 4) (az149 4)), (wState (sZ 5) k (vz147 5) (nz148 5) (az149 5)), (wState (sZ 6) k (vz147 6) (nz148 6) (az149 6)), (wState (sZ 7) k (vz147 7) (nz148 7) (az149 7))] ++ List.flatten [(wSag qX k tapeX (qV 0) actsX (qN 0) (qP 0) storyX (qZ 0) orderSearchX routeSearchX setSearchX probeX slot0X slot1X slot2X slot3X image0X image1X image2X aX), (wValley qV k vV bV cV wV aV eV), (wPlan qN k vN aN eN), (wStoO qZ k (qV 0) (qP 0) (sZ 0 0) (sZ 1 0) (sZ 2 0) (sZ 3 0) (sZ 4 0) (sZ 5 0) (sZ 6 0) (sZ 7 0))]) H := hP
                  have hD : va_D A (List.flatten [(wPlan qP k vz144 az145 ez146), (wState (sZ 0) k (vz147 0) (nz148 0) (az149 0)), (wState (sZ 1) k (vz147 1) (nz148 1) (az149 1)), (wState (sZ 2) k (vz147 2) (nz148 2) (az149 2)), (wState (sZ 3) k (vz147 3) (nz148 3) (az149 3)), (wState (sZ 4) k (vz147 4) (nz148 4) (az149 4)), (wState (sZ 5) k (vz147 5) (nz148 5) (az149 5)), (wState (sZ 6) k (vz147 6) (nz148 6) (az149 6)), (wState (sZ 7) k (vz147 7) (nz148 7) (az149 7))] ++ List.flatten [(wSag qX k tapeX (qV 0) actsX (qN 0) (qP 0) storyX (qZ 0) orderSearchX routeSearchX setSearchX probeX slot0X slot1X slot2X slot3X image0X image1X image2X aX), (wValley qV k vV bV cV wV aV eV), (wPlan qN k vN aN eN), (wStoO qZ k (qV 0) (qP 0) (sZ 0 0) (sZ 1 0) (sZ 2 0) (sZ 3 0) (sZ 4 0) (sZ 5 0) (sZ 6 0) (sZ 7 0))]) := hD
                  refine W.widen (k := 0) (n := 0) (Nat.le_refl 0) (Nat.le_refl 0) ?_
                  have pz150 := gz142
                  have pz150 : rz143.toInt = 0 ∨ rz143.toInt = 1 := pz150
                  refine lv_if_eq (tgt := 72) hx hb dX11_chance_64 (by decide) (fun cz151 => ?_) (fun cz151 => ?_)
                  · skip
                    have zz152 : rz143.toInt = (0 : Int) := zi_eq.mp cz151
                    exact ct72_kz137 H locs ls az145 ez146 vz144 az149 nz148 vz147 xz94  hez146 hnz148 hP hD hS (lv_sub hl [1, 2, 3, 4, 5] rfl)
                  · skip
                    have zz153 : ¬ rz143.toInt = (0 : Int) := fun h9 => cz151 (zi_eq.mpr h9)
                    refine lv_lload_n hx hb dX11_chance_67 rfl (lv_at hl 4 rfl) ?_
                    refine lv_lload hx hb dX11_chance_68 (lv_at hl 0 rfl) ?_
                    refine lv_ladd hx hb dX11_chance_70 ?_
                    refine lv_topl (fun xz154 exz154 => ?_)
                    refine lv_lstore_n (lv' := [(3, .long xz154), (6, .long rz113), (0, .ref (qX 0)), (1, .int p1), (2, .int p2), (5, .int xz95)]) hx hb dX11_chance_71 rfl hl (by decide) rfl (fun ls hl => ?_)
                    exact ct72_kz137 H locs ls az145 ez146 vz144 az149 nz148 vz147 xz154  hez146 hnz148 hP hD hS (lv_sub hl [2, 3, 4, 0, 5] rfl)
          exact lp28_kz96 _ s.heap [] ls aP eP vP aZ nZ vZ (0 : Int64) (0 : Int32) (Nat.lt_succ_self _) heP hnZ (by show 0 ≤ (0 : Int); omega) hP hD hS (lv_sub hl [2, 3, 4, 1, 0] rfl)
        · skip
          have zz155 : ¬ p2.toInt ≤ (1 : Int) := fun h9 => cz26 (zi_le.mpr h9)
          refine lv_bipush (v := (-2)) hx hb dX11_chance_20 (by decide) ?_
          rw [hQ]
          exact W.iret (v := (-2 : Int32)) hx hb hr (fun t ht hW => ⟨⟨(-2 : Int32), (), rfl, trivial, vP, aP, eP, vZ, nZ, aZ, heP, hnZ, by rw [ht]; exact hP⟩, hS.F ht⟩) hS.2.2 dX11_chance_22
def wk_c_X11_mean : List Cond := .code yX11_mean cX11_mean 8 (some .long) :: ([.fieldLink RX11 19 "SagMemory" "told" "LSagMemory$Valley;", .methodLink RX11 131 yX10_hasBridge, .instanceMethod yX10_hasBridge, .selects RX10 yX10_hasBridge yX10_hasBridge, .initialized RX10, .constantLong RX11 340 (-2), .fieldLink RX11 177 "SagMemory$Valley" "carts" "I", .methodLink RX11 330 yX11_waysTo, .instanceMethod yX11_waysTo, .selects RX11 yX11_waysTo yX11_waysTo, .initialized RX11, .methodLink RX11 342 yX11_tryCold, .instanceMethod yX11_tryCold, .selects RX11 yX11_tryCold yX11_tryCold, .fieldLink RX11 49 "SagMemory" "attempt" "LSagMemory$Story;", .methodLink RX11 183 yX8_atEnd, .instanceMethod yX8_atEnd, .selects RX8 yX8_atEnd yX8_atEnd, .initialized RX8, .fieldLink RX11 194 "SagMemory$State" "memories" "[LSagMemory$Memory;", .methodLink RX11 205 yX2_depth, .instanceMethod yX2_depth, .selects RX2 yX2_depth yX2_depth, .initialized RX2, .methodLink RX11 336 yX11_power, .static yX11_power, .methodLink RX11 319 yX11_lowestTerm, .static yX11_lowestTerm] ++ (wsX110 ++ (wk_c_X10_hasBridge ++ (wsX100 ++ (wk_c_X11_waysTo ++ (wk_c_X11_tryCold ++ (wk_c_X8_atEnd ++ (wsX70 ++ (wk_c_X2_depth ++ (wk_c_X11_power ++ (wk_c_X11_lowestTerm ++ [])))))))))))
theorem wkg_c_X11_mean : wk_c_X11_mean.all goodWord = true := by decide +kernel
set_option maxHeartbeats 4000000 in
set_option maxRecDepth 100000 in
theorem c_X11_mean (l : Launch) (dC : Nat → ClassId) (dI : Nat → Nat → Nat) (k : Nat → ClassId) (sz : Nat) (qX : Nat → Nat) (tapeX : Nat) (actsX : Nat) (storyX : Nat) (orderSearchX : Nat) (routeSearchX : Nat) (setSearchX : Nat) (probeX : Nat) (slot0X : Nat) (slot1X : Nat) (slot2X : Nat) (slot3X : Nat) (image0X : Nat) (image1X : Nat) (image2X : Nat) (aX : Nat → Nat → Int32) (qV : Nat → Nat) (vV : Nat → Int32) (bV : Nat → Int32) (cV : Nat → Int32) (wV : Nat → Int32) (aV : Nat → Nat → Int32) (eV : Nat → Nat → Int32) (qN : Nat → Nat) (vN : Nat → Int32) (aN : Nat → Nat → Int32) (eN : Nat → Nat → Int32) (qP : Nat → Nat) (vP : Nat → Int32) (aP : Nat → Nat → Int32) (eP : Nat → Nat → Int32) (qZ : Nat → Nat) (sZ : Nat → Nat → Nat) (vZ : Nat → Nat → Int32) (nZ : Nat → Nat → Int32) (aZ : Nat → Nat → Nat → Int32) (p1 : Int32) (p2 : Int32) (hbV : Rg 0 3 bV) (hcV : Rg 0 7 cV) (hwV : Rg 0 5 wV) (heV : RgA 0 99 eV) (heN : RgA 0 99 eN) (heP : RgA 0 99 eP) (hnZ : ∀ t9, Rg 0 8 (nZ t9)) : Met l yX11_mean wk_c_X11_mean ({ frames := 5, cells := 0, slots := 0, locals := 173 }) (va_Pc [.ref (qX 0), .int p1, .int p2] (fun U => U.heap.size = sz ∧ va_P (dC, dI) vwCl (List.flatten [(wPlan qP k vP aP eP), (wState (sZ 0) k (vZ 0) (nZ 0) (aZ 0)), (wState (sZ 1) k (vZ 1) (nZ 1) (aZ 1)), (wState (sZ 2) k (vZ 2) (nZ 2) (aZ 2)), (wState (sZ 3) k (vZ 3) (nZ 3) (aZ 3)), (wState (sZ 4) k (vZ 4) (nZ 4) (aZ 4)), (wState (sZ 5) k (vZ 5) (nZ 5) (aZ 5)), (wState (sZ 6) k (vZ 6) (nZ 6) (aZ 6)), (wState (sZ 7) k (vZ 7) (nZ 7) (aZ 7))] ++ List.flatten [(wSag qX k tapeX (qV 0) actsX (qN 0) (qP 0) storyX (qZ 0) orderSearchX routeSearchX setSearchX probeX slot0X slot1X slot2X slot3X image0X image1X image2X aX), (wValley qV k vV bV cV wV aV eV), (wPlan qN k vN aN eN), (wStoO qZ k (qV 0) (qP 0) (sZ 0 0) (sZ 1 0) (sZ 2 0) (sZ 3 0) (sZ 4 0) (sZ 5 0) (sZ 6 0) (sZ 7 0))]) U.heap ∧ va_K (dC, dI) vwCl (tK k) U ∧ va_D (fun _ => True) (List.flatten [(wPlan qP k vP aP eP), (wState (sZ 0) k (vZ 0) (nZ 0) (aZ 0)), (wState (sZ 1) k (vZ 1) (nZ 1) (aZ 1)), (wState (sZ 2) k (vZ 2) (nZ 2) (aZ 2)), (wState (sZ 3) k (vZ 3) (nZ 3) (aZ 3)), (wState (sZ 4) k (vZ 4) (nZ 4) (aZ 4)), (wState (sZ 5) k (vZ 5) (nZ 5) (aZ 5)), (wState (sZ 6) k (vZ 6) (nZ 6) (aZ 6)), (wState (sZ 7) k (vZ 7) (nZ 7) (aZ 7))] ++ List.flatten [(wSag qX k tapeX (qV 0) actsX (qN 0) (qP 0) storyX (qZ 0) orderSearchX routeSearchX setSearchX probeX slot0X slot1X slot2X slot3X image0X image1X image2X aX), (wValley qV k vV bV cV wV aV eV), (wPlan qN k vN aN eN), (wStoO qZ k (qV 0) (qP 0) (sZ 0 0) (sZ 1 0) (sZ 2 0) (sZ 3 0) (sZ 4 0) (sZ 5 0) (sZ 6 0) (sZ 7 0))]))) (va_Ql (fun (r : Int64) (_ : Unit) => True) (fun (_ : Unit) (t : State) => ∃ (vP' : Nat → Int32) (aP' : Nat → Nat → Int32) (eP' : Nat → Nat → Int32) (vZ' : Nat → Nat → Int32) (nZ' : Nat → Nat → Int32) (aZ' : Nat → Nat → Nat → Int32), RgA 0 99 eP' ∧ (∀ t9, Rg 0 8 (nZ' t9)) ∧ va_P (dC, dI) vwCl (List.flatten [(wPlan qP k vP' aP' eP'), (wState (sZ 0) k (vZ' 0) (nZ' 0) (aZ' 0)), (wState (sZ 1) k (vZ' 1) (nZ' 1) (aZ' 1)), (wState (sZ 2) k (vZ' 2) (nZ' 2) (aZ' 2)), (wState (sZ 3) k (vZ' 3) (nZ' 3) (aZ' 3)), (wState (sZ 4) k (vZ' 4) (nZ' 4) (aZ' 4)), (wState (sZ 5) k (vZ' 5) (nZ' 5) (aZ' 5)), (wState (sZ 6) k (vZ' 6) (nZ' 6) (aZ' 6)), (wState (sZ 7) k (vZ' 7) (nZ' 7) (aZ' 7))] ++ List.flatten [(wSag qX k tapeX (qV 0) actsX (qN 0) (qP 0) storyX (qZ 0) orderSearchX routeSearchX setSearchX probeX slot0X slot1X slot2X slot3X image0X image1X image2X aX), (wValley qV k vV bV cV wV aV eV), (wPlan qN k vN aN eN), (wStoO qZ k (qV 0) (qP 0) (sZ 0 0) (sZ 1 0) (sZ 2 0) (sZ 3 0) (sZ 4 0) (sZ 5 0) (sZ 6 0) (sZ 7 0))]) t.heap) (va_A (List.flatten [(wPlan qP k vP aP eP), (wState (sZ 0) k (vZ 0) (nZ 0) (aZ 0)), (wState (sZ 1) k (vZ 1) (nZ 1) (aZ 1)), (wState (sZ 2) k (vZ 2) (nZ 2) (aZ 2)), (wState (sZ 3) k (vZ 3) (nZ 3) (aZ 3)), (wState (sZ 4) k (vZ 4) (nZ 4) (aZ 4)), (wState (sZ 5) k (vZ 5) (nZ 5) (aZ 5)), (wState (sZ 6) k (vZ 6) (nZ 6) (aZ 6)), (wState (sZ 7) k (vZ 7) (nZ 7) (aZ 7))] ++ List.flatten [(wSag qX k tapeX (qV 0) actsX (qN 0) (qP 0) storyX (qZ 0) orderSearchX routeSearchX setSearchX probeX slot0X slot1X slot2X slot3X image0X image1X image2X aX), (wValley qV k vV bV cV wV aV eV), (wPlan qN k vN aN eN), (wStoO qZ k (qV 0) (qP 0) (sZ 0 0) (sZ 1 0) (sZ 2 0) (sZ 3 0) (sZ 4 0) (sZ 5 0) (sZ 6 0) (sZ 7 0))]) sz)) 0 0 (va_A (List.flatten [(wPlan qP k vP aP eP), (wState (sZ 0) k (vZ 0) (nZ 0) (aZ 0)), (wState (sZ 1) k (vZ 1) (nZ 1) (aZ 1)), (wState (sZ 2) k (vZ 2) (nZ 2) (aZ 2)), (wState (sZ 3) k (vZ 3) (nZ 3) (aZ 3)), (wState (sZ 4) k (vZ 4) (nZ 4) (aZ 4)), (wState (sZ 5) k (vZ 5) (nZ 5) (aZ 5)), (wState (sZ 6) k (vZ 6) (nZ 6) (aZ 6)), (wState (sZ 7) k (vZ 7) (nZ 7) (aZ 7))] ++ List.flatten [(wSag qX k tapeX (qV 0) actsX (qN 0) (qP 0) storyX (qZ 0) orderSearchX routeSearchX setSearchX probeX slot0X slot1X slot2X slot3X image0X image1X image2X aX), (wValley qV k vV bV cV wV aV eV), (wPlan qN k vN aN eN), (wStoO qZ k (qV 0) (qP 0) (sZ 0 0) (sZ 1 0) (sZ 2 0) (sZ 3 0) (sZ 4 0) (sZ 5 0) (sZ 6 0) (sZ 7 0))]) sz) := by
  refine Met.ofW (cc := cX11_mean) (maxL := 8) (ret := (some .long)) (by decide) rfl ?_
  intro p e s m args below meth c s₁ B hml hv
  obtain ⟨rfl, hsz, hP, hK, hD0⟩ := hv
  have hx := B.exec
  have hb := B.bytes
  have hr := B.returns
  have hts := atoms_spec (ws := wk_c_X11_mean) B.pre
  have hown : s.vm.findClass RX11 = some m.cls := findClass_of_methodNamed B.named
  have hlocks := B.notSynchronized
  subst hsz
  have hD := hD0.self (sz := s.heap.size)
  generalize hAe : va_A (List.flatten [(wPlan qP k vP aP eP), (wState (sZ 0) k (vZ 0) (nZ 0) (aZ 0)), (wState (sZ 1) k (vZ 1) (nZ 1) (aZ 1)), (wState (sZ 2) k (vZ 2) (nZ 2) (aZ 2)), (wState (sZ 3) k (vZ 3) (nZ 3) (aZ 3)), (wState (sZ 4) k (vZ 4) (nZ 4) (aZ 4)), (wState (sZ 5) k (vZ 5) (nZ 5) (aZ 5)), (wState (sZ 6) k (vZ 6) (nZ 6) (aZ 6)), (wState (sZ 7) k (vZ 7) (nZ 7) (aZ 7))] ++ List.flatten [(wSag qX k tapeX (qV 0) actsX (qN 0) (qP 0) storyX (qZ 0) orderSearchX routeSearchX setSearchX probeX slot0X slot1X slot2X slot3X image0X image1X image2X aX), (wValley qV k vV bV cV wV aV eV), (wPlan qN k vN aN eN), (wStoO qZ k (qV 0) (qP 0) (sZ 0 0) (sZ 1 0) (sZ 2 0) (sZ 3 0) (sZ 4 0) (sZ 5 0) (sZ 6 0) (sZ 7 0))]) s.heap.size = A at hD ⊢
  have hA : ∀ q : Nat, s.heap.size ≤ q → A q := fun q h => by rw [← hAe]; exact Or.inr h
  have hS : va_S A s.heap s.heap [] := va_S.rf
  have hP : va_P (dC, dI) vwCl (List.flatten [(wPlan qP k vP aP eP), (wState (sZ 0) k (vZ 0) (nZ 0) (aZ 0)), (wState (sZ 1) k (vZ 1) (nZ 1) (aZ 1)), (wState (sZ 2) k (vZ 2) (nZ 2) (aZ 2)), (wState (sZ 3) k (vZ 3) (nZ 3) (aZ 3)), (wState (sZ 4) k (vZ 4) (nZ 4) (aZ 4)), (wState (sZ 5) k (vZ 5) (nZ 5) (aZ 5)), (wState (sZ 6) k (vZ 6) (nZ 6) (aZ 6)), (wState (sZ 7) k (vZ 7) (nZ 7) (aZ 7))] ++ List.flatten [(wSag qX k tapeX (qV 0) actsX (qN 0) (qP 0) storyX (qZ 0) orderSearchX routeSearchX setSearchX probeX slot0X slot1X slot2X slot3X image0X image1X image2X aX), (wValley qV k vV bV cV wV aV eV), (wPlan qN k vN aN eN), (wStoO qZ k (qV 0) (qP 0) (sZ 0 0) (sZ 1 0) (sZ 2 0) (sZ 3 0) (sZ 4 0) (sZ 5 0) (sZ 6 0) (sZ 7 0))]) s.heap := hP
  have hl := lv_entry ([.ref (qX 0), .int p1, .int p2]) (n := 8) (Nat.le_of_ble_eq_true rfl)
  rw [lg_entry_eq]
  generalize (lg_sl ([.ref (qX 0), .int p1, .int p2]) ++ List.replicate (8 - (lg_sl ([.ref (qX 0), .int p1, .int p2])).length) Slot.unset).toArray = ls at hl ⊢
  have hl : lv_has ls 8 [(0, .ref (qX 0)), (1, .int p1), (2, .int p2)] := hl
  refine w_gen (fun Q hQ => ?_)
  refine lv_aload_n hx hb dX11_mean_0 rfl (lv_at hl 0 rfl) ?_
  refine va_get (D := (dC, dI)) (ci := 11) (v := .ref (qV 0)) (C := RX11) (T := TX11) (N := 15) hx hb hts (fun w h => List.mem_cons_of_mem _ (List.mem_append_right _ (List.mem_append_left _ h))) hown hK hP 91 rfl rfl 1 (by decide) (hts (.fieldLink RX11 19 "SagMemory" "told" "LSagMemory$Valley;") (wl_mem 0 rfl)) (fun _ h9 => h9) rfl dX11_mean_1 ?_
  refine lv_iload_n hx hb dX11_mean_4 rfl (lv_at hl 1 rfl) ?_
  have hPc := hP.sub (ws' := (List.flatten [(wValley qV k vV bV cV wV aV eV)])) [96, 97, 98, 99, 100, 101, 102, 103] rfl
  refine vp_callSi (va_Run.run (va_runV (As := [.int p1]) (rest := []) ⟨hx, hb, hml, hown, hts⟩ (c_X10_hasBridge l dC dI k qV vV bV cV wV aV eV p1 hbV hcV hwV heV) (cwV 1 hts (gk_V (wl_mem 1 rfl) (wl_mem 2 rfl) (wl_mem 3 rfl) (wl_mem 4 rfl) (fun w h => List.mem_cons_of_mem _ (List.mem_append_right _ (List.mem_append_right _ (List.mem_append_left _ h)))) wkg_c_X10_hasBridge) rfl rfl rfl (by decide +kernel) ⟨Nat.le_of_ble_eq_true rfl, Nat.le_of_ble_eq_true rfl⟩) ⟨fun a U g mk q => by obtain ⟨q0, qP, qK⟩ := q; exact ⟨q0, qP, va_K.moved (u := U) (U := U.calling g mk a) (Vm.Alike.refl U.vm) qK⟩, va_recv hK hPc (ci := 10) (q0 := 0) rfl rfl, fun U hU hW => ⟨rfl, by rw [hU]; exact hPc, va_K.moved hW.alike hK⟩⟩ rfl rfl hl.1 rfl (lv_room (Nat.le_of_ble_eq_true rfl)) dX11_mean_5 ⟨Nat.le_of_ble_eq_true rfl, Nat.le_of_ble_eq_true rfl⟩)) (fun rz2 gz1 => ?_)
  clear hPc
  rcases gz1 with ⟨er, cz3⟩ | ⟨er, cz4, cz5⟩ | ⟨er, cz6, cz7⟩
  · obtain rfl := er.symm
    have bz8 := fb_rng p1
    have zz9 : p1.toInt < (0 : Int) := zi_lt.mp cz3
    refine lv_if_eq (tgt := 20) hx hb dX11_mean_8 (by decide) (fun cz10 => ?_) (fun cz10 => ?_)
    · skip
      refine lv_ldc2 (v := (-2)) hx hb hown (hts (.constantLong RX11 340 (-2)) (wl_mem 5 rfl)) dX11_mean_20 ?_
      rw [hQ]
      exact W.lret (v := (-2 : Int64)) hx hb hr (fun t ht hW => ⟨⟨(-2 : Int64), (), rfl, trivial, vP, aP, eP, vZ, nZ, aZ, heP, hnZ, by rw [ht]; exact hP⟩, hS.F ht⟩) hS.2.2 dX11_mean_23
    · skip
      exact absurd cz10 (by decide)
  · obtain rfl := er.symm
    have bz11 := fb_rng p1
    have zz12 : ¬ p1.toInt < (0 : Int) := fun h9 => cz4 (zi_lt.mpr h9)
    have bz13 := hbV 0
    have zz14 : (bV 0).toInt ≤ p1.toInt := zi_le.mp cz5
    refine lv_if_eq (tgt := 20) hx hb dX11_mean_8 (by decide) (fun cz15 => ?_) (fun cz15 => ?_)
    · skip
      refine lv_ldc2 (v := (-2)) hx hb hown (hts (.constantLong RX11 340 (-2)) (wl_mem 5 rfl)) dX11_mean_20 ?_
      rw [hQ]
      exact W.lret (v := (-2 : Int64)) hx hb hr (fun t ht hW => ⟨⟨(-2 : Int64), (), rfl, trivial, vP, aP, eP, vZ, nZ, aZ, heP, hnZ, by rw [ht]; exact hP⟩, hS.F ht⟩) hS.2.2 dX11_mean_23
    · skip
      exact absurd cz15 (by decide)
  · obtain rfl := er.symm
    have bz16 := fb_rng p1
    have zz17 : ¬ p1.toInt < (0 : Int) := fun h9 => cz6 (zi_lt.mpr h9)
    have bz18 := hbV 0
    have zz19 : ¬ (bV 0).toInt ≤ p1.toInt := fun h9 => cz7 (zi_le.mpr h9)
    refine lv_if_eq (tgt := 20) hx hb dX11_mean_8 (by decide) (fun cz20 => ?_) (fun cz20 => ?_)
    · skip
      exact absurd cz20 (by decide)
    · skip
      refine lv_iload_n hx hb dX11_mean_11 rfl (lv_at hl 2 rfl) ?_
      refine lv_if_lt (tgt := 20) hx hb dX11_mean_12 (by decide) (fun cz21 => ?_) (fun cz21 => ?_)
      · skip
        have bz22 := fb_rng p2
        have zz23 : p2.toInt < (0 : Int) := zi_lt.mp cz21
        refine lv_ldc2 (v := (-2)) hx hb hown (hts (.constantLong RX11 340 (-2)) (wl_mem 5 rfl)) dX11_mean_20 ?_
        rw [hQ]
        exact W.lret (v := (-2 : Int64)) hx hb hr (fun t ht hW => ⟨⟨(-2 : Int64), (), rfl, trivial, vP, aP, eP, vZ, nZ, aZ, heP, hnZ, by rw [ht]; exact hP⟩, hS.F ht⟩) hS.2.2 dX11_mean_23
      · skip
        have bz24 := fb_rng p2
        have zz25 : ¬ p2.toInt < (0 : Int) := fun h9 => cz21 (zi_lt.mpr h9)
        refine lv_iload_n hx hb dX11_mean_15 rfl (lv_at hl 2 rfl) ?_
        refine lv_iconst (v := 1) hx hb dX11_mean_16 (by decide) ?_
        refine lv_icmp_le (tgt := 24) hx hb dX11_mean_17 (by decide) (fun cz26 => ?_) (fun cz26 => ?_)
        · skip
          have zz27 : p2.toInt ≤ (1 : Int) := zi_le.mp cz26
          refine lv_lconst (v := 0) hx hb dX11_mean_24 (by decide) ?_
          refine lv_lstore_n (lv' := [(3, .long 0), (0, .ref (qX 0)), (1, .int p1), (2, .int p2)]) hx hb dX11_mean_25 rfl hl (by decide) rfl (fun ls hl => ?_)
          refine lv_iconst (v := 0) hx hb dX11_mean_26 (by decide) ?_
          refine lv_istore (lv' := [(5, .int 0), (3, .long 0), (0, .ref (qX 0)), (1, .int p1), (2, .int p2)]) hx hb dX11_mean_27 hl (by decide) rfl (fun ls hl => ?_)
          have lp29_kz346 : ∀ (n9_29 : Nat) (H : Heap) (locs : List Loc) (ls : Array Slot) (az338 : Nat → Nat → Int32) (ez339 : Nat → Nat → Int32) (vz340 : Nat → Int32) (az341 : Nat → Nat → Nat → Int32) (nz342 : Nat → Nat → Int32) (vz343 : Nat → Nat → Int32) (xz344 : Int64) (xz345 : Int32), (2147483647 - xz345.toInt).toNat < n9_29 → RgA 0 99 ez339 → (∀ t9, Rg 0 8 (nz342 t9)) → 0 ≤ xz345.toInt → va_P (dC, dI) vwCl (List.flatten [(wPlan qP k vz340 az338 ez339), (wState (sZ 0) k (vz343 0) (nz342 0) (az341 0)), (wState (sZ 1) k (vz343 1) (nz342 1) (az341 1)), (wState (sZ 2) k (vz343 2) (nz342 2) (az341 2)), (wState (sZ 3) k (vz343 3) (nz342 3) (az341 3)), (wState (sZ 4) k (vz343 4) (nz342 4) (az341 4)), (wState (sZ 5) k (vz343 5) (nz342 5) (az341 5)), (wState (sZ 6) k (vz343 6) (nz342 6) (az341 6)), (wState (sZ 7) k (vz343 7) (nz342 7) (az341 7))] ++ List.flatten [(wSag qX k tapeX (qV 0) actsX (qN 0) (qP 0) storyX (qZ 0) orderSearchX routeSearchX setSearchX probeX slot0X slot1X slot2X slot3X image0X image1X image2X aX), (wValley qV k vV bV cV wV aV eV), (wPlan qN k vN aN eN), (wStoO qZ k (qV 0) (qP 0) (sZ 0 0) (sZ 1 0) (sZ 2 0) (sZ 3 0) (sZ 4 0) (sZ 5 0) (sZ 6 0) (sZ 7 0))]) H → va_D A (List.flatten [(wPlan qP k vz340 az338 ez339), (wState (sZ 0) k (vz343 0) (nz342 0) (az341 0)), (wState (sZ 1) k (vz343 1) (nz342 1) (az341 1)), (wState (sZ 2) k (vz343 2) (nz342 2) (az341 2)), (wState (sZ 3) k (vz343 3) (nz342 3) (az341 3)), (wState (sZ 4) k (vz343 4) (nz342 4) (az341 4)), (wState (sZ 5) k (vz343 5) (nz342 5) (az341 5)), (wState (sZ 6) k (vz343 6) (nz342 6) (az341 6)), (wState (sZ 7) k (vz343 7) (nz342 7) (az341 7))] ++ List.flatten [(wSag qX k tapeX (qV 0) actsX (qN 0) (qP 0) storyX (qZ 0) orderSearchX routeSearchX setSearchX probeX slot0X slot1X slot2X slot3X image0X image1X image2X aX), (wValley qV k vV bV cV wV aV eV), (wPlan qN k vN aN eN), (wStoO qZ k (qV 0) (qP 0) (sZ 0 0) (sZ 1 0) (sZ 2 0) (sZ 3 0) (sZ 4 0) (sZ 5 0) (sZ 6 0) (sZ 7 0))]) → va_S A s.heap H locs → lv_has ls 8 [(0, .ref (qX 0)), (1, .int p1), (2, .int p2), (3, .long xz344), (5, .int xz345)] → W p l e (headSpec wk_c_X11_mean ({ frames := 5, cells := 0, slots := 0, locals := 173 })).room s m ([.ref (qX 0), .int p1, .int p2] : List Value).toArray below meth c H locs 0 0 Q (F0 m 29 ls []) := by
            intro n9_29
            induction n9_29 with
            | zero => intro H locs ls az338 ez339 vz340 az341 nz342 vz343 xz344 xz345 hm; exact absurd hm (Nat.not_lt_zero _)
            | succ n9_29 ih29 =>
              intro H locs ls az338 ez339 vz340 az341 nz342 vz343 xz344 xz345 hm29 hez339 hnz342 jz347 hP hD hS hl
              refine lv_iload hx hb dX11_mean_29 (lv_at hl 4 rfl) ?_
              refine lv_iconst (v := 1) hx hb dX11_mean_31 (by decide) ?_
              refine lv_aload_n hx hb dX11_mean_32 rfl (lv_at hl 0 rfl) ?_
              refine va_get (D := (dC, dI)) (ci := 11) (v := .ref (qV 0)) (C := RX11) (T := TX11) (N := 15) hx hb hts (fun w h => List.mem_cons_of_mem _ (List.mem_append_right _ (List.mem_append_left _ h))) hown hK hP 91 rfl rfl 1 (by decide) (hts (.fieldLink RX11 19 "SagMemory" "told" "LSagMemory$Valley;") (wl_mem 0 rfl)) (fun _ h9 => h9) rfl dX11_mean_33 ?_
              refine va_get (D := (dC, dI)) (ci := 10) (v := .int (cV 0)) (C := RX10) (T := TX10) (N := 16) hx hb hts (fun w h => List.mem_cons_of_mem _ (List.mem_append_right _ (List.mem_append_right _ (List.mem_append_right _ (List.mem_append_left _ h))))) hown hK hP 96 rfl rfl 12 (by decide) (hts (.fieldLink RX11 177 "SagMemory$Valley" "carts" "I") (wl_mem 6 rfl)) (fun _ h9 => h9) rfl dX11_mean_36 ?_
              have bz348 := hcV 0
              refine lv_ishl hx hb dX11_mean_39 ?_
              refine lv_topi (fun xz349 exz349 => ?_)
              refine lv_icmp_ge (tgt := 92) hx hb dX11_mean_40 (by decide) (fun cz350 => ?_) (fun cz350 => ?_)
              · skip
                have bz351 := fb_rng xz349
                have bz352 := fb_rng xz345
                have zz353 : xz349.toInt ≤ xz345.toInt := zi_le.mp cz350
                refine lv_lload_n hx hb dX11_mean_92 rfl (lv_at hl 3 rfl) ?_
                refine lv_bipush (v := 10) hx hb dX11_mean_93 (by decide) ?_
                refine lv_aload_n hx hb dX11_mean_95 rfl (lv_at hl 0 rfl) ?_
                refine va_get (D := (dC, dI)) (ci := 11) (v := .ref (qV 0)) (C := RX11) (T := TX11) (N := 15) hx hb hts (fun w h => List.mem_cons_of_mem _ (List.mem_append_right _ (List.mem_append_left _ h))) hown hK hP 91 rfl rfl 1 (by decide) (hts (.fieldLink RX11 19 "SagMemory" "told" "LSagMemory$Valley;") (wl_mem 0 rfl)) (fun _ h9 => h9) rfl dX11_mean_96 ?_
                refine va_get (D := (dC, dI)) (ci := 10) (v := .int (cV 0)) (C := RX10) (T := TX10) (N := 16) hx hb hts (fun w h => List.mem_cons_of_mem _ (List.mem_append_right _ (List.mem_append_right _ (List.mem_append_right _ (List.mem_append_left _ h))))) hown hK hP 96 rfl rfl 12 (by decide) (hts (.fieldLink RX11 177 "SagMemory$Valley" "carts" "I") (wl_mem 6 rfl)) (fun _ h9 => h9) rfl dX11_mean_99 ?_
                have hPc : va_P (dC, dI) vwCl (List.flatten ([] : List va_W)) H := fun k q h => by simp at h
                refine vp_callSl (va_Run.run (va_runS (As := [.int 10, .int (cV 0)]) (rest := [.long xz344]) ⟨hx, hb, hml, hown, hts⟩ (c_X11_power l dC dI k (10 : Int32) (cV 0)) (va_cwS 2 hts (gk_S (wl_mem 24 rfl) (wl_mem 25 rfl) (wl_mem 10 rfl) (fun w h => List.mem_cons_of_mem _ (List.mem_append_right _ (List.mem_append_right _ (List.mem_append_right _ (List.mem_append_right _ (List.mem_append_right _ (List.mem_append_right _ (List.mem_append_right _ (List.mem_append_right _ (List.mem_append_right _ (List.mem_append_left _ h))))))))))) wkg_c_X11_power) rfl rfl rfl (by decide +kernel) ⟨Nat.le_of_ble_eq_true rfl, Nat.le_of_ble_eq_true rfl⟩) ⟨fun a U g mk q => by obtain ⟨q0, qP, qK⟩ := q; exact ⟨q0, qP, va_K.moved (u := U) (U := U.calling g mk a) (Vm.Alike.refl U.vm) qK⟩, fun U hU hW => ⟨rfl, by rw [hU]; exact hPc, va_K.moved hW.alike hK⟩⟩ rfl rfl hl.1 rfl (lv_room (Nat.le_of_ble_eq_true rfl)) dX11_mean_102 ⟨Nat.le_of_ble_eq_true rfl, Nat.le_of_ble_eq_true rfl⟩)) (fun rz355 gz354 => ?_)
                clear hPc
                refine lv_iload_n hx hb dX11_mean_105 rfl (lv_at hl 2 rfl) ?_
                have hPc : va_P (dC, dI) vwCl (List.flatten ([] : List va_W)) H := fun k q h => by simp at h
                refine vp_callSl (va_Run.run (va_runS (As := [.long xz344, .long rz355, .int p2]) (rest := []) ⟨hx, hb, hml, hown, hts⟩ (c_X11_lowestTerm l dC dI k xz344 rz355 p2) (va_cwS 3 hts (gk_S (wl_mem 26 rfl) (wl_mem 27 rfl) (wl_mem 10 rfl) (fun w h => List.mem_cons_of_mem _ (List.mem_append_right _ (List.mem_append_right _ (List.mem_append_right _ (List.mem_append_right _ (List.mem_append_right _ (List.mem_append_right _ (List.mem_append_right _ (List.mem_append_right _ (List.mem_append_right _ (List.mem_append_right _ (List.mem_append_left _ h)))))))))))) wkg_c_X11_lowestTerm) rfl rfl rfl (by decide +kernel) ⟨Nat.le_of_ble_eq_true rfl, Nat.le_of_ble_eq_true rfl⟩) ⟨fun a U g mk q => by obtain ⟨q0, qP, qK⟩ := q; exact ⟨q0, qP, va_K.moved (u := U) (U := U.calling g mk a) (Vm.Alike.refl U.vm) qK⟩, fun U hU hW => ⟨rfl, by rw [hU]; exact hPc, va_K.moved hW.alike hK⟩⟩ rfl rfl hl.1 rfl (lv_room (Nat.le_of_ble_eq_true rfl)) dX11_mean_106 ⟨Nat.le_of_ble_eq_true rfl, Nat.le_of_ble_eq_true rfl⟩)) (fun rz357 gz356 => ?_)
                clear hPc
                rw [hQ]
                exact W.lret (v := rz357) hx hb hr (fun t ht hW => ⟨⟨rz357, (), rfl, trivial, vz340, az338, ez339, vz343, nz342, az341, hez339, hnz342, by rw [ht]; exact hP⟩, hS.F ht⟩) hS.2.2 dX11_mean_109
              · skip
                have bz358 := fb_rng xz349
                have bz359 := fb_rng xz345
                have zz360 : ¬ xz349.toInt ≤ xz345.toInt := fun h9 => cz350 (zi_le.mpr h9)
                refine lv_aload_n hx hb dX11_mean_43 rfl (lv_at hl 0 rfl) ?_
                refine lv_iload hx hb dX11_mean_44 (lv_at hl 4 rfl) ?_
                have hPc := hP.sub (ws' := (List.flatten [(wSag qX k tapeX (qV 0) actsX (qN 0) (qP 0) storyX (qZ 0) orderSearchX routeSearchX setSearchX probeX slot0X slot1X slot2X slot3X image0X image1X image2X aX), (wValley qV k vV bV cV wV aV eV)])) [91, 92, 93, 94, 95, 96, 97, 98, 99, 100, 101, 102, 103] rfl
                refine vp_callSl (va_Run.run (va_runV (As := [.int xz345]) (rest := []) ⟨hx, hb, hml, hown, hts⟩ (c_X11_waysTo l dC dI k qX tapeX actsX (qN 0) (qP 0) storyX (qZ 0) orderSearchX routeSearchX setSearchX probeX slot0X slot1X slot2X slot3X image0X image1X image2X aX qV vV bV cV wV aV eV xz345 hbV hcV hwV heV) (cwV 1 hts (gk_V (wl_mem 7 rfl) (wl_mem 8 rfl) (wl_mem 9 rfl) (wl_mem 10 rfl) (fun w h => List.mem_cons_of_mem _ (List.mem_append_right _ (List.mem_append_right _ (List.mem_append_right _ (List.mem_append_right _ (List.mem_append_left _ h)))))) wkg_c_X11_waysTo) rfl rfl rfl (by decide +kernel) ⟨Nat.le_of_ble_eq_true rfl, Nat.le_of_ble_eq_true rfl⟩) ⟨fun a U g mk q => by obtain ⟨q0, qP, qK⟩ := q; exact ⟨q0, qP, va_K.moved (u := U) (U := U.calling g mk a) (Vm.Alike.refl U.vm) qK⟩, va_recv hK hPc (ci := 11) (q0 := 0) rfl rfl, fun U hU hW => ⟨rfl, by rw [hU]; exact hPc, va_K.moved hW.alike hK⟩⟩ rfl rfl hl.1 rfl (lv_room (Nat.le_of_ble_eq_true rfl)) dX11_mean_46 ⟨Nat.le_of_ble_eq_true rfl, Nat.le_of_ble_eq_true rfl⟩)) (fun rz362 gz361 => ?_)
                clear hPc
                refine lv_lstore (lv' := [(6, .long rz362), (0, .ref (qX 0)), (1, .int p1), (2, .int p2), (3, .long xz344), (5, .int xz345)]) hx hb dX11_mean_49 hl (by decide) rfl (fun ls hl => ?_)
                refine lv_lload hx hb dX11_mean_51 (lv_at hl 0 rfl) ?_
                refine lv_lconst (v := 0) hx hb dX11_mean_53 (by decide) ?_
                refine W.lcmp hx hb dX11_mean_54 ?_
                have ct86_kz511 : ∀ (H : Heap) (locs : List Loc) (ls : Array Slot) (az504 : Nat → Nat → Int32) (ez505 : Nat → Nat → Int32) (vz506 : Nat → Int32) (az507 : Nat → Nat → Nat → Int32) (nz508 : Nat → Nat → Int32) (vz509 : Nat → Nat → Int32) (xz510 : Int64), RgA 0 99 ez505 → (∀ t9, Rg 0 8 (nz508 t9)) → va_P (dC, dI) vwCl (List.flatten [(wPlan qP k vz506 az504 ez505), (wState (sZ 0) k (vz509 0) (nz508 0) (az507 0)), (wState (sZ 1) k (vz509 1) (nz508 1) (az507 1)), (wState (sZ 2) k (vz509 2) (nz508 2) (az507 2)), (wState (sZ 3) k (vz509 3) (nz508 3) (az507 3)), (wState (sZ 4) k (vz509 4) (nz508 4) (az507 4)), (wState (sZ 5) k (vz509 5) (nz508 5) (az507 5)), (wState (sZ 6) k (vz509 6) (nz508 6) (az507 6)), (wState (sZ 7) k (vz509 7) (nz508 7) (az507 7))] ++ List.flatten [(wSag qX k tapeX (qV 0) actsX (qN 0) (qP 0) storyX (qZ 0) orderSearchX routeSearchX setSearchX probeX slot0X slot1X slot2X slot3X image0X image1X image2X aX), (wValley qV k vV bV cV wV aV eV), (wPlan qN k vN aN eN), (wStoO qZ k (qV 0) (qP 0) (sZ 0 0) (sZ 1 0) (sZ 2 0) (sZ 3 0) (sZ 4 0) (sZ 5 0) (sZ 6 0) (sZ 7 0))]) H → va_D A (List.flatten [(wPlan qP k vz506 az504 ez505), (wState (sZ 0) k (vz509 0) (nz508 0) (az507 0)), (wState (sZ 1) k (vz509 1) (nz508 1) (az507 1)), (wState (sZ 2) k (vz509 2) (nz508 2) (az507 2)), (wState (sZ 3) k (vz509 3) (nz508 3) (az507 3)), (wState (sZ 4) k (vz509 4) (nz508 4) (az507 4)), (wState (sZ 5) k (vz509 5) (nz508 5) (az507 5)), (wState (sZ 6) k (vz509 6) (nz508 6) (az507 6)), (wState (sZ 7) k (vz509 7) (nz508 7) (az507 7))] ++ List.flatten [(wSag qX k tapeX (qV 0) actsX (qN 0) (qP 0) storyX (qZ 0) orderSearchX routeSearchX setSearchX probeX slot0X slot1X slot2X slot3X image0X image1X image2X aX), (wValley qV k vV bV cV wV aV eV), (wPlan qN k vN aN eN), (wStoO qZ k (qV 0) (qP 0) (sZ 0 0) (sZ 1 0) (sZ 2 0) (sZ 3 0) (sZ 4 0) (sZ 5 0) (sZ 6 0) (sZ 7 0))]) → va_S A s.heap H locs → lv_has ls 8 [(0, .ref (qX 0)), (1, .int p1), (2, .int p2), (3, .long xz510), (5, .int xz345)] → W p l e (headSpec wk_c_X11_mean ({ frames := 5, cells := 0, slots := 0, locals := 173 })).room s m ([.ref (qX 0), .int p1, .int p2] : List Value).toArray below meth c H locs 0 0 Q (F0 m 86 ls []) := by
                  intro H locs ls az504 ez505 vz506 az507 nz508 vz509 xz510 hez505 hnz508 hP hD hS hl
                  obtain ⟨xz512, exz512⟩ : ∃ y : Int32, y = xz345 + Int32.ofInt (1) := ⟨_, rfl⟩
                  have fxz512 : xz512.toInt = xz345.toInt + (1) := by rw [exz512]; exact fb_addI (y := Int32.ofInt (1)) (by show -2147483648 ≤ xz345.toInt + (1); omega) (by show xz345.toInt + (1) < 2147483648; omega)
                  refine lv_iinc (v := xz512) (lv' := [(5, .int xz512), (0, .ref (qX 0)), (1, .int p1), (2, .int p2), (3, .long xz510)]) hx hb dX11_mean_86 hl (k := 4) rfl exz512.symm (by decide) rfl (fun ls hl => ?_)
                  refine lv_goto (tgt := 29) hx hb dX11_mean_89 (by decide) ?_
                  exact ih29 H locs ls az504 ez505 vz506 az507 nz508 vz509 xz510 xz512 (by show (2147483647 - xz512.toInt).toNat < n9_29; omega) hez505 hnz508 (by show 0 ≤ xz512.toInt; omega) hP hD hS (lv_sub hl [1, 2, 3, 4, 0] rfl)
                refine lv_if_le (tgt := 86) hx hb dX11_mean_55 (by decide) (fun cz513 => ?_) (fun cz513 => ?_)
                · skip
                  rw [lg_cmp_le] at cz513
                  have zz514 : rz362.toInt ≤ (0 : Int) := zi_leL.mp cz513
                  exact ct86_kz511 H locs ls az338 ez339 vz340 az341 nz342 vz343 xz344  hez339 hnz342 hP hD hS (lv_sub hl [1, 2, 3, 4, 5] rfl)
                · skip
                  rw [lg_cmp_le] at cz513
                  have zz515 : ¬ rz362.toInt ≤ (0 : Int) := fun h9 => cz513 (zi_leL.mpr h9)
                  refine lv_aload_n hx hb dX11_mean_58 rfl (lv_at hl 1 rfl) ?_
                  refine lv_iload hx hb dX11_mean_59 (lv_at hl 5 rfl) ?_
                  have hPc := hP
                  have hDc : va_D A (List.flatten [(wPlan qP k vz340 az338 ez339), (wState (sZ 0) k (vz343 0) (nz342 0) (az341 0)), (wState (sZ 1) k (vz343 1) (nz342 1) (az341 1)), (wState (sZ 2) k (vz343 2) (nz342 2) (az341 2)), (wState (sZ 3) k (vz343 3) (nz342 3) (az341 3)), (wState (sZ 4) k (vz343 4) (nz342 4) (az341 4)), (wState (sZ 5) k (vz343 5) (nz342 5) (az341 5)), (wState (sZ 6) k (vz343 6) (nz342 6) (az341 6)), (wState (sZ 7) k (vz343 7) (nz342 7) (az341 7))] ++ List.flatten [(wSag qX k tapeX (qV 0) actsX (qN 0) (qP 0) storyX (qZ 0) orderSearchX routeSearchX setSearchX probeX slot0X slot1X slot2X slot3X image0X image1X image2X aX), (wValley qV k vV bV cV wV aV eV), (wPlan qN k vN aN eN), (wStoO qZ k (qV 0) (qP 0) (sZ 0 0) (sZ 1 0) (sZ 2 0) (sZ 3 0) (sZ 4 0) (sZ 5 0) (sZ 6 0) (sZ 7 0))]) := wc_subD hD [0, 1, 2, 3, 4, 5, 6, 7, 8, 9, 10, 11, 12] rfl rfl
                  have hFc := wc_free hDc hS hA
                  refine va_callv (va_runV (As := [.int xz345]) (rest := []) ⟨hx, hb, hml, hown, hts⟩ (c_X11_tryCold l dC dI k H.size qX tapeX actsX storyX orderSearchX routeSearchX setSearchX probeX slot0X slot1X slot2X slot3X image0X image1X image2X aX qV vV bV cV wV aV eV qN vN aN eN qP vz340 az338 ez339 qZ sZ vz343 nz342 az341 xz345 hbV hcV hwV heV heN hez339 hnz342) (cwV 1 hts (gk_V (wl_mem 11 rfl) (wl_mem 12 rfl) (wl_mem 13 rfl) (wl_mem 10 rfl) (fun w h => List.mem_cons_of_mem _ (List.mem_append_right _ (List.mem_append_right _ (List.mem_append_right _ (List.mem_append_right _ (List.mem_append_right _ (List.mem_append_left _ h))))))) wkg_c_X11_tryCold) rfl rfl rfl (by decide +kernel) ⟨Nat.le_of_ble_eq_true rfl, Nat.le_of_ble_eq_true rfl⟩) ⟨fun a U g mk q => by obtain ⟨q0, q1, qP, qK, qD⟩ := q; exact ⟨q0, q1, qP, va_K.moved (u := U) (U := U.calling g mk a) (Vm.Alike.refl U.vm) qK, qD⟩, va_recv hK hPc (ci := 11) (q0 := 91) rfl rfl, fun U hU hW => ⟨rfl, by rw [hU], by rw [hU]; exact hPc, va_K.moved hW.alike hK, hDc.weaken (fun _ _ _ _ => trivial)⟩⟩ rfl rfl hl.1 rfl (lv_room (Nat.le_of_ble_eq_true rfl)) dX11_mean_61 ⟨Nat.le_of_ble_eq_true rfl, Nat.le_of_ble_eq_true rfl⟩) hS (fun q _ h => hFc q h) hFc (fun u t H1 locs ht hvm gz516 hB hz1 hk1 hS => ?_)
                  obtain ⟨vz518, az519, ez520, vz521, nz522, az523, hez520, hnz522, hP1⟩ := hB
                  rw [ht] at hP1
                  obtain ⟨hP, hD⟩ := w_callR hP hD hk1 hP1 [0, 1, 2, 3, 4, 5, 6, 7, 8] rfl rfl (wk_memC [9, 10, 11, 12] rfl) rfl [some 0, some 1, some 2, some 3, some 4, some 5, some 6, some 7, some 8] rfl rfl
                  clear hPc hDc hFc hk1 hP1
                  generalize H1 = H at hP hS ⊢
                  have hP : va_P (dC, dI) vwCl (List.flatten [(wPlan qP k vz518 az519 ez520), (wState (sZ 0) k (vz521 0) (nz522 0) (az523 0)), (wState (sZ 1) k (vz521 1) (nz522 1) (az523 1)), (wState (sZ 2) k (vz521 2) (nz522 2) (az523 2)), (wState (sZ 3) k (vz521 3) (nz522 3) (az523 3)), (wState (sZ 4) k (vz521 4) (nz522 4) (az523 4)), (wState (sZ 5) k (vz521 5) (nz522 5) (az523 5)), (wState (sZ 6) k (vz521 6) (nz522 6) (az523 6)), (wState (sZ 7) k (vz521 7) (nz522 7) (az523 7))] ++ List.flatten [(wSag qX k tapeX (qV 0) actsX (qN 0) (qP 0) storyX (qZ 0) orderSearchX routeSearchX setSearchX probeX slot0X slot1X slot2X slot3X image0X image1X image2X aX), (wValley qV k vV bV cV wV aV eV), (wPlan qN k vN aN eN), (wStoO qZ k (qV 0) (qP 0) (sZ 0 0) (sZ 1 0) (sZ 2 0) (sZ 3 0) (sZ 4 0) (sZ 5 0) (sZ 6 0) (sZ 7 0))]) H := hP
                  have hD : va_D A (List.flatten [(wPlan qP k vz518 az519 ez520), (wState (sZ 0) k (vz521 0) (nz522 0) (az523 0)), (wState (sZ 1) k (vz521 1) (nz522 1) (az523 1)), (wState (sZ 2) k (vz521 2) (nz522 2) (az523 2)), (wState (sZ 3) k (vz521 3) (nz522 3) (az523 3)), (wState (sZ 4) k (vz521 4) (nz522 4) (az523 4)), (wState (sZ 5) k (vz521 5) (nz522 5) (az523 5)), (wState (sZ 6) k (vz521 6) (nz522 6) (az523 6)), (wState (sZ 7) k (vz521 7) (nz522 7) (az523 7))] ++ List.flatten [(wSag qX k tapeX (qV 0) actsX (qN 0) (qP 0) storyX (qZ 0) orderSearchX routeSearchX setSearchX probeX slot0X slot1X slot2X slot3X image0X image1X image2X aX), (wValley qV k vV bV cV wV aV eV), (wPlan qN k vN aN eN), (wStoO qZ k (qV 0) (qP 0) (sZ 0 0) (sZ 1 0) (sZ 2 0) (sZ 3 0) (sZ 4 0) (sZ 5 0) (sZ 6 0) (sZ 7 0))]) := hD
                  refine W.widen (k := 0) (n := 0) (Nat.le_refl 0) (Nat.le_refl 0) ?_
                  refine lv_lload_n hx hb dX11_mean_64 rfl (lv_at hl 4 rfl) ?_
                  refine lv_lload hx hb dX11_mean_65 (lv_at hl 0 rfl) ?_
                  refine lv_aload_n hx hb dX11_mean_67 rfl (lv_at hl 1 rfl) ?_
                  refine va_get (D := (dC, dI)) (ci := 11) (v := .ref (qZ 0)) (C := RX11) (T := TX11) (N := 15) hx hb hts (fun w h => List.mem_cons_of_mem _ (List.mem_append_right _ (List.mem_append_left _ h))) hown hK hP 91 rfl rfl 6 (by decide) (hts (.fieldLink RX11 49 "SagMemory" "attempt" "LSagMemory$Story;") (wl_mem 14 rfl)) (fun _ h9 => h9) rfl dX11_mean_68 ?_
                  have hPc : va_P (dC, dI) vwCl (List.flatten [(wStoO qZ k (qV 0) (qP 0) (sZ 0 0) (sZ 1 0) (sZ 2 0) (sZ 3 0) (sZ 4 0) (sZ 5 0) (sZ 6 0) (sZ 7 0)), (wState (sZ 0) k (vz521 0) (nz522 0) (az523 0)), (wState (sZ 1) k (vz521 1) (nz522 1) (az523 1)), (wState (sZ 2) k (vz521 2) (nz522 2) (az523 2)), (wState (sZ 3) k (vz521 3) (nz522 3) (az523 3)), (wState (sZ 4) k (vz521 4) (nz522 4) (az523 4)), (wState (sZ 5) k (vz521 5) (nz522 5) (az523 5)), (wState (sZ 6) k (vz521 6) (nz522 6) (az523 6)), (wState (sZ 7) k (vz521 7) (nz522 7) (az523 7)), (wValley qV k vV bV cV wV aV eV)]) H := wc_subP1 hP [12, 1, 2, 3, 4, 5, 6, 7, 8, 10] rfl
                  refine va_csr (va_Run.run (va_runV (As := []) (rest := [.long rz362, .long xz344]) ⟨hx, hb, hml, hown, hts⟩ (c_X8_atEnd l dC dI k qZ sZ (qP 0) vz521 nz522 az523 qV vV bV cV wV aV eV hnz522 hbV hcV hwV heV) (cwV 0 hts (gk_V (wl_mem 15 rfl) (wl_mem 16 rfl) (wl_mem 17 rfl) (wl_mem 18 rfl) (fun w h => List.mem_cons_of_mem _ (List.mem_append_right _ (List.mem_append_right _ (List.mem_append_right _ (List.mem_append_right _ (List.mem_append_right _ (List.mem_append_right _ (List.mem_append_left _ h)))))))) wkg_c_X8_atEnd) rfl rfl rfl (by decide +kernel) ⟨Nat.le_of_ble_eq_true rfl, Nat.le_of_ble_eq_true rfl⟩) ⟨fun a U g mk q => by obtain ⟨q0, qP, qK⟩ := q; exact ⟨q0, qP, va_K.moved (u := U) (U := U.calling g mk a) (Vm.Alike.refl U.vm) qK⟩, va_recv hK hPc (ci := 8) (q0 := 0) rfl rfl, fun U hU hW => ⟨rfl, by rw [hU]; exact hPc, va_K.moved hW.alike hK⟩⟩ rfl rfl hl.1 rfl (lv_room (Nat.le_of_ble_eq_true rfl)) dX11_mean_71 ⟨Nat.le_of_ble_eq_true rfl, Nat.le_of_ble_eq_true rfl⟩)) (fun rz525 gz524 => ?_)
                  clear hPc
                  rcases gz524 with rfl | rfl | rfl | rfl | rfl | rfl | rfl | rfl
                  · skip
                    refine W.eq (g2 := F0 m 74 ls [.ref (sZ 0 0), .long rz362, .long xz344]) rfl ?_
                    refine va_get (D := (dC, dI)) (ci := 7) (v := .ref (sZ 0 1)) (C := RX7) (T := TX7) (N := 9) hx hb hts (fun w h => List.mem_cons_of_mem _ (List.mem_append_right _ (List.mem_append_right _ (List.mem_append_right _ (List.mem_append_right _ (List.mem_append_right _ (List.mem_append_right _ (List.mem_append_right _ (List.mem_append_left _ h))))))))) hown hK hP 3 rfl rfl 0 (by decide) (hts (.fieldLink RX11 194 "SagMemory$State" "memories" "[LSagMemory$Memory;") (wl_mem 19 rfl)) (fun _ h9 => h9) rfl dX11_mean_74 ?_
                    refine lv_iload_n hx hb dX11_mean_77 rfl (lv_at hl 2 rfl) ?_
                    rcases (show p1 = 0 ∨ p1 = 1 ∨ p1 = 2 by simp only [zi_eq]; show p1.toInt = 0 ∨ p1.toInt = 1 ∨ p1.toInt = 2; omega) with cz526 | cz526 | cz526
                    · skip
                      have zz527 : p1.toInt = (0 : Int) := zi_eq.mp cz526
                      refine W.eq (g2 := F0 m 78 ls [.int 0, .ref (sZ 0 1), .long rz362, .long xz344]) (by rw [cz526]) ?_
                      refine va_aldq hx hb hK hP 4 4 rfl rfl (by unfold vp_in; decide) dX11_mean_78 ?_
                      refine W.eq (g2 := F0 m 79 ls [.ref (sZ 0 2), .long rz362, .long xz344]) rfl ?_
                      have hPc := hP.sub (ws' := (List.flatten [(wMem (fun i => sZ 0 (i + 2)) k (nz522 0) (az523 0))])) [5, 6, 7] rfl
                      refine vp_callSi (va_Run.run (va_runV (As := []) (rest := [.long rz362, .long xz344]) ⟨hx, hb, hml, hown, hts⟩ (c_X2_depth l dC dI k (fun i => sZ 0 (i + 2)) (nz522 0) (az523 0) (hnz522 0)) (cwV 0 hts (gk_V (wl_mem 20 rfl) (wl_mem 21 rfl) (wl_mem 22 rfl) (wl_mem 23 rfl) (fun w h => List.mem_cons_of_mem _ (List.mem_append_right _ (List.mem_append_right _ (List.mem_append_right _ (List.mem_append_right _ (List.mem_append_right _ (List.mem_append_right _ (List.mem_append_right _ (List.mem_append_right _ (List.mem_append_left _ h)))))))))) wkg_c_X2_depth) rfl rfl rfl (by decide +kernel) ⟨Nat.le_of_ble_eq_true rfl, Nat.le_of_ble_eq_true rfl⟩) ⟨fun a U g mk q => by obtain ⟨q0, qP, qK⟩ := q; exact ⟨q0, qP, va_K.moved (u := U) (U := U.calling g mk a) (Vm.Alike.refl U.vm) qK⟩, va_recv hK hPc (ci := 2) (q0 := 0) rfl rfl, fun U hU hW => ⟨rfl, by rw [hU]; exact hPc, va_K.moved hW.alike hK⟩⟩ rfl rfl hl.1 rfl (lv_room (Nat.le_of_ble_eq_true rfl)) dX11_mean_79 ⟨Nat.le_of_ble_eq_true rfl, Nat.le_of_ble_eq_true rfl⟩)) (fun rz529 gz528 => ?_)
                      clear hPc
                      refine lv_i2l hx hb dX11_mean_82 rfl ?_
                      refine lv_lmul hx hb dX11_mean_83 ?_
                      refine lv_topl (fun xz530 exz530 => ?_)
                      refine lv_ladd hx hb dX11_mean_84 ?_
                      refine lv_topl (fun xz531 exz531 => ?_)
                      refine lv_lstore_n (lv' := [(3, .long xz531), (6, .long rz362), (0, .ref (qX 0)), (1, .int p1), (2, .int p2), (5, .int xz345)]) hx hb dX11_mean_85 rfl hl (by decide) rfl (fun ls hl => ?_)
                      exact ct86_kz511 H locs ls az519 ez520 vz518 az523 nz522 vz521 xz531  hez520 hnz522 hP hD hS (lv_sub hl [2, 3, 4, 0, 5] rfl)
                    · skip
                      have zz532 : p1.toInt = (1 : Int) := zi_eq.mp cz526
                      refine W.eq (g2 := F0 m 78 ls [.int 1, .ref (sZ 0 1), .long rz362, .long xz344]) (by rw [cz526]) ?_
                      refine va_aldq hx hb hK hP 4 4 rfl rfl (by unfold vp_in; decide) dX11_mean_78 ?_
                      refine W.eq (g2 := F0 m 79 ls [.ref (sZ 0 5), .long rz362, .long xz344]) rfl ?_
                      have hPc := hP.sub (ws' := (List.flatten [(wMem (fun i => sZ 0 (i + 5)) k (fun i => (nz522 0) (i + 1)) (fun i => (az523 0) (i + 2)))])) [8, 9, 10] rfl
                      refine vp_callSi (va_Run.run (va_runV (As := []) (rest := [.long rz362, .long xz344]) ⟨hx, hb, hml, hown, hts⟩ (c_X2_depth l dC dI k (fun i => sZ 0 (i + 5)) (fun i => (nz522 0) (i + 1)) (fun i => (az523 0) (i + 2)) (fun i => (hnz522 0) (i + 1))) (cwV 0 hts (gk_V (wl_mem 20 rfl) (wl_mem 21 rfl) (wl_mem 22 rfl) (wl_mem 23 rfl) (fun w h => List.mem_cons_of_mem _ (List.mem_append_right _ (List.mem_append_right _ (List.mem_append_right _ (List.mem_append_right _ (List.mem_append_right _ (List.mem_append_right _ (List.mem_append_right _ (List.mem_append_right _ (List.mem_append_left _ h)))))))))) wkg_c_X2_depth) rfl rfl rfl (by decide +kernel) ⟨Nat.le_of_ble_eq_true rfl, Nat.le_of_ble_eq_true rfl⟩) ⟨fun a U g mk q => by obtain ⟨q0, qP, qK⟩ := q; exact ⟨q0, qP, va_K.moved (u := U) (U := U.calling g mk a) (Vm.Alike.refl U.vm) qK⟩, va_recv hK hPc (ci := 2) (q0 := 0) rfl rfl, fun U hU hW => ⟨rfl, by rw [hU]; exact hPc, va_K.moved hW.alike hK⟩⟩ rfl rfl hl.1 rfl (lv_room (Nat.le_of_ble_eq_true rfl)) dX11_mean_79 ⟨Nat.le_of_ble_eq_true rfl, Nat.le_of_ble_eq_true rfl⟩)) (fun rz534 gz533 => ?_)
                      clear hPc
                      refine lv_i2l hx hb dX11_mean_82 rfl ?_
                      refine lv_lmul hx hb dX11_mean_83 ?_
                      refine lv_topl (fun xz535 exz535 => ?_)
                      refine lv_ladd hx hb dX11_mean_84 ?_
                      refine lv_topl (fun xz536 exz536 => ?_)
                      refine lv_lstore_n (lv' := [(3, .long xz536), (6, .long rz362), (0, .ref (qX 0)), (1, .int p1), (2, .int p2), (5, .int xz345)]) hx hb dX11_mean_85 rfl hl (by decide) rfl (fun ls hl => ?_)
                      exact ct86_kz511 H locs ls az519 ez520 vz518 az523 nz522 vz521 xz536  hez520 hnz522 hP hD hS (lv_sub hl [2, 3, 4, 0, 5] rfl)
                    · skip
                      have zz537 : p1.toInt = (2 : Int) := zi_eq.mp cz526
                      refine W.eq (g2 := F0 m 78 ls [.int 2, .ref (sZ 0 1), .long rz362, .long xz344]) (by rw [cz526]) ?_
                      refine va_aldq hx hb hK hP 4 4 rfl rfl (by unfold vp_in; decide) dX11_mean_78 ?_
                      refine W.eq (g2 := F0 m 79 ls [.ref (sZ 0 8), .long rz362, .long xz344]) rfl ?_
                      have hPc := hP.sub (ws' := (List.flatten [(wMem (fun i => sZ 0 (i + 8)) k (fun i => (nz522 0) (i + 2)) (fun i => (az523 0) (i + 4)))])) [11, 12, 13] rfl
                      refine vp_callSi (va_Run.run (va_runV (As := []) (rest := [.long rz362, .long xz344]) ⟨hx, hb, hml, hown, hts⟩ (c_X2_depth l dC dI k (fun i => sZ 0 (i + 8)) (fun i => (nz522 0) (i + 2)) (fun i => (az523 0) (i + 4)) (fun i => (hnz522 0) (i + 2))) (cwV 0 hts (gk_V (wl_mem 20 rfl) (wl_mem 21 rfl) (wl_mem 22 rfl) (wl_mem 23 rfl) (fun w h => List.mem_cons_of_mem _ (List.mem_append_right _ (List.mem_append_right _ (List.mem_append_right _ (List.mem_append_right _ (List.mem_append_right _ (List.mem_append_right _ (List.mem_append_right _ (List.mem_append_right _ (List.mem_append_left _ h)))))))))) wkg_c_X2_depth) rfl rfl rfl (by decide +kernel) ⟨Nat.le_of_ble_eq_true rfl, Nat.le_of_ble_eq_true rfl⟩) ⟨fun a U g mk q => by obtain ⟨q0, qP, qK⟩ := q; exact ⟨q0, qP, va_K.moved (u := U) (U := U.calling g mk a) (Vm.Alike.refl U.vm) qK⟩, va_recv hK hPc (ci := 2) (q0 := 0) rfl rfl, fun U hU hW => ⟨rfl, by rw [hU]; exact hPc, va_K.moved hW.alike hK⟩⟩ rfl rfl hl.1 rfl (lv_room (Nat.le_of_ble_eq_true rfl)) dX11_mean_79 ⟨Nat.le_of_ble_eq_true rfl, Nat.le_of_ble_eq_true rfl⟩)) (fun rz539 gz538 => ?_)
                      clear hPc
                      refine lv_i2l hx hb dX11_mean_82 rfl ?_
                      refine lv_lmul hx hb dX11_mean_83 ?_
                      refine lv_topl (fun xz540 exz540 => ?_)
                      refine lv_ladd hx hb dX11_mean_84 ?_
                      refine lv_topl (fun xz541 exz541 => ?_)
                      refine lv_lstore_n (lv' := [(3, .long xz541), (6, .long rz362), (0, .ref (qX 0)), (1, .int p1), (2, .int p2), (5, .int xz345)]) hx hb dX11_mean_85 rfl hl (by decide) rfl (fun ls hl => ?_)
                      exact ct86_kz511 H locs ls az519 ez520 vz518 az523 nz522 vz521 xz541  hez520 hnz522 hP hD hS (lv_sub hl [2, 3, 4, 0, 5] rfl)
                  · skip
                    refine W.eq (g2 := F0 m 74 ls [.ref (sZ 1 0), .long rz362, .long xz344]) rfl ?_
                    refine va_get (D := (dC, dI)) (ci := 7) (v := .ref (sZ 1 1)) (C := RX7) (T := TX7) (N := 9) hx hb hts (fun w h => List.mem_cons_of_mem _ (List.mem_append_right _ (List.mem_append_right _ (List.mem_append_right _ (List.mem_append_right _ (List.mem_append_right _ (List.mem_append_right _ (List.mem_append_right _ (List.mem_append_left _ h))))))))) hown hK hP 14 rfl rfl 0 (by decide) (hts (.fieldLink RX11 194 "SagMemory$State" "memories" "[LSagMemory$Memory;") (wl_mem 19 rfl)) (fun _ h9 => h9) rfl dX11_mean_74 ?_
                    refine lv_iload_n hx hb dX11_mean_77 rfl (lv_at hl 2 rfl) ?_
                    rcases (show p1 = 0 ∨ p1 = 1 ∨ p1 = 2 by simp only [zi_eq]; show p1.toInt = 0 ∨ p1.toInt = 1 ∨ p1.toInt = 2; omega) with cz542 | cz542 | cz542
                    · skip
                      have zz543 : p1.toInt = (0 : Int) := zi_eq.mp cz542
                      refine W.eq (g2 := F0 m 78 ls [.int 0, .ref (sZ 1 1), .long rz362, .long xz344]) (by rw [cz542]) ?_
                      refine va_aldq hx hb hK hP 15 4 rfl rfl (by unfold vp_in; decide) dX11_mean_78 ?_
                      refine W.eq (g2 := F0 m 79 ls [.ref (sZ 1 2), .long rz362, .long xz344]) rfl ?_
                      have hPc := hP.sub (ws' := (List.flatten [(wMem (fun i => sZ 1 (i + 2)) k (nz522 1) (az523 1))])) [16, 17, 18] rfl
                      refine vp_callSi (va_Run.run (va_runV (As := []) (rest := [.long rz362, .long xz344]) ⟨hx, hb, hml, hown, hts⟩ (c_X2_depth l dC dI k (fun i => sZ 1 (i + 2)) (nz522 1) (az523 1) (hnz522 1)) (cwV 0 hts (gk_V (wl_mem 20 rfl) (wl_mem 21 rfl) (wl_mem 22 rfl) (wl_mem 23 rfl) (fun w h => List.mem_cons_of_mem _ (List.mem_append_right _ (List.mem_append_right _ (List.mem_append_right _ (List.mem_append_right _ (List.mem_append_right _ (List.mem_append_right _ (List.mem_append_right _ (List.mem_append_right _ (List.mem_append_left _ h)))))))))) wkg_c_X2_depth) rfl rfl rfl (by decide +kernel) ⟨Nat.le_of_ble_eq_true rfl, Nat.le_of_ble_eq_true rfl⟩) ⟨fun a U g mk q => by obtain ⟨q0, qP, qK⟩ := q; exact ⟨q0, qP, va_K.moved (u := U) (U := U.calling g mk a) (Vm.Alike.refl U.vm) qK⟩, va_recv hK hPc (ci := 2) (q0 := 0) rfl rfl, fun U hU hW => ⟨rfl, by rw [hU]; exact hPc, va_K.moved hW.alike hK⟩⟩ rfl rfl hl.1 rfl (lv_room (Nat.le_of_ble_eq_true rfl)) dX11_mean_79 ⟨Nat.le_of_ble_eq_true rfl, Nat.le_of_ble_eq_true rfl⟩)) (fun rz545 gz544 => ?_)
                      clear hPc
                      refine lv_i2l hx hb dX11_mean_82 rfl ?_
                      refine lv_lmul hx hb dX11_mean_83 ?_
                      refine lv_topl (fun xz546 exz546 => ?_)
                      refine lv_ladd hx hb dX11_mean_84 ?_
                      refine lv_topl (fun xz547 exz547 => ?_)
                      refine lv_lstore_n (lv' := [(3, .long xz547), (6, .long rz362), (0, .ref (qX 0)), (1, .int p1), (2, .int p2), (5, .int xz345)]) hx hb dX11_mean_85 rfl hl (by decide) rfl (fun ls hl => ?_)
                      exact ct86_kz511 H locs ls az519 ez520 vz518 az523 nz522 vz521 xz547  hez520 hnz522 hP hD hS (lv_sub hl [2, 3, 4, 0, 5] rfl)
                    · skip
                      have zz548 : p1.toInt = (1 : Int) := zi_eq.mp cz542
                      refine W.eq (g2 := F0 m 78 ls [.int 1, .ref (sZ 1 1), .long rz362, .long xz344]) (by rw [cz542]) ?_
                      refine va_aldq hx hb hK hP 15 4 rfl rfl (by unfold vp_in; decide) dX11_mean_78 ?_
                      refine W.eq (g2 := F0 m 79 ls [.ref (sZ 1 5), .long rz362, .long xz344]) rfl ?_
                      have hPc := hP.sub (ws' := (List.flatten [(wMem (fun i => sZ 1 (i + 5)) k (fun i => (nz522 1) (i + 1)) (fun i => (az523 1) (i + 2)))])) [19, 20, 21] rfl
                      refine vp_callSi (va_Run.run (va_runV (As := []) (rest := [.long rz362, .long xz344]) ⟨hx, hb, hml, hown, hts⟩ (c_X2_depth l dC dI k (fun i => sZ 1 (i + 5)) (fun i => (nz522 1) (i + 1)) (fun i => (az523 1) (i + 2)) (fun i => (hnz522 1) (i + 1))) (cwV 0 hts (gk_V (wl_mem 20 rfl) (wl_mem 21 rfl) (wl_mem 22 rfl) (wl_mem 23 rfl) (fun w h => List.mem_cons_of_mem _ (List.mem_append_right _ (List.mem_append_right _ (List.mem_append_right _ (List.mem_append_right _ (List.mem_append_right _ (List.mem_append_right _ (List.mem_append_right _ (List.mem_append_right _ (List.mem_append_left _ h)))))))))) wkg_c_X2_depth) rfl rfl rfl (by decide +kernel) ⟨Nat.le_of_ble_eq_true rfl, Nat.le_of_ble_eq_true rfl⟩) ⟨fun a U g mk q => by obtain ⟨q0, qP, qK⟩ := q; exact ⟨q0, qP, va_K.moved (u := U) (U := U.calling g mk a) (Vm.Alike.refl U.vm) qK⟩, va_recv hK hPc (ci := 2) (q0 := 0) rfl rfl, fun U hU hW => ⟨rfl, by rw [hU]; exact hPc, va_K.moved hW.alike hK⟩⟩ rfl rfl hl.1 rfl (lv_room (Nat.le_of_ble_eq_true rfl)) dX11_mean_79 ⟨Nat.le_of_ble_eq_true rfl, Nat.le_of_ble_eq_true rfl⟩)) (fun rz550 gz549 => ?_)
                      clear hPc
                      refine lv_i2l hx hb dX11_mean_82 rfl ?_
                      refine lv_lmul hx hb dX11_mean_83 ?_
                      refine lv_topl (fun xz551 exz551 => ?_)
                      refine lv_ladd hx hb dX11_mean_84 ?_
                      refine lv_topl (fun xz552 exz552 => ?_)
                      refine lv_lstore_n (lv' := [(3, .long xz552), (6, .long rz362), (0, .ref (qX 0)), (1, .int p1), (2, .int p2), (5, .int xz345)]) hx hb dX11_mean_85 rfl hl (by decide) rfl (fun ls hl => ?_)
                      exact ct86_kz511 H locs ls az519 ez520 vz518 az523 nz522 vz521 xz552  hez520 hnz522 hP hD hS (lv_sub hl [2, 3, 4, 0, 5] rfl)
                    · skip
                      have zz553 : p1.toInt = (2 : Int) := zi_eq.mp cz542
                      refine W.eq (g2 := F0 m 78 ls [.int 2, .ref (sZ 1 1), .long rz362, .long xz344]) (by rw [cz542]) ?_
                      refine va_aldq hx hb hK hP 15 4 rfl rfl (by unfold vp_in; decide) dX11_mean_78 ?_
                      refine W.eq (g2 := F0 m 79 ls [.ref (sZ 1 8), .long rz362, .long xz344]) rfl ?_
                      have hPc := hP.sub (ws' := (List.flatten [(wMem (fun i => sZ 1 (i + 8)) k (fun i => (nz522 1) (i + 2)) (fun i => (az523 1) (i + 4)))])) [22, 23, 24] rfl
                      refine vp_callSi (va_Run.run (va_runV (As := []) (rest := [.long rz362, .long xz344]) ⟨hx, hb, hml, hown, hts⟩ (c_X2_depth l dC dI k (fun i => sZ 1 (i + 8)) (fun i => (nz522 1) (i + 2)) (fun i => (az523 1) (i + 4)) (fun i => (hnz522 1) (i + 2))) (cwV 0 hts (gk_V (wl_mem 20 rfl) (wl_mem 21 rfl) (wl_mem 22 rfl) (wl_mem 23 rfl) (fun w h => List.mem_cons_of_mem _ (List.mem_append_right _ (List.mem_append_right _ (List.mem_append_right _ (List.mem_append_right _ (List.mem_append_right _ (List.mem_append_right _ (List.mem_append_right _ (List.mem_append_right _ (List.mem_append_left _ h)))))))))) wkg_c_X2_depth) rfl rfl rfl (by decide +kernel) ⟨Nat.le_of_ble_eq_true rfl, Nat.le_of_ble_eq_true rfl⟩) ⟨fun a U g mk q => by obtain ⟨q0, qP, qK⟩ := q; exact ⟨q0, qP, va_K.moved (u := U) (U := U.calling g mk a) (Vm.Alike.refl U.vm) qK⟩, va_recv hK hPc (ci := 2) (q0 := 0) rfl rfl, fun U hU hW => ⟨rfl, by rw [hU]; exact hPc, va_K.moved hW.alike hK⟩⟩ rfl rfl hl.1 rfl (lv_room (Nat.le_of_ble_eq_true rfl)) dX11_mean_79 ⟨Nat.le_of_ble_eq_true rfl, Nat.le_of_ble_eq_true rfl⟩)) (fun rz555 gz554 => ?_)
                      clear hPc
                      refine lv_i2l hx hb dX11_mean_82 rfl ?_
                      refine lv_lmul hx hb dX11_mean_83 ?_
                      refine lv_topl (fun xz556 exz556 => ?_)
                      refine lv_ladd hx hb dX11_mean_84 ?_
                      refine lv_topl (fun xz557 exz557 => ?_)
                      refine lv_lstore_n (lv' := [(3, .long xz557), (6, .long rz362), (0, .ref (qX 0)), (1, .int p1), (2, .int p2), (5, .int xz345)]) hx hb dX11_mean_85 rfl hl (by decide) rfl (fun ls hl => ?_)
                      exact ct86_kz511 H locs ls az519 ez520 vz518 az523 nz522 vz521 xz557  hez520 hnz522 hP hD hS (lv_sub hl [2, 3, 4, 0, 5] rfl)
                  · skip
                    refine W.eq (g2 := F0 m 74 ls [.ref (sZ 2 0), .long rz362, .long xz344]) rfl ?_
                    refine va_get (D := (dC, dI)) (ci := 7) (v := .ref (sZ 2 1)) (C := RX7) (T := TX7) (N := 9) hx hb hts (fun w h => List.mem_cons_of_mem _ (List.mem_append_right _ (List.mem_append_right _ (List.mem_append_right _ (List.mem_append_right _ (List.mem_append_right _ (List.mem_append_right _ (List.mem_append_right _ (List.mem_append_left _ h))))))))) hown hK hP 25 rfl rfl 0 (by decide) (hts (.fieldLink RX11 194 "SagMemory$State" "memories" "[LSagMemory$Memory;") (wl_mem 19 rfl)) (fun _ h9 => h9) rfl dX11_mean_74 ?_
                    refine lv_iload_n hx hb dX11_mean_77 rfl (lv_at hl 2 rfl) ?_
                    rcases (show p1 = 0 ∨ p1 = 1 ∨ p1 = 2 by simp only [zi_eq]; show p1.toInt = 0 ∨ p1.toInt = 1 ∨ p1.toInt = 2; omega) with cz558 | cz558 | cz558
                    · skip
                      have zz559 : p1.toInt = (0 : Int) := zi_eq.mp cz558
                      refine W.eq (g2 := F0 m 78 ls [.int 0, .ref (sZ 2 1), .long rz362, .long xz344]) (by rw [cz558]) ?_
                      refine va_aldq hx hb hK hP 26 4 rfl rfl (by unfold vp_in; decide) dX11_mean_78 ?_
                      refine W.eq (g2 := F0 m 79 ls [.ref (sZ 2 2), .long rz362, .long xz344]) rfl ?_
                      have hPc := hP.sub (ws' := (List.flatten [(wMem (fun i => sZ 2 (i + 2)) k (nz522 2) (az523 2))])) [27, 28, 29] rfl
                      refine vp_callSi (va_Run.run (va_runV (As := []) (rest := [.long rz362, .long xz344]) ⟨hx, hb, hml, hown, hts⟩ (c_X2_depth l dC dI k (fun i => sZ 2 (i + 2)) (nz522 2) (az523 2) (hnz522 2)) (cwV 0 hts (gk_V (wl_mem 20 rfl) (wl_mem 21 rfl) (wl_mem 22 rfl) (wl_mem 23 rfl) (fun w h => List.mem_cons_of_mem _ (List.mem_append_right _ (List.mem_append_right _ (List.mem_append_right _ (List.mem_append_right _ (List.mem_append_right _ (List.mem_append_right _ (List.mem_append_right _ (List.mem_append_right _ (List.mem_append_left _ h)))))))))) wkg_c_X2_depth) rfl rfl rfl (by decide +kernel) ⟨Nat.le_of_ble_eq_true rfl, Nat.le_of_ble_eq_true rfl⟩) ⟨fun a U g mk q => by obtain ⟨q0, qP, qK⟩ := q; exact ⟨q0, qP, va_K.moved (u := U) (U := U.calling g mk a) (Vm.Alike.refl U.vm) qK⟩, va_recv hK hPc (ci := 2) (q0 := 0) rfl rfl, fun U hU hW => ⟨rfl, by rw [hU]; exact hPc, va_K.moved hW.alike hK⟩⟩ rfl rfl hl.1 rfl (lv_room (Nat.le_of_ble_eq_true rfl)) dX11_mean_79 ⟨Nat.le_of_ble_eq_true rfl, Nat.le_of_ble_eq_true rfl⟩)) (fun rz561 gz560 => ?_)
                      clear hPc
                      refine lv_i2l hx hb dX11_mean_82 rfl ?_
                      refine lv_lmul hx hb dX11_mean_83 ?_
                      refine lv_topl (fun xz562 exz562 => ?_)
                      refine lv_ladd hx hb dX11_mean_84 ?_
                      refine lv_topl (fun xz563 exz563 => ?_)
                      refine lv_lstore_n (lv' := [(3, .long xz563), (6, .long rz362), (0, .ref (qX 0)), (1, .int p1), (2, .int p2), (5, .int xz345)]) hx hb dX11_mean_85 rfl hl (by decide) rfl (fun ls hl => ?_)
                      exact ct86_kz511 H locs ls az519 ez520 vz518 az523 nz522 vz521 xz563  hez520 hnz522 hP hD hS (lv_sub hl [2, 3, 4, 0, 5] rfl)
                    · skip
                      have zz564 : p1.toInt = (1 : Int) := zi_eq.mp cz558
                      refine W.eq (g2 := F0 m 78 ls [.int 1, .ref (sZ 2 1), .long rz362, .long xz344]) (by rw [cz558]) ?_
                      refine va_aldq hx hb hK hP 26 4 rfl rfl (by unfold vp_in; decide) dX11_mean_78 ?_
                      refine W.eq (g2 := F0 m 79 ls [.ref (sZ 2 5), .long rz362, .long xz344]) rfl ?_
                      have hPc := hP.sub (ws' := (List.flatten [(wMem (fun i => sZ 2 (i + 5)) k (fun i => (nz522 2) (i + 1)) (fun i => (az523 2) (i + 2)))])) [30, 31, 32] rfl
                      refine vp_callSi (va_Run.run (va_runV (As := []) (rest := [.long rz362, .long xz344]) ⟨hx, hb, hml, hown, hts⟩ (c_X2_depth l dC dI k (fun i => sZ 2 (i + 5)) (fun i => (nz522 2) (i + 1)) (fun i => (az523 2) (i + 2)) (fun i => (hnz522 2) (i + 1))) (cwV 0 hts (gk_V (wl_mem 20 rfl) (wl_mem 21 rfl) (wl_mem 22 rfl) (wl_mem 23 rfl) (fun w h => List.mem_cons_of_mem _ (List.mem_append_right _ (List.mem_append_right _ (List.mem_append_right _ (List.mem_append_right _ (List.mem_append_right _ (List.mem_append_right _ (List.mem_append_right _ (List.mem_append_right _ (List.mem_append_left _ h)))))))))) wkg_c_X2_depth) rfl rfl rfl (by decide +kernel) ⟨Nat.le_of_ble_eq_true rfl, Nat.le_of_ble_eq_true rfl⟩) ⟨fun a U g mk q => by obtain ⟨q0, qP, qK⟩ := q; exact ⟨q0, qP, va_K.moved (u := U) (U := U.calling g mk a) (Vm.Alike.refl U.vm) qK⟩, va_recv hK hPc (ci := 2) (q0 := 0) rfl rfl, fun U hU hW => ⟨rfl, by rw [hU]; exact hPc, va_K.moved hW.alike hK⟩⟩ rfl rfl hl.1 rfl (lv_room (Nat.le_of_ble_eq_true rfl)) dX11_mean_79 ⟨Nat.le_of_ble_eq_true rfl, Nat.le_of_ble_eq_true rfl⟩)) (fun rz566 gz565 => ?_)
                      clear hPc
                      refine lv_i2l hx hb dX11_mean_82 rfl ?_
                      refine lv_lmul hx hb dX11_mean_83 ?_
                      refine lv_topl (fun xz567 exz567 => ?_)
                      refine lv_ladd hx hb dX11_mean_84 ?_
                      refine lv_topl (fun xz568 exz568 => ?_)
                      refine lv_lstore_n (lv' := [(3, .long xz568), (6, .long rz362), (0, .ref (qX 0)), (1, .int p1), (2, .int p2), (5, .int xz345)]) hx hb dX11_mean_85 rfl hl (by decide) rfl (fun ls hl => ?_)
                      exact ct86_kz511 H locs ls az519 ez520 vz518 az523 nz522 vz521 xz568  hez520 hnz522 hP hD hS (lv_sub hl [2, 3, 4, 0, 5] rfl)
                    · skip
                      have zz569 : p1.toInt = (2 : Int) := zi_eq.mp cz558
                      refine W.eq (g2 := F0 m 78 ls [.int 2, .ref (sZ 2 1), .long rz362, .long xz344]) (by rw [cz558]) ?_
                      refine va_aldq hx hb hK hP 26 4 rfl rfl (by unfold vp_in; decide) dX11_mean_78 ?_
                      refine W.eq (g2 := F0 m 79 ls [.ref (sZ 2 8), .long rz362, .long xz344]) rfl ?_
                      have hPc := hP.sub (ws' := (List.flatten [(wMem (fun i => sZ 2 (i + 8)) k (fun i => (nz522 2) (i + 2)) (fun i => (az523 2) (i + 4)))])) [33, 34, 35] rfl
                      refine vp_callSi (va_Run.run (va_runV (As := []) (rest := [.long rz362, .long xz344]) ⟨hx, hb, hml, hown, hts⟩ (c_X2_depth l dC dI k (fun i => sZ 2 (i + 8)) (fun i => (nz522 2) (i + 2)) (fun i => (az523 2) (i + 4)) (fun i => (hnz522 2) (i + 2))) (cwV 0 hts (gk_V (wl_mem 20 rfl) (wl_mem 21 rfl) (wl_mem 22 rfl) (wl_mem 23 rfl) (fun w h => List.mem_cons_of_mem _ (List.mem_append_right _ (List.mem_append_right _ (List.mem_append_right _ (List.mem_append_right _ (List.mem_append_right _ (List.mem_append_right _ (List.mem_append_right _ (List.mem_append_right _ (List.mem_append_left _ h)))))))))) wkg_c_X2_depth) rfl rfl rfl (by decide +kernel) ⟨Nat.le_of_ble_eq_true rfl, Nat.le_of_ble_eq_true rfl⟩) ⟨fun a U g mk q => by obtain ⟨q0, qP, qK⟩ := q; exact ⟨q0, qP, va_K.moved (u := U) (U := U.calling g mk a) (Vm.Alike.refl U.vm) qK⟩, va_recv hK hPc (ci := 2) (q0 := 0) rfl rfl, fun U hU hW => ⟨rfl, by rw [hU]; exact hPc, va_K.moved hW.alike hK⟩⟩ rfl rfl hl.1 rfl (lv_room (Nat.le_of_ble_eq_true rfl)) dX11_mean_79 ⟨Nat.le_of_ble_eq_true rfl, Nat.le_of_ble_eq_true rfl⟩)) (fun rz571 gz570 => ?_)
                      clear hPc
                      refine lv_i2l hx hb dX11_mean_82 rfl ?_
                      refine lv_lmul hx hb dX11_mean_83 ?_
                      refine lv_topl (fun xz572 exz572 => ?_)
                      refine lv_ladd hx hb dX11_mean_84 ?_
                      refine lv_topl (fun xz573 exz573 => ?_)
                      refine lv_lstore_n (lv' := [(3, .long xz573), (6, .long rz362), (0, .ref (qX 0)), (1, .int p1), (2, .int p2), (5, .int xz345)]) hx hb dX11_mean_85 rfl hl (by decide) rfl (fun ls hl => ?_)
                      exact ct86_kz511 H locs ls az519 ez520 vz518 az523 nz522 vz521 xz573  hez520 hnz522 hP hD hS (lv_sub hl [2, 3, 4, 0, 5] rfl)
                  · skip
                    refine W.eq (g2 := F0 m 74 ls [.ref (sZ 3 0), .long rz362, .long xz344]) rfl ?_
                    refine va_get (D := (dC, dI)) (ci := 7) (v := .ref (sZ 3 1)) (C := RX7) (T := TX7) (N := 9) hx hb hts (fun w h => List.mem_cons_of_mem _ (List.mem_append_right _ (List.mem_append_right _ (List.mem_append_right _ (List.mem_append_right _ (List.mem_append_right _ (List.mem_append_right _ (List.mem_append_right _ (List.mem_append_left _ h))))))))) hown hK hP 36 rfl rfl 0 (by decide) (hts (.fieldLink RX11 194 "SagMemory$State" "memories" "[LSagMemory$Memory;") (wl_mem 19 rfl)) (fun _ h9 => h9) rfl dX11_mean_74 ?_
                    refine lv_iload_n hx hb dX11_mean_77 rfl (lv_at hl 2 rfl) ?_
                    rcases (show p1 = 0 ∨ p1 = 1 ∨ p1 = 2 by simp only [zi_eq]; show p1.toInt = 0 ∨ p1.toInt = 1 ∨ p1.toInt = 2; omega) with cz574 | cz574 | cz574
                    · skip
                      have zz575 : p1.toInt = (0 : Int) := zi_eq.mp cz574
                      refine W.eq (g2 := F0 m 78 ls [.int 0, .ref (sZ 3 1), .long rz362, .long xz344]) (by rw [cz574]) ?_
                      refine va_aldq hx hb hK hP 37 4 rfl rfl (by unfold vp_in; decide) dX11_mean_78 ?_
                      refine W.eq (g2 := F0 m 79 ls [.ref (sZ 3 2), .long rz362, .long xz344]) rfl ?_
                      have hPc := hP.sub (ws' := (List.flatten [(wMem (fun i => sZ 3 (i + 2)) k (nz522 3) (az523 3))])) [38, 39, 40] rfl
                      refine vp_callSi (va_Run.run (va_runV (As := []) (rest := [.long rz362, .long xz344]) ⟨hx, hb, hml, hown, hts⟩ (c_X2_depth l dC dI k (fun i => sZ 3 (i + 2)) (nz522 3) (az523 3) (hnz522 3)) (cwV 0 hts (gk_V (wl_mem 20 rfl) (wl_mem 21 rfl) (wl_mem 22 rfl) (wl_mem 23 rfl) (fun w h => List.mem_cons_of_mem _ (List.mem_append_right _ (List.mem_append_right _ (List.mem_append_right _ (List.mem_append_right _ (List.mem_append_right _ (List.mem_append_right _ (List.mem_append_right _ (List.mem_append_right _ (List.mem_append_left _ h)))))))))) wkg_c_X2_depth) rfl rfl rfl (by decide +kernel) ⟨Nat.le_of_ble_eq_true rfl, Nat.le_of_ble_eq_true rfl⟩) ⟨fun a U g mk q => by obtain ⟨q0, qP, qK⟩ := q; exact ⟨q0, qP, va_K.moved (u := U) (U := U.calling g mk a) (Vm.Alike.refl U.vm) qK⟩, va_recv hK hPc (ci := 2) (q0 := 0) rfl rfl, fun U hU hW => ⟨rfl, by rw [hU]; exact hPc, va_K.moved hW.alike hK⟩⟩ rfl rfl hl.1 rfl (lv_room (Nat.le_of_ble_eq_true rfl)) dX11_mean_79 ⟨Nat.le_of_ble_eq_true rfl, Nat.le_of_ble_eq_true rfl⟩)) (fun rz577 gz576 => ?_)
                      clear hPc
                      refine lv_i2l hx hb dX11_mean_82 rfl ?_
                      refine lv_lmul hx hb dX11_mean_83 ?_
                      refine lv_topl (fun xz578 exz578 => ?_)
                      refine lv_ladd hx hb dX11_mean_84 ?_
                      refine lv_topl (fun xz579 exz579 => ?_)
                      refine lv_lstore_n (lv' := [(3, .long xz579), (6, .long rz362), (0, .ref (qX 0)), (1, .int p1), (2, .int p2), (5, .int xz345)]) hx hb dX11_mean_85 rfl hl (by decide) rfl (fun ls hl => ?_)
                      exact ct86_kz511 H locs ls az519 ez520 vz518 az523 nz522 vz521 xz579  hez520 hnz522 hP hD hS (lv_sub hl [2, 3, 4, 0, 5] rfl)
                    · skip
                      have zz580 : p1.toInt = (1 : Int) := zi_eq.mp cz574
                      refine W.eq (g2 := F0 m 78 ls [.int 1, .ref (sZ 3 1), .long rz362, .long xz344]) (by rw [cz574]) ?_
                      refine va_aldq hx hb hK hP 37 4 rfl rfl (by unfold vp_in; decide) dX11_mean_78 ?_
                      refine W.eq (g2 := F0 m 79 ls [.ref (sZ 3 5), .long rz362, .long xz344]) rfl ?_
                      have hPc := hP.sub (ws' := (List.flatten [(wMem (fun i => sZ 3 (i + 5)) k (fun i => (nz522 3) (i + 1)) (fun i => (az523 3) (i + 2)))])) [41, 42, 43] rfl
                      refine vp_callSi (va_Run.run (va_runV (As := []) (rest := [.long rz362, .long xz344]) ⟨hx, hb, hml, hown, hts⟩ (c_X2_depth l dC dI k (fun i => sZ 3 (i + 5)) (fun i => (nz522 3) (i + 1)) (fun i => (az523 3) (i + 2)) (fun i => (hnz522 3) (i + 1))) (cwV 0 hts (gk_V (wl_mem 20 rfl) (wl_mem 21 rfl) (wl_mem 22 rfl) (wl_mem 23 rfl) (fun w h => List.mem_cons_of_mem _ (List.mem_append_right _ (List.mem_append_right _ (List.mem_append_right _ (List.mem_append_right _ (List.mem_append_right _ (List.mem_append_right _ (List.mem_append_right _ (List.mem_append_right _ (List.mem_append_left _ h)))))))))) wkg_c_X2_depth) rfl rfl rfl (by decide +kernel) ⟨Nat.le_of_ble_eq_true rfl, Nat.le_of_ble_eq_true rfl⟩) ⟨fun a U g mk q => by obtain ⟨q0, qP, qK⟩ := q; exact ⟨q0, qP, va_K.moved (u := U) (U := U.calling g mk a) (Vm.Alike.refl U.vm) qK⟩, va_recv hK hPc (ci := 2) (q0 := 0) rfl rfl, fun U hU hW => ⟨rfl, by rw [hU]; exact hPc, va_K.moved hW.alike hK⟩⟩ rfl rfl hl.1 rfl (lv_room (Nat.le_of_ble_eq_true rfl)) dX11_mean_79 ⟨Nat.le_of_ble_eq_true rfl, Nat.le_of_ble_eq_true rfl⟩)) (fun rz582 gz581 => ?_)
                      clear hPc
                      refine lv_i2l hx hb dX11_mean_82 rfl ?_
                      refine lv_lmul hx hb dX11_mean_83 ?_
                      refine lv_topl (fun xz583 exz583 => ?_)
                      refine lv_ladd hx hb dX11_mean_84 ?_
                      refine lv_topl (fun xz584 exz584 => ?_)
                      refine lv_lstore_n (lv' := [(3, .long xz584), (6, .long rz362), (0, .ref (qX 0)), (1, .int p1), (2, .int p2), (5, .int xz345)]) hx hb dX11_mean_85 rfl hl (by decide) rfl (fun ls hl => ?_)
                      exact ct86_kz511 H locs ls az519 ez520 vz518 az523 nz522 vz521 xz584  hez520 hnz522 hP hD hS (lv_sub hl [2, 3, 4, 0, 5] rfl)
                    · skip
                      have zz585 : p1.toInt = (2 : Int) := zi_eq.mp cz574
                      refine W.eq (g2 := F0 m 78 ls [.int 2, .ref (sZ 3 1), .long rz362, .long xz344]) (by rw [cz574]) ?_
                      refine va_aldq hx hb hK hP 37 4 rfl rfl (by unfold vp_in; decide) dX11_mean_78 ?_
                      refine W.eq (g2 := F0 m 79 ls [.ref (sZ 3 8), .long rz362, .long xz344]) rfl ?_
                      have hPc := hP.sub (ws' := (List.flatten [(wMem (fun i => sZ 3 (i + 8)) k (fun i => (nz522 3) (i + 2)) (fun i => (az523 3) (i + 4)))])) [44, 45, 46] rfl
                      refine vp_callSi (va_Run.run (va_runV (As := []) (rest := [.long rz362, .long xz344]) ⟨hx, hb, hml, hown, hts⟩ (c_X2_depth l dC dI k (fun i => sZ 3 (i + 8)) (fun i => (nz522 3) (i + 2)) (fun i => (az523 3) (i + 4)) (fun i => (hnz522 3) (i + 2))) (cwV 0 hts (gk_V (wl_mem 20 rfl) (wl_mem 21 rfl) (wl_mem 22 rfl) (wl_mem 23 rfl) (fun w h => List.mem_cons_of_mem _ (List.mem_append_right _ (List.mem_append_right _ (List.mem_append_right _ (List.mem_append_right _ (List.mem_append_right _ (List.mem_append_right _ (List.mem_append_right _ (List.mem_append_right _ (List.mem_append_left _ h)))))))))) wkg_c_X2_depth) rfl rfl rfl (by decide +kernel) ⟨Nat.le_of_ble_eq_true rfl, Nat.le_of_ble_eq_true rfl⟩) ⟨fun a U g mk q => by obtain ⟨q0, qP, qK⟩ := q; exact ⟨q0, qP, va_K.moved (u := U) (U := U.calling g mk a) (Vm.Alike.refl U.vm) qK⟩, va_recv hK hPc (ci := 2) (q0 := 0) rfl rfl, fun U hU hW => ⟨rfl, by rw [hU]; exact hPc, va_K.moved hW.alike hK⟩⟩ rfl rfl hl.1 rfl (lv_room (Nat.le_of_ble_eq_true rfl)) dX11_mean_79 ⟨Nat.le_of_ble_eq_true rfl, Nat.le_of_ble_eq_true rfl⟩)) (fun rz587 gz586 => ?_)
                      clear hPc
                      refine lv_i2l hx hb dX11_mean_82 rfl ?_
                      refine lv_lmul hx hb dX11_mean_83 ?_
                      refine lv_topl (fun xz588 exz588 => ?_)
                      refine lv_ladd hx hb dX11_mean_84 ?_
                      refine lv_topl (fun xz589 exz589 => ?_)
                      refine lv_lstore_n (lv' := [(3, .long xz589), (6, .long rz362), (0, .ref (qX 0)), (1, .int p1), (2, .int p2), (5, .int xz345)]) hx hb dX11_mean_85 rfl hl (by decide) rfl (fun ls hl => ?_)
                      exact ct86_kz511 H locs ls az519 ez520 vz518 az523 nz522 vz521 xz589  hez520 hnz522 hP hD hS (lv_sub hl [2, 3, 4, 0, 5] rfl)
                  · skip
                    refine W.eq (g2 := F0 m 74 ls [.ref (sZ 4 0), .long rz362, .long xz344]) rfl ?_
                    refine va_get (D := (dC, dI)) (ci := 7) (v := .ref (sZ 4 1)) (C := RX7) (T := TX7) (N := 9) hx hb hts (fun w h => List.mem_cons_of_mem _ (List.mem_append_right _ (List.mem_append_right _ (List.mem_append_right _ (List.mem_append_right _ (List.mem_append_right _ (List.mem_append_right _ (List.mem_append_right _ (List.mem_append_left _ h))))))))) hown hK hP 47 rfl rfl 0 (by decide) (hts (.fieldLink RX11 194 "SagMemory$State" "memories" "[LSagMemory$Memory;") (wl_mem 19 rfl)) (fun _ h9 => h9) rfl dX11_mean_74 ?_
                    refine lv_iload_n hx hb dX11_mean_77 rfl (lv_at hl 2 rfl) ?_
                    rcases (show p1 = 0 ∨ p1 = 1 ∨ p1 = 2 by simp only [zi_eq]; show p1.toInt = 0 ∨ p1.toInt = 1 ∨ p1.toInt = 2; omega) with cz590 | cz590 | cz590
                    · skip
                      have zz591 : p1.toInt = (0 : Int) := zi_eq.mp cz590
                      refine W.eq (g2 := F0 m 78 ls [.int 0, .ref (sZ 4 1), .long rz362, .long xz344]) (by rw [cz590]) ?_
                      refine va_aldq hx hb hK hP 48 4 rfl rfl (by unfold vp_in; decide) dX11_mean_78 ?_
                      refine W.eq (g2 := F0 m 79 ls [.ref (sZ 4 2), .long rz362, .long xz344]) rfl ?_
                      have hPc := hP.sub (ws' := (List.flatten [(wMem (fun i => sZ 4 (i + 2)) k (nz522 4) (az523 4))])) [49, 50, 51] rfl
                      refine vp_callSi (va_Run.run (va_runV (As := []) (rest := [.long rz362, .long xz344]) ⟨hx, hb, hml, hown, hts⟩ (c_X2_depth l dC dI k (fun i => sZ 4 (i + 2)) (nz522 4) (az523 4) (hnz522 4)) (cwV 0 hts (gk_V (wl_mem 20 rfl) (wl_mem 21 rfl) (wl_mem 22 rfl) (wl_mem 23 rfl) (fun w h => List.mem_cons_of_mem _ (List.mem_append_right _ (List.mem_append_right _ (List.mem_append_right _ (List.mem_append_right _ (List.mem_append_right _ (List.mem_append_right _ (List.mem_append_right _ (List.mem_append_right _ (List.mem_append_left _ h)))))))))) wkg_c_X2_depth) rfl rfl rfl (by decide +kernel) ⟨Nat.le_of_ble_eq_true rfl, Nat.le_of_ble_eq_true rfl⟩) ⟨fun a U g mk q => by obtain ⟨q0, qP, qK⟩ := q; exact ⟨q0, qP, va_K.moved (u := U) (U := U.calling g mk a) (Vm.Alike.refl U.vm) qK⟩, va_recv hK hPc (ci := 2) (q0 := 0) rfl rfl, fun U hU hW => ⟨rfl, by rw [hU]; exact hPc, va_K.moved hW.alike hK⟩⟩ rfl rfl hl.1 rfl (lv_room (Nat.le_of_ble_eq_true rfl)) dX11_mean_79 ⟨Nat.le_of_ble_eq_true rfl, Nat.le_of_ble_eq_true rfl⟩)) (fun rz593 gz592 => ?_)
                      clear hPc
                      refine lv_i2l hx hb dX11_mean_82 rfl ?_
                      refine lv_lmul hx hb dX11_mean_83 ?_
                      refine lv_topl (fun xz594 exz594 => ?_)
                      refine lv_ladd hx hb dX11_mean_84 ?_
                      refine lv_topl (fun xz595 exz595 => ?_)
                      refine lv_lstore_n (lv' := [(3, .long xz595), (6, .long rz362), (0, .ref (qX 0)), (1, .int p1), (2, .int p2), (5, .int xz345)]) hx hb dX11_mean_85 rfl hl (by decide) rfl (fun ls hl => ?_)
                      exact ct86_kz511 H locs ls az519 ez520 vz518 az523 nz522 vz521 xz595  hez520 hnz522 hP hD hS (lv_sub hl [2, 3, 4, 0, 5] rfl)
                    · skip
                      have zz596 : p1.toInt = (1 : Int) := zi_eq.mp cz590
                      refine W.eq (g2 := F0 m 78 ls [.int 1, .ref (sZ 4 1), .long rz362, .long xz344]) (by rw [cz590]) ?_
                      refine va_aldq hx hb hK hP 48 4 rfl rfl (by unfold vp_in; decide) dX11_mean_78 ?_
                      refine W.eq (g2 := F0 m 79 ls [.ref (sZ 4 5), .long rz362, .long xz344]) rfl ?_
                      have hPc := hP.sub (ws' := (List.flatten [(wMem (fun i => sZ 4 (i + 5)) k (fun i => (nz522 4) (i + 1)) (fun i => (az523 4) (i + 2)))])) [52, 53, 54] rfl
                      refine vp_callSi (va_Run.run (va_runV (As := []) (rest := [.long rz362, .long xz344]) ⟨hx, hb, hml, hown, hts⟩ (c_X2_depth l dC dI k (fun i => sZ 4 (i + 5)) (fun i => (nz522 4) (i + 1)) (fun i => (az523 4) (i + 2)) (fun i => (hnz522 4) (i + 1))) (cwV 0 hts (gk_V (wl_mem 20 rfl) (wl_mem 21 rfl) (wl_mem 22 rfl) (wl_mem 23 rfl) (fun w h => List.mem_cons_of_mem _ (List.mem_append_right _ (List.mem_append_right _ (List.mem_append_right _ (List.mem_append_right _ (List.mem_append_right _ (List.mem_append_right _ (List.mem_append_right _ (List.mem_append_right _ (List.mem_append_left _ h)))))))))) wkg_c_X2_depth) rfl rfl rfl (by decide +kernel) ⟨Nat.le_of_ble_eq_true rfl, Nat.le_of_ble_eq_true rfl⟩) ⟨fun a U g mk q => by obtain ⟨q0, qP, qK⟩ := q; exact ⟨q0, qP, va_K.moved (u := U) (U := U.calling g mk a) (Vm.Alike.refl U.vm) qK⟩, va_recv hK hPc (ci := 2) (q0 := 0) rfl rfl, fun U hU hW => ⟨rfl, by rw [hU]; exact hPc, va_K.moved hW.alike hK⟩⟩ rfl rfl hl.1 rfl (lv_room (Nat.le_of_ble_eq_true rfl)) dX11_mean_79 ⟨Nat.le_of_ble_eq_true rfl, Nat.le_of_ble_eq_true rfl⟩)) (fun rz598 gz597 => ?_)
                      clear hPc
                      refine lv_i2l hx hb dX11_mean_82 rfl ?_
                      refine lv_lmul hx hb dX11_mean_83 ?_
                      refine lv_topl (fun xz599 exz599 => ?_)
                      refine lv_ladd hx hb dX11_mean_84 ?_
                      refine lv_topl (fun xz600 exz600 => ?_)
                      refine lv_lstore_n (lv' := [(3, .long xz600), (6, .long rz362), (0, .ref (qX 0)), (1, .int p1), (2, .int p2), (5, .int xz345)]) hx hb dX11_mean_85 rfl hl (by decide) rfl (fun ls hl => ?_)
                      exact ct86_kz511 H locs ls az519 ez520 vz518 az523 nz522 vz521 xz600  hez520 hnz522 hP hD hS (lv_sub hl [2, 3, 4, 0, 5] rfl)
                    · skip
                      have zz601 : p1.toInt = (2 : Int) := zi_eq.mp cz590
                      refine W.eq (g2 := F0 m 78 ls [.int 2, .ref (sZ 4 1), .long rz362, .long xz344]) (by rw [cz590]) ?_
                      refine va_aldq hx hb hK hP 48 4 rfl rfl (by unfold vp_in; decide) dX11_mean_78 ?_
                      refine W.eq (g2 := F0 m 79 ls [.ref (sZ 4 8), .long rz362, .long xz344]) rfl ?_
                      have hPc := hP.sub (ws' := (List.flatten [(wMem (fun i => sZ 4 (i + 8)) k (fun i => (nz522 4) (i + 2)) (fun i => (az523 4) (i + 4)))])) [55, 56, 57] rfl
                      refine vp_callSi (va_Run.run (va_runV (As := []) (rest := [.long rz362, .long xz344]) ⟨hx, hb, hml, hown, hts⟩ (c_X2_depth l dC dI k (fun i => sZ 4 (i + 8)) (fun i => (nz522 4) (i + 2)) (fun i => (az523 4) (i + 4)) (fun i => (hnz522 4) (i + 2))) (cwV 0 hts (gk_V (wl_mem 20 rfl) (wl_mem 21 rfl) (wl_mem 22 rfl) (wl_mem 23 rfl) (fun w h => List.mem_cons_of_mem _ (List.mem_append_right _ (List.mem_append_right _ (List.mem_append_right _ (List.mem_append_right _ (List.mem_append_right _ (List.mem_append_right _ (List.mem_append_right _ (List.mem_append_right _ (List.mem_append_left _ h)))))))))) wkg_c_X2_depth) rfl rfl rfl (by decide +kernel) ⟨Nat.le_of_ble_eq_true rfl, Nat.le_of_ble_eq_true rfl⟩) ⟨fun a U g mk q => by obtain ⟨q0, qP, qK⟩ := q; exact ⟨q0, qP, va_K.moved (u := U) (U := U.calling g mk a) (Vm.Alike.refl U.vm) qK⟩, va_recv hK hPc (ci := 2) (q0 := 0) rfl rfl, fun U hU hW => ⟨rfl, by rw [hU]; exact hPc, va_K.moved hW.alike hK⟩⟩ rfl rfl hl.1 rfl (lv_room (Nat.le_of_ble_eq_true rfl)) dX11_mean_79 ⟨Nat.le_of_ble_eq_true rfl, Nat.le_of_ble_eq_true rfl⟩)) (fun rz603 gz602 => ?_)
                      clear hPc
                      refine lv_i2l hx hb dX11_mean_82 rfl ?_
                      refine lv_lmul hx hb dX11_mean_83 ?_
                      refine lv_topl (fun xz604 exz604 => ?_)
                      refine lv_ladd hx hb dX11_mean_84 ?_
                      refine lv_topl (fun xz605 exz605 => ?_)
                      refine lv_lstore_n (lv' := [(3, .long xz605), (6, .long rz362), (0, .ref (qX 0)), (1, .int p1), (2, .int p2), (5, .int xz345)]) hx hb dX11_mean_85 rfl hl (by decide) rfl (fun ls hl => ?_)
                      exact ct86_kz511 H locs ls az519 ez520 vz518 az523 nz522 vz521 xz605  hez520 hnz522 hP hD hS (lv_sub hl [2, 3, 4, 0, 5] rfl)
                  · skip
                    refine W.eq (g2 := F0 m 74 ls [.ref (sZ 5 0), .long rz362, .long xz344]) rfl ?_
                    refine va_get (D := (dC, dI)) (ci := 7) (v := .ref (sZ 5 1)) (C := RX7) (T := TX7) (N := 9) hx hb hts (fun w h => List.mem_cons_of_mem _ (List.mem_append_right _ (List.mem_append_right _ (List.mem_append_right _ (List.mem_append_right _ (List.mem_append_right _ (List.mem_append_right _ (List.mem_append_right _ (List.mem_append_left _ h))))))))) hown hK hP 58 rfl rfl 0 (by decide) (hts (.fieldLink RX11 194 "SagMemory$State" "memories" "[LSagMemory$Memory;") (wl_mem 19 rfl)) (fun _ h9 => h9) rfl dX11_mean_74 ?_
                    refine lv_iload_n hx hb dX11_mean_77 rfl (lv_at hl 2 rfl) ?_
                    rcases (show p1 = 0 ∨ p1 = 1 ∨ p1 = 2 by simp only [zi_eq]; show p1.toInt = 0 ∨ p1.toInt = 1 ∨ p1.toInt = 2; omega) with cz606 | cz606 | cz606
                    · skip
                      have zz607 : p1.toInt = (0 : Int) := zi_eq.mp cz606
                      refine W.eq (g2 := F0 m 78 ls [.int 0, .ref (sZ 5 1), .long rz362, .long xz344]) (by rw [cz606]) ?_
                      refine va_aldq hx hb hK hP 59 4 rfl rfl (by unfold vp_in; decide) dX11_mean_78 ?_
                      refine W.eq (g2 := F0 m 79 ls [.ref (sZ 5 2), .long rz362, .long xz344]) rfl ?_
                      have hPc := hP.sub (ws' := (List.flatten [(wMem (fun i => sZ 5 (i + 2)) k (nz522 5) (az523 5))])) [60, 61, 62] rfl
                      refine vp_callSi (va_Run.run (va_runV (As := []) (rest := [.long rz362, .long xz344]) ⟨hx, hb, hml, hown, hts⟩ (c_X2_depth l dC dI k (fun i => sZ 5 (i + 2)) (nz522 5) (az523 5) (hnz522 5)) (cwV 0 hts (gk_V (wl_mem 20 rfl) (wl_mem 21 rfl) (wl_mem 22 rfl) (wl_mem 23 rfl) (fun w h => List.mem_cons_of_mem _ (List.mem_append_right _ (List.mem_append_right _ (List.mem_append_right _ (List.mem_append_right _ (List.mem_append_right _ (List.mem_append_right _ (List.mem_append_right _ (List.mem_append_right _ (List.mem_append_left _ h)))))))))) wkg_c_X2_depth) rfl rfl rfl (by decide +kernel) ⟨Nat.le_of_ble_eq_true rfl, Nat.le_of_ble_eq_true rfl⟩) ⟨fun a U g mk q => by obtain ⟨q0, qP, qK⟩ := q; exact ⟨q0, qP, va_K.moved (u := U) (U := U.calling g mk a) (Vm.Alike.refl U.vm) qK⟩, va_recv hK hPc (ci := 2) (q0 := 0) rfl rfl, fun U hU hW => ⟨rfl, by rw [hU]; exact hPc, va_K.moved hW.alike hK⟩⟩ rfl rfl hl.1 rfl (lv_room (Nat.le_of_ble_eq_true rfl)) dX11_mean_79 ⟨Nat.le_of_ble_eq_true rfl, Nat.le_of_ble_eq_true rfl⟩)) (fun rz609 gz608 => ?_)
                      clear hPc
                      refine lv_i2l hx hb dX11_mean_82 rfl ?_
                      refine lv_lmul hx hb dX11_mean_83 ?_
                      refine lv_topl (fun xz610 exz610 => ?_)
                      refine lv_ladd hx hb dX11_mean_84 ?_
                      refine lv_topl (fun xz611 exz611 => ?_)
                      refine lv_lstore_n (lv' := [(3, .long xz611), (6, .long rz362), (0, .ref (qX 0)), (1, .int p1), (2, .int p2), (5, .int xz345)]) hx hb dX11_mean_85 rfl hl (by decide) rfl (fun ls hl => ?_)
                      exact ct86_kz511 H locs ls az519 ez520 vz518 az523 nz522 vz521 xz611  hez520 hnz522 hP hD hS (lv_sub hl [2, 3, 4, 0, 5] rfl)
                    · skip
                      have zz612 : p1.toInt = (1 : Int) := zi_eq.mp cz606
                      refine W.eq (g2 := F0 m 78 ls [.int 1, .ref (sZ 5 1), .long rz362, .long xz344]) (by rw [cz606]) ?_
                      refine va_aldq hx hb hK hP 59 4 rfl rfl (by unfold vp_in; decide) dX11_mean_78 ?_
                      refine W.eq (g2 := F0 m 79 ls [.ref (sZ 5 5), .long rz362, .long xz344]) rfl ?_
                      have hPc := hP.sub (ws' := (List.flatten [(wMem (fun i => sZ 5 (i + 5)) k (fun i => (nz522 5) (i + 1)) (fun i => (az523 5) (i + 2)))])) [63, 64, 65] rfl
                      refine vp_callSi (va_Run.run (va_runV (As := []) (rest := [.long rz362, .long xz344]) ⟨hx, hb, hml, hown, hts⟩ (c_X2_depth l dC dI k (fun i => sZ 5 (i + 5)) (fun i => (nz522 5) (i + 1)) (fun i => (az523 5) (i + 2)) (fun i => (hnz522 5) (i + 1))) (cwV 0 hts (gk_V (wl_mem 20 rfl) (wl_mem 21 rfl) (wl_mem 22 rfl) (wl_mem 23 rfl) (fun w h => List.mem_cons_of_mem _ (List.mem_append_right _ (List.mem_append_right _ (List.mem_append_right _ (List.mem_append_right _ (List.mem_append_right _ (List.mem_append_right _ (List.mem_append_right _ (List.mem_append_right _ (List.mem_append_left _ h)))))))))) wkg_c_X2_depth) rfl rfl rfl (by decide +kernel) ⟨Nat.le_of_ble_eq_true rfl, Nat.le_of_ble_eq_true rfl⟩) ⟨fun a U g mk q => by obtain ⟨q0, qP, qK⟩ := q; exact ⟨q0, qP, va_K.moved (u := U) (U := U.calling g mk a) (Vm.Alike.refl U.vm) qK⟩, va_recv hK hPc (ci := 2) (q0 := 0) rfl rfl, fun U hU hW => ⟨rfl, by rw [hU]; exact hPc, va_K.moved hW.alike hK⟩⟩ rfl rfl hl.1 rfl (lv_room (Nat.le_of_ble_eq_true rfl)) dX11_mean_79 ⟨Nat.le_of_ble_eq_true rfl, Nat.le_of_ble_eq_true rfl⟩)) (fun rz614 gz613 => ?_)
                      clear hPc
                      refine lv_i2l hx hb dX11_mean_82 rfl ?_
                      refine lv_lmul hx hb dX11_mean_83 ?_
                      refine lv_topl (fun xz615 exz615 => ?_)
                      refine lv_ladd hx hb dX11_mean_84 ?_
                      refine lv_topl (fun xz616 exz616 => ?_)
                      refine lv_lstore_n (lv' := [(3, .long xz616), (6, .long rz362), (0, .ref (qX 0)), (1, .int p1), (2, .int p2), (5, .int xz345)]) hx hb dX11_mean_85 rfl hl (by decide) rfl (fun ls hl => ?_)
                      exact ct86_kz511 H locs ls az519 ez520 vz518 az523 nz522 vz521 xz616  hez520 hnz522 hP hD hS (lv_sub hl [2, 3, 4, 0, 5] rfl)
                    · skip
                      have zz617 : p1.toInt = (2 : Int) := zi_eq.mp cz606
                      refine W.eq (g2 := F0 m 78 ls [.int 2, .ref (sZ 5 1), .long rz362, .long xz344]) (by rw [cz606]) ?_
                      refine va_aldq hx hb hK hP 59 4 rfl rfl (by unfold vp_in; decide) dX11_mean_78 ?_
                      refine W.eq (g2 := F0 m 79 ls [.ref (sZ 5 8), .long rz362, .long xz344]) rfl ?_
                      have hPc := hP.sub (ws' := (List.flatten [(wMem (fun i => sZ 5 (i + 8)) k (fun i => (nz522 5) (i + 2)) (fun i => (az523 5) (i + 4)))])) [66, 67, 68] rfl
                      refine vp_callSi (va_Run.run (va_runV (As := []) (rest := [.long rz362, .long xz344]) ⟨hx, hb, hml, hown, hts⟩ (c_X2_depth l dC dI k (fun i => sZ 5 (i + 8)) (fun i => (nz522 5) (i + 2)) (fun i => (az523 5) (i + 4)) (fun i => (hnz522 5) (i + 2))) (cwV 0 hts (gk_V (wl_mem 20 rfl) (wl_mem 21 rfl) (wl_mem 22 rfl) (wl_mem 23 rfl) (fun w h => List.mem_cons_of_mem _ (List.mem_append_right _ (List.mem_append_right _ (List.mem_append_right _ (List.mem_append_right _ (List.mem_append_right _ (List.mem_append_right _ (List.mem_append_right _ (List.mem_append_right _ (List.mem_append_left _ h)))))))))) wkg_c_X2_depth) rfl rfl rfl (by decide +kernel) ⟨Nat.le_of_ble_eq_true rfl, Nat.le_of_ble_eq_true rfl⟩) ⟨fun a U g mk q => by obtain ⟨q0, qP, qK⟩ := q; exact ⟨q0, qP, va_K.moved (u := U) (U := U.calling g mk a) (Vm.Alike.refl U.vm) qK⟩, va_recv hK hPc (ci := 2) (q0 := 0) rfl rfl, fun U hU hW => ⟨rfl, by rw [hU]; exact hPc, va_K.moved hW.alike hK⟩⟩ rfl rfl hl.1 rfl (lv_room (Nat.le_of_ble_eq_true rfl)) dX11_mean_79 ⟨Nat.le_of_ble_eq_true rfl, Nat.le_of_ble_eq_true rfl⟩)) (fun rz619 gz618 => ?_)
                      clear hPc
                      refine lv_i2l hx hb dX11_mean_82 rfl ?_
                      refine lv_lmul hx hb dX11_mean_83 ?_
                      refine lv_topl (fun xz620 exz620 => ?_)
                      refine lv_ladd hx hb dX11_mean_84 ?_
                      refine lv_topl (fun xz621 exz621 => ?_)
                      refine lv_lstore_n (lv' := [(3, .long xz621), (6, .long rz362), (0, .ref (qX 0)), (1, .int p1), (2, .int p2), (5, .int xz345)]) hx hb dX11_mean_85 rfl hl (by decide) rfl (fun ls hl => ?_)
                      exact ct86_kz511 H locs ls az519 ez520 vz518 az523 nz522 vz521 xz621  hez520 hnz522 hP hD hS (lv_sub hl [2, 3, 4, 0, 5] rfl)
                  · skip
                    refine W.eq (g2 := F0 m 74 ls [.ref (sZ 6 0), .long rz362, .long xz344]) rfl ?_
                    refine va_get (D := (dC, dI)) (ci := 7) (v := .ref (sZ 6 1)) (C := RX7) (T := TX7) (N := 9) hx hb hts (fun w h => List.mem_cons_of_mem _ (List.mem_append_right _ (List.mem_append_right _ (List.mem_append_right _ (List.mem_append_right _ (List.mem_append_right _ (List.mem_append_right _ (List.mem_append_right _ (List.mem_append_left _ h))))))))) hown hK hP 69 rfl rfl 0 (by decide) (hts (.fieldLink RX11 194 "SagMemory$State" "memories" "[LSagMemory$Memory;") (wl_mem 19 rfl)) (fun _ h9 => h9) rfl dX11_mean_74 ?_
                    refine lv_iload_n hx hb dX11_mean_77 rfl (lv_at hl 2 rfl) ?_
                    rcases (show p1 = 0 ∨ p1 = 1 ∨ p1 = 2 by simp only [zi_eq]; show p1.toInt = 0 ∨ p1.toInt = 1 ∨ p1.toInt = 2; omega) with cz622 | cz622 | cz622
                    · skip
                      have zz623 : p1.toInt = (0 : Int) := zi_eq.mp cz622
                      refine W.eq (g2 := F0 m 78 ls [.int 0, .ref (sZ 6 1), .long rz362, .long xz344]) (by rw [cz622]) ?_
                      refine va_aldq hx hb hK hP 70 4 rfl rfl (by unfold vp_in; decide) dX11_mean_78 ?_
                      refine W.eq (g2 := F0 m 79 ls [.ref (sZ 6 2), .long rz362, .long xz344]) rfl ?_
                      have hPc := hP.sub (ws' := (List.flatten [(wMem (fun i => sZ 6 (i + 2)) k (nz522 6) (az523 6))])) [71, 72, 73] rfl
                      refine vp_callSi (va_Run.run (va_runV (As := []) (rest := [.long rz362, .long xz344]) ⟨hx, hb, hml, hown, hts⟩ (c_X2_depth l dC dI k (fun i => sZ 6 (i + 2)) (nz522 6) (az523 6) (hnz522 6)) (cwV 0 hts (gk_V (wl_mem 20 rfl) (wl_mem 21 rfl) (wl_mem 22 rfl) (wl_mem 23 rfl) (fun w h => List.mem_cons_of_mem _ (List.mem_append_right _ (List.mem_append_right _ (List.mem_append_right _ (List.mem_append_right _ (List.mem_append_right _ (List.mem_append_right _ (List.mem_append_right _ (List.mem_append_right _ (List.mem_append_left _ h)))))))))) wkg_c_X2_depth) rfl rfl rfl (by decide +kernel) ⟨Nat.le_of_ble_eq_true rfl, Nat.le_of_ble_eq_true rfl⟩) ⟨fun a U g mk q => by obtain ⟨q0, qP, qK⟩ := q; exact ⟨q0, qP, va_K.moved (u := U) (U := U.calling g mk a) (Vm.Alike.refl U.vm) qK⟩, va_recv hK hPc (ci := 2) (q0 := 0) rfl rfl, fun U hU hW => ⟨rfl, by rw [hU]; exact hPc, va_K.moved hW.alike hK⟩⟩ rfl rfl hl.1 rfl (lv_room (Nat.le_of_ble_eq_true rfl)) dX11_mean_79 ⟨Nat.le_of_ble_eq_true rfl, Nat.le_of_ble_eq_true rfl⟩)) (fun rz625 gz624 => ?_)
                      clear hPc
                      refine lv_i2l hx hb dX11_mean_82 rfl ?_
                      refine lv_lmul hx hb dX11_mean_83 ?_
                      refine lv_topl (fun xz626 exz626 => ?_)
                      refine lv_ladd hx hb dX11_mean_84 ?_
                      refine lv_topl (fun xz627 exz627 => ?_)
                      refine lv_lstore_n (lv' := [(3, .long xz627), (6, .long rz362), (0, .ref (qX 0)), (1, .int p1), (2, .int p2), (5, .int xz345)]) hx hb dX11_mean_85 rfl hl (by decide) rfl (fun ls hl => ?_)
                      exact ct86_kz511 H locs ls az519 ez520 vz518 az523 nz522 vz521 xz627  hez520 hnz522 hP hD hS (lv_sub hl [2, 3, 4, 0, 5] rfl)
                    · skip
                      have zz628 : p1.toInt = (1 : Int) := zi_eq.mp cz622
                      refine W.eq (g2 := F0 m 78 ls [.int 1, .ref (sZ 6 1), .long rz362, .long xz344]) (by rw [cz622]) ?_
                      refine va_aldq hx hb hK hP 70 4 rfl rfl (by unfold vp_in; decide) dX11_mean_78 ?_
                      refine W.eq (g2 := F0 m 79 ls [.ref (sZ 6 5), .long rz362, .long xz344]) rfl ?_
                      have hPc := hP.sub (ws' := (List.flatten [(wMem (fun i => sZ 6 (i + 5)) k (fun i => (nz522 6) (i + 1)) (fun i => (az523 6) (i + 2)))])) [74, 75, 76] rfl
                      refine vp_callSi (va_Run.run (va_runV (As := []) (rest := [.long rz362, .long xz344]) ⟨hx, hb, hml, hown, hts⟩ (c_X2_depth l dC dI k (fun i => sZ 6 (i + 5)) (fun i => (nz522 6) (i + 1)) (fun i => (az523 6) (i + 2)) (fun i => (hnz522 6) (i + 1))) (cwV 0 hts (gk_V (wl_mem 20 rfl) (wl_mem 21 rfl) (wl_mem 22 rfl) (wl_mem 23 rfl) (fun w h => List.mem_cons_of_mem _ (List.mem_append_right _ (List.mem_append_right _ (List.mem_append_right _ (List.mem_append_right _ (List.mem_append_right _ (List.mem_append_right _ (List.mem_append_right _ (List.mem_append_right _ (List.mem_append_left _ h)))))))))) wkg_c_X2_depth) rfl rfl rfl (by decide +kernel) ⟨Nat.le_of_ble_eq_true rfl, Nat.le_of_ble_eq_true rfl⟩) ⟨fun a U g mk q => by obtain ⟨q0, qP, qK⟩ := q; exact ⟨q0, qP, va_K.moved (u := U) (U := U.calling g mk a) (Vm.Alike.refl U.vm) qK⟩, va_recv hK hPc (ci := 2) (q0 := 0) rfl rfl, fun U hU hW => ⟨rfl, by rw [hU]; exact hPc, va_K.moved hW.alike hK⟩⟩ rfl rfl hl.1 rfl (lv_room (Nat.le_of_ble_eq_true rfl)) dX11_mean_79 ⟨Nat.le_of_ble_eq_true rfl, Nat.le_of_ble_eq_true rfl⟩)) (fun rz630 gz629 => ?_)
                      clear hPc
                      refine lv_i2l hx hb dX11_mean_82 rfl ?_
                      refine lv_lmul hx hb dX11_mean_83 ?_
                      refine lv_topl (fun xz631 exz631 => ?_)
                      refine lv_ladd hx hb dX11_mean_84 ?_
                      refine lv_topl (fun xz632 exz632 => ?_)
                      refine lv_lstore_n (lv' := [(3, .long xz632), (6, .long rz362), (0, .ref (qX 0)), (1, .int p1), (2, .int p2), (5, .int xz345)]) hx hb dX11_mean_85 rfl hl (by decide) rfl (fun ls hl => ?_)
                      exact ct86_kz511 H locs ls az519 ez520 vz518 az523 nz522 vz521 xz632  hez520 hnz522 hP hD hS (lv_sub hl [2, 3, 4, 0, 5] rfl)
                    · skip
                      have zz633 : p1.toInt = (2 : Int) := zi_eq.mp cz622
                      refine W.eq (g2 := F0 m 78 ls [.int 2, .ref (sZ 6 1), .long rz362, .long xz344]) (by rw [cz622]) ?_
                      refine va_aldq hx hb hK hP 70 4 rfl rfl (by unfold vp_in; decide) dX11_mean_78 ?_
                      refine W.eq (g2 := F0 m 79 ls [.ref (sZ 6 8), .long rz362, .long xz344]) rfl ?_
                      have hPc := hP.sub (ws' := (List.flatten [(wMem (fun i => sZ 6 (i + 8)) k (fun i => (nz522 6) (i + 2)) (fun i => (az523 6) (i + 4)))])) [77, 78, 79] rfl
                      refine vp_callSi (va_Run.run (va_runV (As := []) (rest := [.long rz362, .long xz344]) ⟨hx, hb, hml, hown, hts⟩ (c_X2_depth l dC dI k (fun i => sZ 6 (i + 8)) (fun i => (nz522 6) (i + 2)) (fun i => (az523 6) (i + 4)) (fun i => (hnz522 6) (i + 2))) (cwV 0 hts (gk_V (wl_mem 20 rfl) (wl_mem 21 rfl) (wl_mem 22 rfl) (wl_mem 23 rfl) (fun w h => List.mem_cons_of_mem _ (List.mem_append_right _ (List.mem_append_right _ (List.mem_append_right _ (List.mem_append_right _ (List.mem_append_right _ (List.mem_append_right _ (List.mem_append_right _ (List.mem_append_right _ (List.mem_append_left _ h)))))))))) wkg_c_X2_depth) rfl rfl rfl (by decide +kernel) ⟨Nat.le_of_ble_eq_true rfl, Nat.le_of_ble_eq_true rfl⟩) ⟨fun a U g mk q => by obtain ⟨q0, qP, qK⟩ := q; exact ⟨q0, qP, va_K.moved (u := U) (U := U.calling g mk a) (Vm.Alike.refl U.vm) qK⟩, va_recv hK hPc (ci := 2) (q0 := 0) rfl rfl, fun U hU hW => ⟨rfl, by rw [hU]; exact hPc, va_K.moved hW.alike hK⟩⟩ rfl rfl hl.1 rfl (lv_room (Nat.le_of_ble_eq_true rfl)) dX11_mean_79 ⟨Nat.le_of_ble_eq_true rfl, Nat.le_of_ble_eq_true rfl⟩)) (fun rz635 gz634 => ?_)
                      clear hPc
                      refine lv_i2l hx hb dX11_mean_82 rfl ?_
                      refine lv_lmul hx hb dX11_mean_83 ?_
                      refine lv_topl (fun xz636 exz636 => ?_)
                      refine lv_ladd hx hb dX11_mean_84 ?_
                      refine lv_topl (fun xz637 exz637 => ?_)
                      refine lv_lstore_n (lv' := [(3, .long xz637), (6, .long rz362), (0, .ref (qX 0)), (1, .int p1), (2, .int p2), (5, .int xz345)]) hx hb dX11_mean_85 rfl hl (by decide) rfl (fun ls hl => ?_)
                      exact ct86_kz511 H locs ls az519 ez520 vz518 az523 nz522 vz521 xz637  hez520 hnz522 hP hD hS (lv_sub hl [2, 3, 4, 0, 5] rfl)
                  · skip
                    refine W.eq (g2 := F0 m 74 ls [.ref (sZ 7 0), .long rz362, .long xz344]) rfl ?_
                    refine va_get (D := (dC, dI)) (ci := 7) (v := .ref (sZ 7 1)) (C := RX7) (T := TX7) (N := 9) hx hb hts (fun w h => List.mem_cons_of_mem _ (List.mem_append_right _ (List.mem_append_right _ (List.mem_append_right _ (List.mem_append_right _ (List.mem_append_right _ (List.mem_append_right _ (List.mem_append_right _ (List.mem_append_left _ h))))))))) hown hK hP 80 rfl rfl 0 (by decide) (hts (.fieldLink RX11 194 "SagMemory$State" "memories" "[LSagMemory$Memory;") (wl_mem 19 rfl)) (fun _ h9 => h9) rfl dX11_mean_74 ?_
                    refine lv_iload_n hx hb dX11_mean_77 rfl (lv_at hl 2 rfl) ?_
                    rcases (show p1 = 0 ∨ p1 = 1 ∨ p1 = 2 by simp only [zi_eq]; show p1.toInt = 0 ∨ p1.toInt = 1 ∨ p1.toInt = 2; omega) with cz638 | cz638 | cz638
                    · skip
                      have zz639 : p1.toInt = (0 : Int) := zi_eq.mp cz638
                      refine W.eq (g2 := F0 m 78 ls [.int 0, .ref (sZ 7 1), .long rz362, .long xz344]) (by rw [cz638]) ?_
                      refine va_aldq hx hb hK hP 81 4 rfl rfl (by unfold vp_in; decide) dX11_mean_78 ?_
                      refine W.eq (g2 := F0 m 79 ls [.ref (sZ 7 2), .long rz362, .long xz344]) rfl ?_
                      have hPc := hP.sub (ws' := (List.flatten [(wMem (fun i => sZ 7 (i + 2)) k (nz522 7) (az523 7))])) [82, 83, 84] rfl
                      refine vp_callSi (va_Run.run (va_runV (As := []) (rest := [.long rz362, .long xz344]) ⟨hx, hb, hml, hown, hts⟩ (c_X2_depth l dC dI k (fun i => sZ 7 (i + 2)) (nz522 7) (az523 7) (hnz522 7)) (cwV 0 hts (gk_V (wl_mem 20 rfl) (wl_mem 21 rfl) (wl_mem 22 rfl) (wl_mem 23 rfl) (fun w h => List.mem_cons_of_mem _ (List.mem_append_right _ (List.mem_append_right _ (List.mem_append_right _ (List.mem_append_right _ (List.mem_append_right _ (List.mem_append_right _ (List.mem_append_right _ (List.mem_append_right _ (List.mem_append_left _ h)))))))))) wkg_c_X2_depth) rfl rfl rfl (by decide +kernel) ⟨Nat.le_of_ble_eq_true rfl, Nat.le_of_ble_eq_true rfl⟩) ⟨fun a U g mk q => by obtain ⟨q0, qP, qK⟩ := q; exact ⟨q0, qP, va_K.moved (u := U) (U := U.calling g mk a) (Vm.Alike.refl U.vm) qK⟩, va_recv hK hPc (ci := 2) (q0 := 0) rfl rfl, fun U hU hW => ⟨rfl, by rw [hU]; exact hPc, va_K.moved hW.alike hK⟩⟩ rfl rfl hl.1 rfl (lv_room (Nat.le_of_ble_eq_true rfl)) dX11_mean_79 ⟨Nat.le_of_ble_eq_true rfl, Nat.le_of_ble_eq_true rfl⟩)) (fun rz641 gz640 => ?_)
                      clear hPc
                      refine lv_i2l hx hb dX11_mean_82 rfl ?_
                      refine lv_lmul hx hb dX11_mean_83 ?_
                      refine lv_topl (fun xz642 exz642 => ?_)
                      refine lv_ladd hx hb dX11_mean_84 ?_
                      refine lv_topl (fun xz643 exz643 => ?_)
                      refine lv_lstore_n (lv' := [(3, .long xz643), (6, .long rz362), (0, .ref (qX 0)), (1, .int p1), (2, .int p2), (5, .int xz345)]) hx hb dX11_mean_85 rfl hl (by decide) rfl (fun ls hl => ?_)
                      exact ct86_kz511 H locs ls az519 ez520 vz518 az523 nz522 vz521 xz643  hez520 hnz522 hP hD hS (lv_sub hl [2, 3, 4, 0, 5] rfl)
                    · skip
                      have zz644 : p1.toInt = (1 : Int) := zi_eq.mp cz638
                      refine W.eq (g2 := F0 m 78 ls [.int 1, .ref (sZ 7 1), .long rz362, .long xz344]) (by rw [cz638]) ?_
                      refine va_aldq hx hb hK hP 81 4 rfl rfl (by unfold vp_in; decide) dX11_mean_78 ?_
                      refine W.eq (g2 := F0 m 79 ls [.ref (sZ 7 5), .long rz362, .long xz344]) rfl ?_
                      have hPc := hP.sub (ws' := (List.flatten [(wMem (fun i => sZ 7 (i + 5)) k (fun i => (nz522 7) (i + 1)) (fun i => (az523 7) (i + 2)))])) [85, 86, 87] rfl
                      refine vp_callSi (va_Run.run (va_runV (As := []) (rest := [.long rz362, .long xz344]) ⟨hx, hb, hml, hown, hts⟩ (c_X2_depth l dC dI k (fun i => sZ 7 (i + 5)) (fun i => (nz522 7) (i + 1)) (fun i => (az523 7) (i + 2)) (fun i => (hnz522 7) (i + 1))) (cwV 0 hts (gk_V (wl_mem 20 rfl) (wl_mem 21 rfl) (wl_mem 22 rfl) (wl_mem 23 rfl) (fun w h => List.mem_cons_of_mem _ (List.mem_append_right _ (List.mem_append_right _ (List.mem_append_right _ (List.mem_append_right _ (List.mem_append_right _ (List.mem_append_right _ (List.mem_append_right _ (List.mem_append_right _ (List.mem_append_left _ h)))))))))) wkg_c_X2_depth) rfl rfl rfl (by decide +kernel) ⟨Nat.le_of_ble_eq_true rfl, Nat.le_of_ble_eq_true rfl⟩) ⟨fun a U g mk q => by obtain ⟨q0, qP, qK⟩ := q; exact ⟨q0, qP, va_K.moved (u := U) (U := U.calling g mk a) (Vm.Alike.refl U.vm) qK⟩, va_recv hK hPc (ci := 2) (q0 := 0) rfl rfl, fun U hU hW => ⟨rfl, by rw [hU]; exact hPc, va_K.moved hW.alike hK⟩⟩ rfl rfl hl.1 rfl (lv_room (Nat.le_of_ble_eq_true rfl)) dX11_mean_79 ⟨Nat.le_of_ble_eq_true rfl, Nat.le_of_ble_eq_true rfl⟩)) (fun rz646 gz645 => ?_)
                      clear hPc
                      refine lv_i2l hx hb dX11_mean_82 rfl ?_
                      refine lv_lmul hx hb dX11_mean_83 ?_
                      refine lv_topl (fun xz647 exz647 => ?_)
                      refine lv_ladd hx hb dX11_mean_84 ?_
                      refine lv_topl (fun xz648 exz648 => ?_)
                      refine lv_lstore_n (lv' := [(3, .long xz648), (6, .long rz362), (0, .ref (qX 0)), (1, .int p1), (2, .int p2), (5, .int xz345)]) hx hb dX11_mean_85 rfl hl (by decide) rfl (fun ls hl => ?_)
                      exact ct86_kz511 H locs ls az519 ez520 vz518 az523 nz522 vz521 xz648  hez520 hnz522 hP hD hS (lv_sub hl [2, 3, 4, 0, 5] rfl)
                    · skip
                      have zz649 : p1.toInt = (2 : Int) := zi_eq.mp cz638
                      refine W.eq (g2 := F0 m 78 ls [.int 2, .ref (sZ 7 1), .long rz362, .long xz344]) (by rw [cz638]) ?_
                      refine va_aldq hx hb hK hP 81 4 rfl rfl (by unfold vp_in; decide) dX11_mean_78 ?_
                      refine W.eq (g2 := F0 m 79 ls [.ref (sZ 7 8), .long rz362, .long xz344]) rfl ?_
                      have hPc := hP.sub (ws' := (List.flatten [(wMem (fun i => sZ 7 (i + 8)) k (fun i => (nz522 7) (i + 2)) (fun i => (az523 7) (i + 4)))])) [88, 89, 90] rfl
                      refine vp_callSi (va_Run.run (va_runV (As := []) (rest := [.long rz362, .long xz344]) ⟨hx, hb, hml, hown, hts⟩ (c_X2_depth l dC dI k (fun i => sZ 7 (i + 8)) (fun i => (nz522 7) (i + 2)) (fun i => (az523 7) (i + 4)) (fun i => (hnz522 7) (i + 2))) (cwV 0 hts (gk_V (wl_mem 20 rfl) (wl_mem 21 rfl) (wl_mem 22 rfl) (wl_mem 23 rfl) (fun w h => List.mem_cons_of_mem _ (List.mem_append_right _ (List.mem_append_right _ (List.mem_append_right _ (List.mem_append_right _ (List.mem_append_right _ (List.mem_append_right _ (List.mem_append_right _ (List.mem_append_right _ (List.mem_append_left _ h)))))))))) wkg_c_X2_depth) rfl rfl rfl (by decide +kernel) ⟨Nat.le_of_ble_eq_true rfl, Nat.le_of_ble_eq_true rfl⟩) ⟨fun a U g mk q => by obtain ⟨q0, qP, qK⟩ := q; exact ⟨q0, qP, va_K.moved (u := U) (U := U.calling g mk a) (Vm.Alike.refl U.vm) qK⟩, va_recv hK hPc (ci := 2) (q0 := 0) rfl rfl, fun U hU hW => ⟨rfl, by rw [hU]; exact hPc, va_K.moved hW.alike hK⟩⟩ rfl rfl hl.1 rfl (lv_room (Nat.le_of_ble_eq_true rfl)) dX11_mean_79 ⟨Nat.le_of_ble_eq_true rfl, Nat.le_of_ble_eq_true rfl⟩)) (fun rz651 gz650 => ?_)
                      clear hPc
                      refine lv_i2l hx hb dX11_mean_82 rfl ?_
                      refine lv_lmul hx hb dX11_mean_83 ?_
                      refine lv_topl (fun xz652 exz652 => ?_)
                      refine lv_ladd hx hb dX11_mean_84 ?_
                      refine lv_topl (fun xz653 exz653 => ?_)
                      refine lv_lstore_n (lv' := [(3, .long xz653), (6, .long rz362), (0, .ref (qX 0)), (1, .int p1), (2, .int p2), (5, .int xz345)]) hx hb dX11_mean_85 rfl hl (by decide) rfl (fun ls hl => ?_)
                      exact ct86_kz511 H locs ls az519 ez520 vz518 az523 nz522 vz521 xz653  hez520 hnz522 hP hD hS (lv_sub hl [2, 3, 4, 0, 5] rfl)
          exact lp29_kz346 _ s.heap [] ls aP eP vP aZ nZ vZ (0 : Int64) (0 : Int32) (Nat.lt_succ_self _) heP hnZ (by show 0 ≤ (0 : Int); omega) hP hD hS (lv_sub hl [2, 3, 4, 1, 0] rfl)
        · skip
          have zz654 : ¬ p2.toInt ≤ (1 : Int) := fun h9 => cz26 (zi_le.mpr h9)
          refine lv_ldc2 (v := (-2)) hx hb hown (hts (.constantLong RX11 340 (-2)) (wl_mem 5 rfl)) dX11_mean_20 ?_
          rw [hQ]
          exact W.lret (v := (-2 : Int64)) hx hb hr (fun t ht hW => ⟨⟨(-2 : Int64), (), rfl, trivial, vP, aP, eP, vZ, nZ, aZ, heP, hnZ, by rw [ht]; exact hP⟩, hS.F ht⟩) hS.2.2 dX11_mean_23
