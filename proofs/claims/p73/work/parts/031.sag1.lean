def wk_c_X11_tryCold : List Cond := .code yX11_tryCold cX11_tryCold 2 none :: ([.fieldLink RX11 37 "SagMemory" "trial" "LSagMemory$Plan;", .fieldLink RX11 33 "SagMemory" "now" "LSagMemory$Plan;", .methodLink RX11 425 yX3_take, .instanceMethod yX3_take, .selects RX3 yX3_take yX3_take, .initialized RX3, .fieldLink RX11 162 "SagMemory$Plan" "cold" "I", .fieldLink RX11 49 "SagMemory" "attempt" "LSagMemory$Story;", .methodLink RX11 412 yX8_tell, .instanceMethod yX8_tell, .selects RX8 yX8_tell yX8_tell, .initialized RX8] ++ (wsX110 ++ (wk_c_X3_take ++ (wsX30 ++ (wk_c_X8_tell ++ [])))))
theorem wkg_c_X11_tryCold : wk_c_X11_tryCold.all goodWord = true := by decide +kernel
set_option maxHeartbeats 4000000 in
set_option maxRecDepth 100000 in
theorem c_X11_tryCold (l : Launch) (dC : Nat → ClassId) (dI : Nat → Nat → Nat) (k : Nat → ClassId) (sz : Nat) (qX : Nat → Nat) (tapeX : Nat) (actsX : Nat) (storyX : Nat) (orderSearchX : Nat) (routeSearchX : Nat) (setSearchX : Nat) (probeX : Nat) (slot0X : Nat) (slot1X : Nat) (slot2X : Nat) (slot3X : Nat) (image0X : Nat) (image1X : Nat) (image2X : Nat) (aX : Nat → Nat → Int32) (qV : Nat → Nat) (vV : Nat → Int32) (bV : Nat → Int32) (cV : Nat → Int32) (wV : Nat → Int32) (aV : Nat → Nat → Int32) (eV : Nat → Nat → Int32) (qN : Nat → Nat) (vN : Nat → Int32) (aN : Nat → Nat → Int32) (eN : Nat → Nat → Int32) (qP : Nat → Nat) (vP : Nat → Int32) (aP : Nat → Nat → Int32) (eP : Nat → Nat → Int32) (qZ : Nat → Nat) (sZ : Nat → Nat → Nat) (vZ : Nat → Nat → Int32) (nZ : Nat → Nat → Int32) (aZ : Nat → Nat → Nat → Int32) (p1 : Int32) (hbV : Rg 0 3 bV) (hcV : Rg 0 7 cV) (hwV : Rg 0 5 wV) (heV : RgA 0 99 eV) (heN : RgA 0 99 eN) (heP : RgA 0 99 eP) (hnZ : ∀ t9, Rg 0 8 (nZ t9)) : Met l yX11_tryCold wk_c_X11_tryCold ({ frames := 4, cells := 0, slots := 0, locals := 152 }) (va_Pc [.ref (qX 0), .int p1] (fun U => U.heap.size = sz ∧ va_P (dC, dI) vwCl (List.flatten [(wPlan qP k vP aP eP), (wState (sZ 0) k (vZ 0) (nZ 0) (aZ 0)), (wState (sZ 1) k (vZ 1) (nZ 1) (aZ 1)), (wState (sZ 2) k (vZ 2) (nZ 2) (aZ 2)), (wState (sZ 3) k (vZ 3) (nZ 3) (aZ 3)), (wState (sZ 4) k (vZ 4) (nZ 4) (aZ 4)), (wState (sZ 5) k (vZ 5) (nZ 5) (aZ 5)), (wState (sZ 6) k (vZ 6) (nZ 6) (aZ 6)), (wState (sZ 7) k (vZ 7) (nZ 7) (aZ 7))] ++ List.flatten [(wSag qX k tapeX (qV 0) actsX (qN 0) (qP 0) storyX (qZ 0) orderSearchX routeSearchX setSearchX probeX slot0X slot1X slot2X slot3X image0X image1X image2X aX), (wValley qV k vV bV cV wV aV eV), (wPlan qN k vN aN eN), (wStoO qZ k (qV 0) (qP 0) (sZ 0 0) (sZ 1 0) (sZ 2 0) (sZ 3 0) (sZ 4 0) (sZ 5 0) (sZ 6 0) (sZ 7 0))]) U.heap ∧ va_K (dC, dI) vwCl (tK k) U ∧ va_D (fun _ => True) (List.flatten [(wPlan qP k vP aP eP), (wState (sZ 0) k (vZ 0) (nZ 0) (aZ 0)), (wState (sZ 1) k (vZ 1) (nZ 1) (aZ 1)), (wState (sZ 2) k (vZ 2) (nZ 2) (aZ 2)), (wState (sZ 3) k (vZ 3) (nZ 3) (aZ 3)), (wState (sZ 4) k (vZ 4) (nZ 4) (aZ 4)), (wState (sZ 5) k (vZ 5) (nZ 5) (aZ 5)), (wState (sZ 6) k (vZ 6) (nZ 6) (aZ 6)), (wState (sZ 7) k (vZ 7) (nZ 7) (aZ 7))] ++ List.flatten [(wSag qX k tapeX (qV 0) actsX (qN 0) (qP 0) storyX (qZ 0) orderSearchX routeSearchX setSearchX probeX slot0X slot1X slot2X slot3X image0X image1X image2X aX), (wValley qV k vV bV cV wV aV eV), (wPlan qN k vN aN eN), (wStoO qZ k (qV 0) (qP 0) (sZ 0 0) (sZ 1 0) (sZ 2 0) (sZ 3 0) (sZ 4 0) (sZ 5 0) (sZ 6 0) (sZ 7 0))]))) (va_Qv (fun _ : Unit => True) (fun (_ : Unit) (t : State) => ∃ (vP' : Nat → Int32) (aP' : Nat → Nat → Int32) (eP' : Nat → Nat → Int32) (vZ' : Nat → Nat → Int32) (nZ' : Nat → Nat → Int32) (aZ' : Nat → Nat → Nat → Int32), RgA 0 99 eP' ∧ (∀ t9, Rg 0 8 (nZ' t9)) ∧ va_P (dC, dI) vwCl (List.flatten [(wPlan qP k vP' aP' eP'), (wState (sZ 0) k (vZ' 0) (nZ' 0) (aZ' 0)), (wState (sZ 1) k (vZ' 1) (nZ' 1) (aZ' 1)), (wState (sZ 2) k (vZ' 2) (nZ' 2) (aZ' 2)), (wState (sZ 3) k (vZ' 3) (nZ' 3) (aZ' 3)), (wState (sZ 4) k (vZ' 4) (nZ' 4) (aZ' 4)), (wState (sZ 5) k (vZ' 5) (nZ' 5) (aZ' 5)), (wState (sZ 6) k (vZ' 6) (nZ' 6) (aZ' 6)), (wState (sZ 7) k (vZ' 7) (nZ' 7) (aZ' 7))] ++ List.flatten [(wSag qX k tapeX (qV 0) actsX (qN 0) (qP 0) storyX (qZ 0) orderSearchX routeSearchX setSearchX probeX slot0X slot1X slot2X slot3X image0X image1X image2X aX), (wValley qV k vV bV cV wV aV eV), (wPlan qN k vN aN eN), (wStoO qZ k (qV 0) (qP 0) (sZ 0 0) (sZ 1 0) (sZ 2 0) (sZ 3 0) (sZ 4 0) (sZ 5 0) (sZ 6 0) (sZ 7 0))]) t.heap) (va_A (List.flatten [(wPlan qP k vP aP eP), (wState (sZ 0) k (vZ 0) (nZ 0) (aZ 0)), (wState (sZ 1) k (vZ 1) (nZ 1) (aZ 1)), (wState (sZ 2) k (vZ 2) (nZ 2) (aZ 2)), (wState (sZ 3) k (vZ 3) (nZ 3) (aZ 3)), (wState (sZ 4) k (vZ 4) (nZ 4) (aZ 4)), (wState (sZ 5) k (vZ 5) (nZ 5) (aZ 5)), (wState (sZ 6) k (vZ 6) (nZ 6) (aZ 6)), (wState (sZ 7) k (vZ 7) (nZ 7) (aZ 7))] ++ List.flatten [(wSag qX k tapeX (qV 0) actsX (qN 0) (qP 0) storyX (qZ 0) orderSearchX routeSearchX setSearchX probeX slot0X slot1X slot2X slot3X image0X image1X image2X aX), (wValley qV k vV bV cV wV aV eV), (wPlan qN k vN aN eN), (wStoO qZ k (qV 0) (qP 0) (sZ 0 0) (sZ 1 0) (sZ 2 0) (sZ 3 0) (sZ 4 0) (sZ 5 0) (sZ 6 0) (sZ 7 0))]) sz)) 0 0 (va_A (List.flatten [(wPlan qP k vP aP eP), (wState (sZ 0) k (vZ 0) (nZ 0) (aZ 0)), (wState (sZ 1) k (vZ 1) (nZ 1) (aZ 1)), (wState (sZ 2) k (vZ 2) (nZ 2) (aZ 2)), (wState (sZ 3) k (vZ 3) (nZ 3) (aZ 3)), (wState (sZ 4) k (vZ 4) (nZ 4) (aZ 4)), (wState (sZ 5) k (vZ 5) (nZ 5) (aZ 5)), (wState (sZ 6) k (vZ 6) (nZ 6) (aZ 6)), (wState (sZ 7) k (vZ 7) (nZ 7) (aZ 7))] ++ List.flatten [(wSag qX k tapeX (qV 0) actsX (qN 0) (qP 0) storyX (qZ 0) orderSearchX routeSearchX setSearchX probeX slot0X slot1X slot2X slot3X image0X image1X image2X aX), (wValley qV k vV bV cV wV aV eV), (wPlan qN k vN aN eN), (wStoO qZ k (qV 0) (qP 0) (sZ 0 0) (sZ 1 0) (sZ 2 0) (sZ 3 0) (sZ 4 0) (sZ 5 0) (sZ 6 0) (sZ 7 0))]) sz) := by
  refine Met.ofW (cc := cX11_tryCold) (maxL := 2) (ret := none) (by decide) rfl ?_
  intro p e s m args below meth c s₁ B hml hv
  obtain ⟨rfl, hsz, hP, hK, hD0⟩ := hv
  have hx := B.exec
  have hb := B.bytes
  have hr := B.returns
  have hts := atoms_spec (ws := wk_c_X11_tryCold) B.pre
  have hown : s.vm.findClass RX11 = some m.cls := findClass_of_methodNamed B.named
  have hlocks := B.notSynchronized
  subst hsz
  have hD := hD0.self (sz := s.heap.size)
  generalize hAe : va_A (List.flatten [(wPlan qP k vP aP eP), (wState (sZ 0) k (vZ 0) (nZ 0) (aZ 0)), (wState (sZ 1) k (vZ 1) (nZ 1) (aZ 1)), (wState (sZ 2) k (vZ 2) (nZ 2) (aZ 2)), (wState (sZ 3) k (vZ 3) (nZ 3) (aZ 3)), (wState (sZ 4) k (vZ 4) (nZ 4) (aZ 4)), (wState (sZ 5) k (vZ 5) (nZ 5) (aZ 5)), (wState (sZ 6) k (vZ 6) (nZ 6) (aZ 6)), (wState (sZ 7) k (vZ 7) (nZ 7) (aZ 7))] ++ List.flatten [(wSag qX k tapeX (qV 0) actsX (qN 0) (qP 0) storyX (qZ 0) orderSearchX routeSearchX setSearchX probeX slot0X slot1X slot2X slot3X image0X image1X image2X aX), (wValley qV k vV bV cV wV aV eV), (wPlan qN k vN aN eN), (wStoO qZ k (qV 0) (qP 0) (sZ 0 0) (sZ 1 0) (sZ 2 0) (sZ 3 0) (sZ 4 0) (sZ 5 0) (sZ 6 0) (sZ 7 0))]) s.heap.size = A at hD ⊢
  have hA : ∀ q : Nat, s.heap.size ≤ q → A q := fun q h => by rw [← hAe]; exact Or.inr h
  have hS : va_S A s.heap s.heap [] := va_S.rf
  have hP : va_P (dC, dI) vwCl (List.flatten [(wPlan qP k vP aP eP), (wState (sZ 0) k (vZ 0) (nZ 0) (aZ 0)), (wState (sZ 1) k (vZ 1) (nZ 1) (aZ 1)), (wState (sZ 2) k (vZ 2) (nZ 2) (aZ 2)), (wState (sZ 3) k (vZ 3) (nZ 3) (aZ 3)), (wState (sZ 4) k (vZ 4) (nZ 4) (aZ 4)), (wState (sZ 5) k (vZ 5) (nZ 5) (aZ 5)), (wState (sZ 6) k (vZ 6) (nZ 6) (aZ 6)), (wState (sZ 7) k (vZ 7) (nZ 7) (aZ 7))] ++ List.flatten [(wSag qX k tapeX (qV 0) actsX (qN 0) (qP 0) storyX (qZ 0) orderSearchX routeSearchX setSearchX probeX slot0X slot1X slot2X slot3X image0X image1X image2X aX), (wValley qV k vV bV cV wV aV eV), (wPlan qN k vN aN eN), (wStoO qZ k (qV 0) (qP 0) (sZ 0 0) (sZ 1 0) (sZ 2 0) (sZ 3 0) (sZ 4 0) (sZ 5 0) (sZ 6 0) (sZ 7 0))]) s.heap := hP
  have hl := lv_entry ([.ref (qX 0), .int p1]) (n := 2) (Nat.le_of_ble_eq_true rfl)
  rw [lg_entry_eq]
  generalize (lg_sl ([.ref (qX 0), .int p1]) ++ List.replicate (2 - (lg_sl ([.ref (qX 0), .int p1])).length) Slot.unset).toArray = ls at hl ⊢
  have hl : lv_has ls 2 [(0, .ref (qX 0)), (1, .int p1)] := hl
  refine w_gen (fun Q hQ => ?_)
  refine lv_aload_n hx hb dX11_tryCold_0 rfl (lv_at hl 0 rfl) ?_
  refine va_get (D := (dC, dI)) (ci := 11) (v := .ref (qP 0)) (C := RX11) (T := TX11) (N := 15) hx hb hts (fun w h => List.mem_cons_of_mem _ (List.mem_append_right _ (List.mem_append_left _ h))) hown hK hP 91 rfl rfl 4 (by decide) (hts (.fieldLink RX11 37 "SagMemory" "trial" "LSagMemory$Plan;") (wl_mem 0 rfl)) (fun _ h9 => h9) rfl dX11_tryCold_1 ?_
  refine lv_aload_n hx hb dX11_tryCold_4 rfl (lv_at hl 0 rfl) ?_
  refine va_get (D := (dC, dI)) (ci := 11) (v := .ref (qN 0)) (C := RX11) (T := TX11) (N := 15) hx hb hts (fun w h => List.mem_cons_of_mem _ (List.mem_append_right _ (List.mem_append_left _ h))) hown hK hP 91 rfl rfl 3 (by decide) (hts (.fieldLink RX11 33 "SagMemory" "now" "LSagMemory$Plan;") (wl_mem 1 rfl)) (fun _ h9 => h9) rfl dX11_tryCold_5 ?_
  have hPc := hP.sub (ws' := (List.flatten [(wPlan qP k vP aP eP)] ++ List.flatten [(wPlan qN k vN aN eN)])) [0, 1, 2, 104, 105, 106] rfl
  have hC : [0, 1, 2, 104, 105, 106].map (fun i => (List.flatten [(wPlan qP k vP aP eP), (wState (sZ 0) k (vZ 0) (nZ 0) (aZ 0)), (wState (sZ 1) k (vZ 1) (nZ 1) (aZ 1)), (wState (sZ 2) k (vZ 2) (nZ 2) (aZ 2)), (wState (sZ 3) k (vZ 3) (nZ 3) (aZ 3)), (wState (sZ 4) k (vZ 4) (nZ 4) (aZ 4)), (wState (sZ 5) k (vZ 5) (nZ 5) (aZ 5)), (wState (sZ 6) k (vZ 6) (nZ 6) (aZ 6)), (wState (sZ 7) k (vZ 7) (nZ 7) (aZ 7))] ++ List.flatten [(wSag qX k tapeX (qV 0) actsX (qN 0) (qP 0) storyX (qZ 0) orderSearchX routeSearchX setSearchX probeX slot0X slot1X slot2X slot3X image0X image1X image2X aX), (wValley qV k vV bV cV wV aV eV), (wPlan qN k vN aN eN), (wStoO qZ k (qV 0) (qP 0) (sZ 0 0) (sZ 1 0) (sZ 2 0) (sZ 3 0) (sZ 4 0) (sZ 5 0) (sZ 6 0) (sZ 7 0))])[i]?) = (List.flatten [(wPlan qP k vP aP eP)] ++ List.flatten [(wPlan qN k vN aN eN)]).map some := rfl
  have hDc := hD.sub [0, 1, 2, 104, 105, 106] (by decide) hC
  have hFc := va_free hD hS hA [0, 1, 2, 104, 105, 106] hC
  refine va_callv (va_runV (As := [.ref (qN 0)]) (rest := []) ⟨hx, hb, hml, hown, hts⟩ (c_X3_take l dC dI k s.heap.size qP vP aP eP qN vN aN eN heP heN) (cwV 1 hts (gk_V (wl_mem 2 rfl) (wl_mem 3 rfl) (wl_mem 4 rfl) (wl_mem 5 rfl) (fun w h => List.mem_cons_of_mem _ (List.mem_append_right _ (List.mem_append_right _ (List.mem_append_left _ h)))) wkg_c_X3_take) rfl rfl rfl (by decide +kernel) ⟨Nat.le_of_ble_eq_true rfl, Nat.le_of_ble_eq_true rfl⟩) ⟨fun a U g mk q => by obtain ⟨q0, q1, qP, qK, qD⟩ := q; exact ⟨q0, q1, qP, va_K.moved (u := U) (U := U.calling g mk a) (Vm.Alike.refl U.vm) qK, qD⟩, va_recv hK hPc (ci := 3) (q0 := 0) rfl rfl, fun U hU hW => ⟨rfl, by rw [hU], by rw [hU]; exact hPc, va_K.moved hW.alike hK, hDc.weaken (fun _ _ _ _ => trivial)⟩⟩ rfl rfl hl.1 rfl (lv_room (Nat.le_of_ble_eq_true rfl)) dX11_tryCold_8 ⟨Nat.le_of_ble_eq_true rfl, Nat.le_of_ble_eq_true rfl⟩) hS (fun q _ h => hFc q h) hFc (fun u t H1 locs ht hvm gz1 hB hz1 hk1 hS => ?_)
  obtain ⟨vz3, az4, ez5, hez5, hP1⟩ := hB
  rw [ht] at hP1
  obtain ⟨hP, hD⟩ := w_callR hP hD hk1 hP1 [0] rfl rfl (wk_memC [11] rfl) rfl [some 0, none, none, none, none, none, none, none, none] rfl rfl
  clear hPc hC hDc hFc hk1 hP1
  generalize H1 = H at hP hS ⊢
  have hP : va_P (dC, dI) vwCl (List.flatten [(wPlan qP k vz3 az4 ez5), (wState (sZ 0) k (vZ 0) (nZ 0) (aZ 0)), (wState (sZ 1) k (vZ 1) (nZ 1) (aZ 1)), (wState (sZ 2) k (vZ 2) (nZ 2) (aZ 2)), (wState (sZ 3) k (vZ 3) (nZ 3) (aZ 3)), (wState (sZ 4) k (vZ 4) (nZ 4) (aZ 4)), (wState (sZ 5) k (vZ 5) (nZ 5) (aZ 5)), (wState (sZ 6) k (vZ 6) (nZ 6) (aZ 6)), (wState (sZ 7) k (vZ 7) (nZ 7) (aZ 7))] ++ List.flatten [(wSag qX k tapeX (qV 0) actsX (qN 0) (qP 0) storyX (qZ 0) orderSearchX routeSearchX setSearchX probeX slot0X slot1X slot2X slot3X image0X image1X image2X aX), (wValley qV k vV bV cV wV aV eV), (wPlan qN k vN aN eN), (wStoO qZ k (qV 0) (qP 0) (sZ 0 0) (sZ 1 0) (sZ 2 0) (sZ 3 0) (sZ 4 0) (sZ 5 0) (sZ 6 0) (sZ 7 0))]) H := hP
  have hD : va_D A (List.flatten [(wPlan qP k vz3 az4 ez5), (wState (sZ 0) k (vZ 0) (nZ 0) (aZ 0)), (wState (sZ 1) k (vZ 1) (nZ 1) (aZ 1)), (wState (sZ 2) k (vZ 2) (nZ 2) (aZ 2)), (wState (sZ 3) k (vZ 3) (nZ 3) (aZ 3)), (wState (sZ 4) k (vZ 4) (nZ 4) (aZ 4)), (wState (sZ 5) k (vZ 5) (nZ 5) (aZ 5)), (wState (sZ 6) k (vZ 6) (nZ 6) (aZ 6)), (wState (sZ 7) k (vZ 7) (nZ 7) (aZ 7))] ++ List.flatten [(wSag qX k tapeX (qV 0) actsX (qN 0) (qP 0) storyX (qZ 0) orderSearchX routeSearchX setSearchX probeX slot0X slot1X slot2X slot3X image0X image1X image2X aX), (wValley qV k vV bV cV wV aV eV), (wPlan qN k vN aN eN), (wStoO qZ k (qV 0) (qP 0) (sZ 0 0) (sZ 1 0) (sZ 2 0) (sZ 3 0) (sZ 4 0) (sZ 5 0) (sZ 6 0) (sZ 7 0))]) := hD
  refine W.widen (k := 0) (n := 0) (Nat.le_refl 0) (Nat.le_refl 0) ?_
  refine lv_aload_n hx hb dX11_tryCold_11 rfl (lv_at hl 0 rfl) ?_
  refine va_get (D := (dC, dI)) (ci := 11) (v := .ref (qP 0)) (C := RX11) (T := TX11) (N := 15) hx hb hts (fun w h => List.mem_cons_of_mem _ (List.mem_append_right _ (List.mem_append_left _ h))) hown hK hP 91 rfl rfl 4 (by decide) (hts (.fieldLink RX11 37 "SagMemory" "trial" "LSagMemory$Plan;") (wl_mem 0 rfl)) (fun _ h9 => h9) rfl dX11_tryCold_12 ?_
  refine lv_iload_n hx hb dX11_tryCold_15 rfl (lv_at hl 1 rfl) ?_
  refine va_put (D := (dC, dI)) (ci := 3) (v := .int p1) (ty := .int) (C := RX3) (T := TX3) (N := 4) hx hb hts (fun w h => List.mem_cons_of_mem _ (List.mem_append_right _ (List.mem_append_right _ (List.mem_append_right _ (List.mem_append_left _ h))))) tyX3 tyX3_ok nmX3 hown hK hP hD hS 0 rfl rfl 3 (by decide) (hts (.fieldLink RX11 162 "SagMemory$Plan" "cold" "I") (wl_mem 6 rfl)) (fun _ h9 => h9) rfl (by decide +kernel) rfl rfl (Nat.le_of_ble_eq_true rfl) dX11_tryCold_16 (fun H locs hP hD hS => ?_)
  have hP : va_P (dC, dI) vwCl (List.flatten [(wPlan qP k (va_up vz3 1 p1) az4 ez5), (wState (sZ 0) k (vZ 0) (nZ 0) (aZ 0)), (wState (sZ 1) k (vZ 1) (nZ 1) (aZ 1)), (wState (sZ 2) k (vZ 2) (nZ 2) (aZ 2)), (wState (sZ 3) k (vZ 3) (nZ 3) (aZ 3)), (wState (sZ 4) k (vZ 4) (nZ 4) (aZ 4)), (wState (sZ 5) k (vZ 5) (nZ 5) (aZ 5)), (wState (sZ 6) k (vZ 6) (nZ 6) (aZ 6)), (wState (sZ 7) k (vZ 7) (nZ 7) (aZ 7))] ++ List.flatten [(wSag qX k tapeX (qV 0) actsX (qN 0) (qP 0) storyX (qZ 0) orderSearchX routeSearchX setSearchX probeX slot0X slot1X slot2X slot3X image0X image1X image2X aX), (wValley qV k vV bV cV wV aV eV), (wPlan qN k vN aN eN), (wStoO qZ k (qV 0) (qP 0) (sZ 0 0) (sZ 1 0) (sZ 2 0) (sZ 3 0) (sZ 4 0) (sZ 5 0) (sZ 6 0) (sZ 7 0))]) H := hP
  have hD : va_D A (List.flatten [(wPlan qP k (va_up vz3 1 p1) az4 ez5), (wState (sZ 0) k (vZ 0) (nZ 0) (aZ 0)), (wState (sZ 1) k (vZ 1) (nZ 1) (aZ 1)), (wState (sZ 2) k (vZ 2) (nZ 2) (aZ 2)), (wState (sZ 3) k (vZ 3) (nZ 3) (aZ 3)), (wState (sZ 4) k (vZ 4) (nZ 4) (aZ 4)), (wState (sZ 5) k (vZ 5) (nZ 5) (aZ 5)), (wState (sZ 6) k (vZ 6) (nZ 6) (aZ 6)), (wState (sZ 7) k (vZ 7) (nZ 7) (aZ 7))] ++ List.flatten [(wSag qX k tapeX (qV 0) actsX (qN 0) (qP 0) storyX (qZ 0) orderSearchX routeSearchX setSearchX probeX slot0X slot1X slot2X slot3X image0X image1X image2X aX), (wValley qV k vV bV cV wV aV eV), (wPlan qN k vN aN eN), (wStoO qZ k (qV 0) (qP 0) (sZ 0 0) (sZ 1 0) (sZ 2 0) (sZ 3 0) (sZ 4 0) (sZ 5 0) (sZ 6 0) (sZ 7 0))]) := hD
  refine lv_aload_n hx hb dX11_tryCold_19 rfl (lv_at hl 0 rfl) ?_
  refine va_get (D := (dC, dI)) (ci := 11) (v := .ref (qZ 0)) (C := RX11) (T := TX11) (N := 15) hx hb hts (fun w h => List.mem_cons_of_mem _ (List.mem_append_right _ (List.mem_append_left _ h))) hown hK hP 91 rfl rfl 6 (by decide) (hts (.fieldLink RX11 49 "SagMemory" "attempt" "LSagMemory$Story;") (wl_mem 7 rfl)) (fun _ h9 => h9) rfl dX11_tryCold_20 ?_
  have hPc : va_P (dC, dI) vwCl (List.flatten [(wState (sZ 0) k (vZ 0) (nZ 0) (aZ 0)), (wState (sZ 1) k (vZ 1) (nZ 1) (aZ 1)), (wState (sZ 2) k (vZ 2) (nZ 2) (aZ 2)), (wState (sZ 3) k (vZ 3) (nZ 3) (aZ 3)), (wState (sZ 4) k (vZ 4) (nZ 4) (aZ 4)), (wState (sZ 5) k (vZ 5) (nZ 5) (aZ 5)), (wState (sZ 6) k (vZ 6) (nZ 6) (aZ 6)), (wState (sZ 7) k (vZ 7) (nZ 7) (aZ 7))] ++ List.flatten [(wStoO qZ k (qV 0) (qP 0) (sZ 0 0) (sZ 1 0) (sZ 2 0) (sZ 3 0) (sZ 4 0) (sZ 5 0) (sZ 6 0) (sZ 7 0)), (wValley qV k vV bV cV wV aV eV), (wPlan qP k (va_up vz3 1 p1) az4 ez5)]) H := wc_subP hP [1, 2, 3, 4, 5, 6, 7, 8, 12, 10, 0] rfl
  have hDc : va_D A (List.flatten [(wState (sZ 0) k (vZ 0) (nZ 0) (aZ 0)), (wState (sZ 1) k (vZ 1) (nZ 1) (aZ 1)), (wState (sZ 2) k (vZ 2) (nZ 2) (aZ 2)), (wState (sZ 3) k (vZ 3) (nZ 3) (aZ 3)), (wState (sZ 4) k (vZ 4) (nZ 4) (aZ 4)), (wState (sZ 5) k (vZ 5) (nZ 5) (aZ 5)), (wState (sZ 6) k (vZ 6) (nZ 6) (aZ 6)), (wState (sZ 7) k (vZ 7) (nZ 7) (aZ 7))] ++ List.flatten [(wStoO qZ k (qV 0) (qP 0) (sZ 0 0) (sZ 1 0) (sZ 2 0) (sZ 3 0) (sZ 4 0) (sZ 5 0) (sZ 6 0) (sZ 7 0)), (wValley qV k vV bV cV wV aV eV), (wPlan qP k (va_up vz3 1 p1) az4 ez5)]) := wc_subD hD [1, 2, 3, 4, 5, 6, 7, 8, 12, 10, 0] rfl rfl
  have hFc := wc_free hDc hS hA
  refine va_callv (va_runV (As := []) (rest := []) ⟨hx, hb, hml, hown, hts⟩ (c_X8_tell l dC dI k H.size qZ sZ vZ nZ aZ qV vV bV cV wV aV eV qP (va_up vz3 1 p1) az4 ez5 hnZ hbV hcV hwV heV hez5) (cwV 0 hts (gk_V (wl_mem 8 rfl) (wl_mem 9 rfl) (wl_mem 10 rfl) (wl_mem 11 rfl) (fun w h => List.mem_cons_of_mem _ (List.mem_append_right _ (List.mem_append_right _ (List.mem_append_right _ (List.mem_append_right _ (List.mem_append_left _ h)))))) wkg_c_X8_tell) rfl rfl rfl (by decide +kernel) ⟨Nat.le_of_ble_eq_true rfl, Nat.le_of_ble_eq_true rfl⟩) ⟨fun a U g mk q => by obtain ⟨q0, q1, qP, qK, qD⟩ := q; exact ⟨q0, q1, qP, va_K.moved (u := U) (U := U.calling g mk a) (Vm.Alike.refl U.vm) qK, qD⟩, va_recv hK hPc (ci := 8) (q0 := 88) rfl rfl, fun U hU hW => ⟨rfl, by rw [hU], by rw [hU]; exact hPc, va_K.moved hW.alike hK, hDc.weaken (fun _ _ _ _ => trivial)⟩⟩ rfl rfl hl.1 rfl (lv_room (Nat.le_of_ble_eq_true rfl)) dX11_tryCold_23 ⟨Nat.le_of_ble_eq_true rfl, Nat.le_of_ble_eq_true rfl⟩) hS (fun q _ h => hFc q h) hFc (fun u t H1 locs ht hvm gz6 hB hz1 hk1 hS => ?_)
  obtain ⟨vz8, nz9, az10, hnz9, hP1⟩ := hB
  rw [ht] at hP1
  obtain ⟨hP, hD⟩ := w_callR hP hD hk1 hP1 [1, 2, 3, 4, 5, 6, 7, 8] rfl rfl (wk_memC [12, 10, 0] rfl) rfl [none, some 0, some 1, some 2, some 3, some 4, some 5, some 6, some 7] rfl rfl
  clear hPc hDc hFc hk1 hP1
  generalize H1 = H at hP hS ⊢
  have hP : va_P (dC, dI) vwCl (List.flatten [(wPlan qP k (va_up vz3 1 p1) az4 ez5), (wState (sZ 0) k (vz8 0) (nz9 0) (az10 0)), (wState (sZ 1) k (vz8 1) (nz9 1) (az10 1)), (wState (sZ 2) k (vz8 2) (nz9 2) (az10 2)), (wState (sZ 3) k (vz8 3) (nz9 3) (az10 3)), (wState (sZ 4) k (vz8 4) (nz9 4) (az10 4)), (wState (sZ 5) k (vz8 5) (nz9 5) (az10 5)), (wState (sZ 6) k (vz8 6) (nz9 6) (az10 6)), (wState (sZ 7) k (vz8 7) (nz9 7) (az10 7))] ++ List.flatten [(wSag qX k tapeX (qV 0) actsX (qN 0) (qP 0) storyX (qZ 0) orderSearchX routeSearchX setSearchX probeX slot0X slot1X slot2X slot3X image0X image1X image2X aX), (wValley qV k vV bV cV wV aV eV), (wPlan qN k vN aN eN), (wStoO qZ k (qV 0) (qP 0) (sZ 0 0) (sZ 1 0) (sZ 2 0) (sZ 3 0) (sZ 4 0) (sZ 5 0) (sZ 6 0) (sZ 7 0))]) H := hP
  have hD : va_D A (List.flatten [(wPlan qP k (va_up vz3 1 p1) az4 ez5), (wState (sZ 0) k (vz8 0) (nz9 0) (az10 0)), (wState (sZ 1) k (vz8 1) (nz9 1) (az10 1)), (wState (sZ 2) k (vz8 2) (nz9 2) (az10 2)), (wState (sZ 3) k (vz8 3) (nz9 3) (az10 3)), (wState (sZ 4) k (vz8 4) (nz9 4) (az10 4)), (wState (sZ 5) k (vz8 5) (nz9 5) (az10 5)), (wState (sZ 6) k (vz8 6) (nz9 6) (az10 6)), (wState (sZ 7) k (vz8 7) (nz9 7) (az10 7))] ++ List.flatten [(wSag qX k tapeX (qV 0) actsX (qN 0) (qP 0) storyX (qZ 0) orderSearchX routeSearchX setSearchX probeX slot0X slot1X slot2X slot3X image0X image1X image2X aX), (wValley qV k vV bV cV wV aV eV), (wPlan qN k vN aN eN), (wStoO qZ k (qV 0) (qP 0) (sZ 0 0) (sZ 1 0) (sZ 2 0) (sZ 3 0) (sZ 4 0) (sZ 5 0) (sZ 6 0) (sZ 7 0))]) := hD
  refine W.widen (k := 0) (n := 0) (Nat.le_refl 0) (Nat.le_refl 0) ?_
  rw [hQ]
  exact W.vret hx hb hr (fun t ht hW => ⟨⟨(), rfl, trivial, (va_up vz3 1 p1), az4, ez5, vz8, nz9, az10, hez5, hnz9, by rw [ht]; exact hP⟩, hS.F ht⟩) hS.2.2 dX11_tryCold_26
def wk_c_X11_sagInCold : List Cond := .code yX11_sagInCold cX11_sagInCold 2 (some .int) :: ([.methodLink RX11 342 yX11_tryCold, .instanceMethod yX11_tryCold, .selects RX11 yX11_tryCold yX11_tryCold, .initialized RX11, .fieldLink RX11 49 "SagMemory" "attempt" "LSagMemory$Story;", .methodLink RX11 183 yX8_atEnd, .instanceMethod yX8_atEnd, .selects RX8 yX8_atEnd yX8_atEnd, .initialized RX8, .methodLink RX11 209 yX7_together, .instanceMethod yX7_together, .selects RX7 yX7_together yX7_together, .initialized RX7] ++ (wk_c_X11_tryCold ++ (wsX110 ++ (wk_c_X8_atEnd ++ (wk_c_X7_together ++ [])))))
theorem wkg_c_X11_sagInCold : wk_c_X11_sagInCold.all goodWord = true := by decide +kernel
set_option maxHeartbeats 4000000 in
set_option maxRecDepth 100000 in
theorem c_X11_sagInCold (l : Launch) (dC : Nat → ClassId) (dI : Nat → Nat → Nat) (k : Nat → ClassId) (sz : Nat) (qX : Nat → Nat) (tapeX : Nat) (actsX : Nat) (storyX : Nat) (orderSearchX : Nat) (routeSearchX : Nat) (setSearchX : Nat) (probeX : Nat) (slot0X : Nat) (slot1X : Nat) (slot2X : Nat) (slot3X : Nat) (image0X : Nat) (image1X : Nat) (image2X : Nat) (aX : Nat → Nat → Int32) (qV : Nat → Nat) (vV : Nat → Int32) (bV : Nat → Int32) (cV : Nat → Int32) (wV : Nat → Int32) (aV : Nat → Nat → Int32) (eV : Nat → Nat → Int32) (qN : Nat → Nat) (vN : Nat → Int32) (aN : Nat → Nat → Int32) (eN : Nat → Nat → Int32) (qP : Nat → Nat) (vP : Nat → Int32) (aP : Nat → Nat → Int32) (eP : Nat → Nat → Int32) (qZ : Nat → Nat) (sZ : Nat → Nat → Nat) (vZ : Nat → Nat → Int32) (nZ : Nat → Nat → Int32) (aZ : Nat → Nat → Nat → Int32) (p1 : Int32) (hbV : Rg 0 3 bV) (hcV : Rg 0 7 cV) (hwV : Rg 0 5 wV) (heV : RgA 0 99 eV) (heN : RgA 0 99 eN) (heP : RgA 0 99 eP) (hnZ : ∀ t9, Rg 0 8 (nZ t9)) : Met l yX11_sagInCold wk_c_X11_sagInCold ({ frames := 5, cells := 0, slots := 0, locals := 173 }) (va_Pc [.ref (qX 0), .int p1] (fun U => U.heap.size = sz ∧ va_P (dC, dI) vwCl (List.flatten [(wPlan qP k vP aP eP), (wState (sZ 0) k (vZ 0) (nZ 0) (aZ 0)), (wState (sZ 1) k (vZ 1) (nZ 1) (aZ 1)), (wState (sZ 2) k (vZ 2) (nZ 2) (aZ 2)), (wState (sZ 3) k (vZ 3) (nZ 3) (aZ 3)), (wState (sZ 4) k (vZ 4) (nZ 4) (aZ 4)), (wState (sZ 5) k (vZ 5) (nZ 5) (aZ 5)), (wState (sZ 6) k (vZ 6) (nZ 6) (aZ 6)), (wState (sZ 7) k (vZ 7) (nZ 7) (aZ 7))] ++ List.flatten [(wSag qX k tapeX (qV 0) actsX (qN 0) (qP 0) storyX (qZ 0) orderSearchX routeSearchX setSearchX probeX slot0X slot1X slot2X slot3X image0X image1X image2X aX), (wValley qV k vV bV cV wV aV eV), (wPlan qN k vN aN eN), (wStoO qZ k (qV 0) (qP 0) (sZ 0 0) (sZ 1 0) (sZ 2 0) (sZ 3 0) (sZ 4 0) (sZ 5 0) (sZ 6 0) (sZ 7 0))]) U.heap ∧ va_K (dC, dI) vwCl (tK k) U ∧ va_D (fun _ => True) (List.flatten [(wPlan qP k vP aP eP), (wState (sZ 0) k (vZ 0) (nZ 0) (aZ 0)), (wState (sZ 1) k (vZ 1) (nZ 1) (aZ 1)), (wState (sZ 2) k (vZ 2) (nZ 2) (aZ 2)), (wState (sZ 3) k (vZ 3) (nZ 3) (aZ 3)), (wState (sZ 4) k (vZ 4) (nZ 4) (aZ 4)), (wState (sZ 5) k (vZ 5) (nZ 5) (aZ 5)), (wState (sZ 6) k (vZ 6) (nZ 6) (aZ 6)), (wState (sZ 7) k (vZ 7) (nZ 7) (aZ 7))] ++ List.flatten [(wSag qX k tapeX (qV 0) actsX (qN 0) (qP 0) storyX (qZ 0) orderSearchX routeSearchX setSearchX probeX slot0X slot1X slot2X slot3X image0X image1X image2X aX), (wValley qV k vV bV cV wV aV eV), (wPlan qN k vN aN eN), (wStoO qZ k (qV 0) (qP 0) (sZ 0 0) (sZ 1 0) (sZ 2 0) (sZ 3 0) (sZ 4 0) (sZ 5 0) (sZ 6 0) (sZ 7 0))]))) (va_Qi (fun (r : Int32) (_ : Unit) => True) (fun (_ : Unit) (t : State) => ∃ (vP' : Nat → Int32) (aP' : Nat → Nat → Int32) (eP' : Nat → Nat → Int32) (vZ' : Nat → Nat → Int32) (nZ' : Nat → Nat → Int32) (aZ' : Nat → Nat → Nat → Int32), RgA 0 99 eP' ∧ (∀ t9, Rg 0 8 (nZ' t9)) ∧ va_P (dC, dI) vwCl (List.flatten [(wPlan qP k vP' aP' eP'), (wState (sZ 0) k (vZ' 0) (nZ' 0) (aZ' 0)), (wState (sZ 1) k (vZ' 1) (nZ' 1) (aZ' 1)), (wState (sZ 2) k (vZ' 2) (nZ' 2) (aZ' 2)), (wState (sZ 3) k (vZ' 3) (nZ' 3) (aZ' 3)), (wState (sZ 4) k (vZ' 4) (nZ' 4) (aZ' 4)), (wState (sZ 5) k (vZ' 5) (nZ' 5) (aZ' 5)), (wState (sZ 6) k (vZ' 6) (nZ' 6) (aZ' 6)), (wState (sZ 7) k (vZ' 7) (nZ' 7) (aZ' 7))] ++ List.flatten [(wSag qX k tapeX (qV 0) actsX (qN 0) (qP 0) storyX (qZ 0) orderSearchX routeSearchX setSearchX probeX slot0X slot1X slot2X slot3X image0X image1X image2X aX), (wValley qV k vV bV cV wV aV eV), (wPlan qN k vN aN eN), (wStoO qZ k (qV 0) (qP 0) (sZ 0 0) (sZ 1 0) (sZ 2 0) (sZ 3 0) (sZ 4 0) (sZ 5 0) (sZ 6 0) (sZ 7 0))]) t.heap) (va_A (List.flatten [(wPlan qP k vP aP eP), (wState (sZ 0) k (vZ 0) (nZ 0) (aZ 0)), (wState (sZ 1) k (vZ 1) (nZ 1) (aZ 1)), (wState (sZ 2) k (vZ 2) (nZ 2) (aZ 2)), (wState (sZ 3) k (vZ 3) (nZ 3) (aZ 3)), (wState (sZ 4) k (vZ 4) (nZ 4) (aZ 4)), (wState (sZ 5) k (vZ 5) (nZ 5) (aZ 5)), (wState (sZ 6) k (vZ 6) (nZ 6) (aZ 6)), (wState (sZ 7) k (vZ 7) (nZ 7) (aZ 7))] ++ List.flatten [(wSag qX k tapeX (qV 0) actsX (qN 0) (qP 0) storyX (qZ 0) orderSearchX routeSearchX setSearchX probeX slot0X slot1X slot2X slot3X image0X image1X image2X aX), (wValley qV k vV bV cV wV aV eV), (wPlan qN k vN aN eN), (wStoO qZ k (qV 0) (qP 0) (sZ 0 0) (sZ 1 0) (sZ 2 0) (sZ 3 0) (sZ 4 0) (sZ 5 0) (sZ 6 0) (sZ 7 0))]) sz)) 0 0 (va_A (List.flatten [(wPlan qP k vP aP eP), (wState (sZ 0) k (vZ 0) (nZ 0) (aZ 0)), (wState (sZ 1) k (vZ 1) (nZ 1) (aZ 1)), (wState (sZ 2) k (vZ 2) (nZ 2) (aZ 2)), (wState (sZ 3) k (vZ 3) (nZ 3) (aZ 3)), (wState (sZ 4) k (vZ 4) (nZ 4) (aZ 4)), (wState (sZ 5) k (vZ 5) (nZ 5) (aZ 5)), (wState (sZ 6) k (vZ 6) (nZ 6) (aZ 6)), (wState (sZ 7) k (vZ 7) (nZ 7) (aZ 7))] ++ List.flatten [(wSag qX k tapeX (qV 0) actsX (qN 0) (qP 0) storyX (qZ 0) orderSearchX routeSearchX setSearchX probeX slot0X slot1X slot2X slot3X image0X image1X image2X aX), (wValley qV k vV bV cV wV aV eV), (wPlan qN k vN aN eN), (wStoO qZ k (qV 0) (qP 0) (sZ 0 0) (sZ 1 0) (sZ 2 0) (sZ 3 0) (sZ 4 0) (sZ 5 0) (sZ 6 0) (sZ 7 0))]) sz) := by
  refine Met.ofW (cc := cX11_sagInCold) (maxL := 2) (ret := (some .int)) (by decide) rfl ?_
  intro p e s m args below meth c s₁ B hml hv
  obtain ⟨rfl, hsz, hP, hK, hD0⟩ := hv
  have hx := B.exec
  have hb := B.bytes
  have hr := B.returns
  have hts := atoms_spec (ws := wk_c_X11_sagInCold) B.pre
  have hown : s.vm.findClass RX11 = some m.cls := findClass_of_methodNamed B.named
  have hlocks := B.notSynchronized
  subst hsz
  have hD := hD0.self (sz := s.heap.size)
  generalize hAe : va_A (List.flatten [(wPlan qP k vP aP eP), (wState (sZ 0) k (vZ 0) (nZ 0) (aZ 0)), (wState (sZ 1) k (vZ 1) (nZ 1) (aZ 1)), (wState (sZ 2) k (vZ 2) (nZ 2) (aZ 2)), (wState (sZ 3) k (vZ 3) (nZ 3) (aZ 3)), (wState (sZ 4) k (vZ 4) (nZ 4) (aZ 4)), (wState (sZ 5) k (vZ 5) (nZ 5) (aZ 5)), (wState (sZ 6) k (vZ 6) (nZ 6) (aZ 6)), (wState (sZ 7) k (vZ 7) (nZ 7) (aZ 7))] ++ List.flatten [(wSag qX k tapeX (qV 0) actsX (qN 0) (qP 0) storyX (qZ 0) orderSearchX routeSearchX setSearchX probeX slot0X slot1X slot2X slot3X image0X image1X image2X aX), (wValley qV k vV bV cV wV aV eV), (wPlan qN k vN aN eN), (wStoO qZ k (qV 0) (qP 0) (sZ 0 0) (sZ 1 0) (sZ 2 0) (sZ 3 0) (sZ 4 0) (sZ 5 0) (sZ 6 0) (sZ 7 0))]) s.heap.size = A at hD ⊢
  have hA : ∀ q : Nat, s.heap.size ≤ q → A q := fun q h => by rw [← hAe]; exact Or.inr h
  have hS : va_S A s.heap s.heap [] := va_S.rf
  have hP : va_P (dC, dI) vwCl (List.flatten [(wPlan qP k vP aP eP), (wState (sZ 0) k (vZ 0) (nZ 0) (aZ 0)), (wState (sZ 1) k (vZ 1) (nZ 1) (aZ 1)), (wState (sZ 2) k (vZ 2) (nZ 2) (aZ 2)), (wState (sZ 3) k (vZ 3) (nZ 3) (aZ 3)), (wState (sZ 4) k (vZ 4) (nZ 4) (aZ 4)), (wState (sZ 5) k (vZ 5) (nZ 5) (aZ 5)), (wState (sZ 6) k (vZ 6) (nZ 6) (aZ 6)), (wState (sZ 7) k (vZ 7) (nZ 7) (aZ 7))] ++ List.flatten [(wSag qX k tapeX (qV 0) actsX (qN 0) (qP 0) storyX (qZ 0) orderSearchX routeSearchX setSearchX probeX slot0X slot1X slot2X slot3X image0X image1X image2X aX), (wValley qV k vV bV cV wV aV eV), (wPlan qN k vN aN eN), (wStoO qZ k (qV 0) (qP 0) (sZ 0 0) (sZ 1 0) (sZ 2 0) (sZ 3 0) (sZ 4 0) (sZ 5 0) (sZ 6 0) (sZ 7 0))]) s.heap := hP
  have hl := lv_entry ([.ref (qX 0), .int p1]) (n := 2) (Nat.le_of_ble_eq_true rfl)
  rw [lg_entry_eq]
  generalize (lg_sl ([.ref (qX 0), .int p1]) ++ List.replicate (2 - (lg_sl ([.ref (qX 0), .int p1])).length) Slot.unset).toArray = ls at hl ⊢
  have hl : lv_has ls 2 [(0, .ref (qX 0)), (1, .int p1)] := hl
  refine w_gen (fun Q hQ => ?_)
  refine lv_aload_n hx hb dX11_sagInCold_0 rfl (lv_at hl 0 rfl) ?_
  refine lv_iload_n hx hb dX11_sagInCold_1 rfl (lv_at hl 1 rfl) ?_
  have hPc := hP
  have hDc : va_D A (List.flatten [(wPlan qP k vP aP eP), (wState (sZ 0) k (vZ 0) (nZ 0) (aZ 0)), (wState (sZ 1) k (vZ 1) (nZ 1) (aZ 1)), (wState (sZ 2) k (vZ 2) (nZ 2) (aZ 2)), (wState (sZ 3) k (vZ 3) (nZ 3) (aZ 3)), (wState (sZ 4) k (vZ 4) (nZ 4) (aZ 4)), (wState (sZ 5) k (vZ 5) (nZ 5) (aZ 5)), (wState (sZ 6) k (vZ 6) (nZ 6) (aZ 6)), (wState (sZ 7) k (vZ 7) (nZ 7) (aZ 7))] ++ List.flatten [(wSag qX k tapeX (qV 0) actsX (qN 0) (qP 0) storyX (qZ 0) orderSearchX routeSearchX setSearchX probeX slot0X slot1X slot2X slot3X image0X image1X image2X aX), (wValley qV k vV bV cV wV aV eV), (wPlan qN k vN aN eN), (wStoO qZ k (qV 0) (qP 0) (sZ 0 0) (sZ 1 0) (sZ 2 0) (sZ 3 0) (sZ 4 0) (sZ 5 0) (sZ 6 0) (sZ 7 0))]) := wc_subD hD [0, 1, 2, 3, 4, 5, 6, 7, 8, 9, 10, 11, 12] rfl rfl
  have hFc := wc_free hDc hS hA
  refine va_callv (va_runV (As := [.int p1]) (rest := []) ⟨hx, hb, hml, hown, hts⟩ (c_X11_tryCold l dC dI k s.heap.size qX tapeX actsX storyX orderSearchX routeSearchX setSearchX probeX slot0X slot1X slot2X slot3X image0X image1X image2X aX qV vV bV cV wV aV eV qN vN aN eN qP vP aP eP qZ sZ vZ nZ aZ p1 hbV hcV hwV heV heN heP hnZ) (cwV 1 hts (gk_V (wl_mem 0 rfl) (wl_mem 1 rfl) (wl_mem 2 rfl) (wl_mem 3 rfl) (fun w h => List.mem_cons_of_mem _ (List.mem_append_right _ (List.mem_append_left _ h))) wkg_c_X11_tryCold) rfl rfl rfl (by decide +kernel) ⟨Nat.le_of_ble_eq_true rfl, Nat.le_of_ble_eq_true rfl⟩) ⟨fun a U g mk q => by obtain ⟨q0, q1, qP, qK, qD⟩ := q; exact ⟨q0, q1, qP, va_K.moved (u := U) (U := U.calling g mk a) (Vm.Alike.refl U.vm) qK, qD⟩, va_recv hK hPc (ci := 11) (q0 := 91) rfl rfl, fun U hU hW => ⟨rfl, by rw [hU], by rw [hU]; exact hPc, va_K.moved hW.alike hK, hDc.weaken (fun _ _ _ _ => trivial)⟩⟩ rfl rfl hl.1 rfl (lv_room (Nat.le_of_ble_eq_true rfl)) dX11_sagInCold_2 ⟨Nat.le_of_ble_eq_true rfl, Nat.le_of_ble_eq_true rfl⟩) hS (fun q _ h => hFc q h) hFc (fun u t H1 locs ht hvm gz1 hB hz1 hk1 hS => ?_)
  obtain ⟨vz3, az4, ez5, vz6, nz7, az8, hez5, hnz7, hP1⟩ := hB
  rw [ht] at hP1
  obtain ⟨hP, hD⟩ := w_callR hP hD hk1 hP1 [0, 1, 2, 3, 4, 5, 6, 7, 8] rfl rfl (wk_memC [9, 10, 11, 12] rfl) rfl [some 0, some 1, some 2, some 3, some 4, some 5, some 6, some 7, some 8] rfl rfl
  clear hPc hDc hFc hk1 hP1
  generalize H1 = H at hP hS ⊢
  have hP : va_P (dC, dI) vwCl (List.flatten [(wPlan qP k vz3 az4 ez5), (wState (sZ 0) k (vz6 0) (nz7 0) (az8 0)), (wState (sZ 1) k (vz6 1) (nz7 1) (az8 1)), (wState (sZ 2) k (vz6 2) (nz7 2) (az8 2)), (wState (sZ 3) k (vz6 3) (nz7 3) (az8 3)), (wState (sZ 4) k (vz6 4) (nz7 4) (az8 4)), (wState (sZ 5) k (vz6 5) (nz7 5) (az8 5)), (wState (sZ 6) k (vz6 6) (nz7 6) (az8 6)), (wState (sZ 7) k (vz6 7) (nz7 7) (az8 7))] ++ List.flatten [(wSag qX k tapeX (qV 0) actsX (qN 0) (qP 0) storyX (qZ 0) orderSearchX routeSearchX setSearchX probeX slot0X slot1X slot2X slot3X image0X image1X image2X aX), (wValley qV k vV bV cV wV aV eV), (wPlan qN k vN aN eN), (wStoO qZ k (qV 0) (qP 0) (sZ 0 0) (sZ 1 0) (sZ 2 0) (sZ 3 0) (sZ 4 0) (sZ 5 0) (sZ 6 0) (sZ 7 0))]) H := hP
  have hD : va_D A (List.flatten [(wPlan qP k vz3 az4 ez5), (wState (sZ 0) k (vz6 0) (nz7 0) (az8 0)), (wState (sZ 1) k (vz6 1) (nz7 1) (az8 1)), (wState (sZ 2) k (vz6 2) (nz7 2) (az8 2)), (wState (sZ 3) k (vz6 3) (nz7 3) (az8 3)), (wState (sZ 4) k (vz6 4) (nz7 4) (az8 4)), (wState (sZ 5) k (vz6 5) (nz7 5) (az8 5)), (wState (sZ 6) k (vz6 6) (nz7 6) (az8 6)), (wState (sZ 7) k (vz6 7) (nz7 7) (az8 7))] ++ List.flatten [(wSag qX k tapeX (qV 0) actsX (qN 0) (qP 0) storyX (qZ 0) orderSearchX routeSearchX setSearchX probeX slot0X slot1X slot2X slot3X image0X image1X image2X aX), (wValley qV k vV bV cV wV aV eV), (wPlan qN k vN aN eN), (wStoO qZ k (qV 0) (qP 0) (sZ 0 0) (sZ 1 0) (sZ 2 0) (sZ 3 0) (sZ 4 0) (sZ 5 0) (sZ 6 0) (sZ 7 0))]) := hD
  refine W.widen (k := 0) (n := 0) (Nat.le_refl 0) (Nat.le_refl 0) ?_
  refine lv_aload_n hx hb dX11_sagInCold_5 rfl (lv_at hl 0 rfl) ?_
  refine va_get (D := (dC, dI)) (ci := 11) (v := .ref (qZ 0)) (C := RX11) (T := TX11) (N := 15) hx hb hts (fun w h => List.mem_cons_of_mem _ (List.mem_append_right _ (List.mem_append_right _ (List.mem_append_left _ h)))) hown hK hP 91 rfl rfl 6 (by decide) (hts (.fieldLink RX11 49 "SagMemory" "attempt" "LSagMemory$Story;") (wl_mem 4 rfl)) (fun _ h9 => h9) rfl dX11_sagInCold_6 ?_
  have hPc : va_P (dC, dI) vwCl (List.flatten [(wStoO qZ k (qV 0) (qP 0) (sZ 0 0) (sZ 1 0) (sZ 2 0) (sZ 3 0) (sZ 4 0) (sZ 5 0) (sZ 6 0) (sZ 7 0)), (wState (sZ 0) k (vz6 0) (nz7 0) (az8 0)), (wState (sZ 1) k (vz6 1) (nz7 1) (az8 1)), (wState (sZ 2) k (vz6 2) (nz7 2) (az8 2)), (wState (sZ 3) k (vz6 3) (nz7 3) (az8 3)), (wState (sZ 4) k (vz6 4) (nz7 4) (az8 4)), (wState (sZ 5) k (vz6 5) (nz7 5) (az8 5)), (wState (sZ 6) k (vz6 6) (nz7 6) (az8 6)), (wState (sZ 7) k (vz6 7) (nz7 7) (az8 7)), (wValley qV k vV bV cV wV aV eV)]) H := wc_subP1 hP [12, 1, 2, 3, 4, 5, 6, 7, 8, 10] rfl
  refine va_csr (va_Run.run (va_runV (As := []) (rest := []) ⟨hx, hb, hml, hown, hts⟩ (c_X8_atEnd l dC dI k qZ sZ (qP 0) vz6 nz7 az8 qV vV bV cV wV aV eV hnz7 hbV hcV hwV heV) (cwV 0 hts (gk_V (wl_mem 5 rfl) (wl_mem 6 rfl) (wl_mem 7 rfl) (wl_mem 8 rfl) (fun w h => List.mem_cons_of_mem _ (List.mem_append_right _ (List.mem_append_right _ (List.mem_append_right _ (List.mem_append_left _ h))))) wkg_c_X8_atEnd) rfl rfl rfl (by decide +kernel) ⟨Nat.le_of_ble_eq_true rfl, Nat.le_of_ble_eq_true rfl⟩) ⟨fun a U g mk q => by obtain ⟨q0, qP, qK⟩ := q; exact ⟨q0, qP, va_K.moved (u := U) (U := U.calling g mk a) (Vm.Alike.refl U.vm) qK⟩, va_recv hK hPc (ci := 8) (q0 := 0) rfl rfl, fun U hU hW => ⟨rfl, by rw [hU]; exact hPc, va_K.moved hW.alike hK⟩⟩ rfl rfl hl.1 rfl (lv_room (Nat.le_of_ble_eq_true rfl)) dX11_sagInCold_9 ⟨Nat.le_of_ble_eq_true rfl, Nat.le_of_ble_eq_true rfl⟩)) (fun rz10 gz9 => ?_)
  clear hPc
  rcases gz9 with rfl | rfl | rfl | rfl | rfl | rfl | rfl | rfl
  · skip
    refine W.eq (g2 := F0 m 12 ls [.ref (sZ 0 0)]) rfl ?_
    have hPc := hP.sub (ws' := (List.flatten [(wState (sZ 0) k (vz6 0) (nz7 0) (az8 0))])) [3, 4, 5, 6, 7, 8, 9, 10, 11, 12, 13] rfl
    refine vp_callSi (va_Run.run (va_runV (As := []) (rest := []) ⟨hx, hb, hml, hown, hts⟩ (c_X7_together l dC dI k (sZ 0) (vz6 0) (nz7 0) (az8 0) (hnz7 0)) (cwV 0 hts (gk_V (wl_mem 9 rfl) (wl_mem 10 rfl) (wl_mem 11 rfl) (wl_mem 12 rfl) (fun w h => List.mem_cons_of_mem _ (List.mem_append_right _ (List.mem_append_right _ (List.mem_append_right _ (List.mem_append_right _ (List.mem_append_left _ h)))))) wkg_c_X7_together) rfl rfl rfl (by decide +kernel) ⟨Nat.le_of_ble_eq_true rfl, Nat.le_of_ble_eq_true rfl⟩) ⟨fun a U g mk q => by obtain ⟨q0, qP, qK⟩ := q; exact ⟨q0, qP, va_K.moved (u := U) (U := U.calling g mk a) (Vm.Alike.refl U.vm) qK⟩, va_recv hK hPc (ci := 7) (q0 := 0) rfl rfl, fun U hU hW => ⟨rfl, by rw [hU]; exact hPc, va_K.moved hW.alike hK⟩⟩ rfl rfl hl.1 rfl (lv_room (Nat.le_of_ble_eq_true rfl)) dX11_sagInCold_12 ⟨Nat.le_of_ble_eq_true rfl, Nat.le_of_ble_eq_true rfl⟩)) (fun rz12 gz11 => ?_)
    clear hPc
    rw [hQ]
    exact W.iret (v := rz12) hx hb hr (fun t ht hW => ⟨⟨rz12, (), rfl, trivial, vz3, az4, ez5, vz6, nz7, az8, hez5, hnz7, by rw [ht]; exact hP⟩, hS.F ht⟩) hS.2.2 dX11_sagInCold_15
  · skip
    refine W.eq (g2 := F0 m 12 ls [.ref (sZ 1 0)]) rfl ?_
    have hPc := hP.sub (ws' := (List.flatten [(wState (sZ 1) k (vz6 1) (nz7 1) (az8 1))])) [14, 15, 16, 17, 18, 19, 20, 21, 22, 23, 24] rfl
    refine vp_callSi (va_Run.run (va_runV (As := []) (rest := []) ⟨hx, hb, hml, hown, hts⟩ (c_X7_together l dC dI k (sZ 1) (vz6 1) (nz7 1) (az8 1) (hnz7 1)) (cwV 0 hts (gk_V (wl_mem 9 rfl) (wl_mem 10 rfl) (wl_mem 11 rfl) (wl_mem 12 rfl) (fun w h => List.mem_cons_of_mem _ (List.mem_append_right _ (List.mem_append_right _ (List.mem_append_right _ (List.mem_append_right _ (List.mem_append_left _ h)))))) wkg_c_X7_together) rfl rfl rfl (by decide +kernel) ⟨Nat.le_of_ble_eq_true rfl, Nat.le_of_ble_eq_true rfl⟩) ⟨fun a U g mk q => by obtain ⟨q0, qP, qK⟩ := q; exact ⟨q0, qP, va_K.moved (u := U) (U := U.calling g mk a) (Vm.Alike.refl U.vm) qK⟩, va_recv hK hPc (ci := 7) (q0 := 0) rfl rfl, fun U hU hW => ⟨rfl, by rw [hU]; exact hPc, va_K.moved hW.alike hK⟩⟩ rfl rfl hl.1 rfl (lv_room (Nat.le_of_ble_eq_true rfl)) dX11_sagInCold_12 ⟨Nat.le_of_ble_eq_true rfl, Nat.le_of_ble_eq_true rfl⟩)) (fun rz14 gz13 => ?_)
    clear hPc
    rw [hQ]
    exact W.iret (v := rz14) hx hb hr (fun t ht hW => ⟨⟨rz14, (), rfl, trivial, vz3, az4, ez5, vz6, nz7, az8, hez5, hnz7, by rw [ht]; exact hP⟩, hS.F ht⟩) hS.2.2 dX11_sagInCold_15
  · skip
    refine W.eq (g2 := F0 m 12 ls [.ref (sZ 2 0)]) rfl ?_
    have hPc := hP.sub (ws' := (List.flatten [(wState (sZ 2) k (vz6 2) (nz7 2) (az8 2))])) [25, 26, 27, 28, 29, 30, 31, 32, 33, 34, 35] rfl
    refine vp_callSi (va_Run.run (va_runV (As := []) (rest := []) ⟨hx, hb, hml, hown, hts⟩ (c_X7_together l dC dI k (sZ 2) (vz6 2) (nz7 2) (az8 2) (hnz7 2)) (cwV 0 hts (gk_V (wl_mem 9 rfl) (wl_mem 10 rfl) (wl_mem 11 rfl) (wl_mem 12 rfl) (fun w h => List.mem_cons_of_mem _ (List.mem_append_right _ (List.mem_append_right _ (List.mem_append_right _ (List.mem_append_right _ (List.mem_append_left _ h)))))) wkg_c_X7_together) rfl rfl rfl (by decide +kernel) ⟨Nat.le_of_ble_eq_true rfl, Nat.le_of_ble_eq_true rfl⟩) ⟨fun a U g mk q => by obtain ⟨q0, qP, qK⟩ := q; exact ⟨q0, qP, va_K.moved (u := U) (U := U.calling g mk a) (Vm.Alike.refl U.vm) qK⟩, va_recv hK hPc (ci := 7) (q0 := 0) rfl rfl, fun U hU hW => ⟨rfl, by rw [hU]; exact hPc, va_K.moved hW.alike hK⟩⟩ rfl rfl hl.1 rfl (lv_room (Nat.le_of_ble_eq_true rfl)) dX11_sagInCold_12 ⟨Nat.le_of_ble_eq_true rfl, Nat.le_of_ble_eq_true rfl⟩)) (fun rz16 gz15 => ?_)
    clear hPc
    rw [hQ]
    exact W.iret (v := rz16) hx hb hr (fun t ht hW => ⟨⟨rz16, (), rfl, trivial, vz3, az4, ez5, vz6, nz7, az8, hez5, hnz7, by rw [ht]; exact hP⟩, hS.F ht⟩) hS.2.2 dX11_sagInCold_15
  · skip
    refine W.eq (g2 := F0 m 12 ls [.ref (sZ 3 0)]) rfl ?_
    have hPc := hP.sub (ws' := (List.flatten [(wState (sZ 3) k (vz6 3) (nz7 3) (az8 3))])) [36, 37, 38, 39, 40, 41, 42, 43, 44, 45, 46] rfl
    refine vp_callSi (va_Run.run (va_runV (As := []) (rest := []) ⟨hx, hb, hml, hown, hts⟩ (c_X7_together l dC dI k (sZ 3) (vz6 3) (nz7 3) (az8 3) (hnz7 3)) (cwV 0 hts (gk_V (wl_mem 9 rfl) (wl_mem 10 rfl) (wl_mem 11 rfl) (wl_mem 12 rfl) (fun w h => List.mem_cons_of_mem _ (List.mem_append_right _ (List.mem_append_right _ (List.mem_append_right _ (List.mem_append_right _ (List.mem_append_left _ h)))))) wkg_c_X7_together) rfl rfl rfl (by decide +kernel) ⟨Nat.le_of_ble_eq_true rfl, Nat.le_of_ble_eq_true rfl⟩) ⟨fun a U g mk q => by obtain ⟨q0, qP, qK⟩ := q; exact ⟨q0, qP, va_K.moved (u := U) (U := U.calling g mk a) (Vm.Alike.refl U.vm) qK⟩, va_recv hK hPc (ci := 7) (q0 := 0) rfl rfl, fun U hU hW => ⟨rfl, by rw [hU]; exact hPc, va_K.moved hW.alike hK⟩⟩ rfl rfl hl.1 rfl (lv_room (Nat.le_of_ble_eq_true rfl)) dX11_sagInCold_12 ⟨Nat.le_of_ble_eq_true rfl, Nat.le_of_ble_eq_true rfl⟩)) (fun rz18 gz17 => ?_)
    clear hPc
    rw [hQ]
    exact W.iret (v := rz18) hx hb hr (fun t ht hW => ⟨⟨rz18, (), rfl, trivial, vz3, az4, ez5, vz6, nz7, az8, hez5, hnz7, by rw [ht]; exact hP⟩, hS.F ht⟩) hS.2.2 dX11_sagInCold_15
  · skip
    refine W.eq (g2 := F0 m 12 ls [.ref (sZ 4 0)]) rfl ?_
    have hPc := hP.sub (ws' := (List.flatten [(wState (sZ 4) k (vz6 4) (nz7 4) (az8 4))])) [47, 48, 49, 50, 51, 52, 53, 54, 55, 56, 57] rfl
    refine vp_callSi (va_Run.run (va_runV (As := []) (rest := []) ⟨hx, hb, hml, hown, hts⟩ (c_X7_together l dC dI k (sZ 4) (vz6 4) (nz7 4) (az8 4) (hnz7 4)) (cwV 0 hts (gk_V (wl_mem 9 rfl) (wl_mem 10 rfl) (wl_mem 11 rfl) (wl_mem 12 rfl) (fun w h => List.mem_cons_of_mem _ (List.mem_append_right _ (List.mem_append_right _ (List.mem_append_right _ (List.mem_append_right _ (List.mem_append_left _ h)))))) wkg_c_X7_together) rfl rfl rfl (by decide +kernel) ⟨Nat.le_of_ble_eq_true rfl, Nat.le_of_ble_eq_true rfl⟩) ⟨fun a U g mk q => by obtain ⟨q0, qP, qK⟩ := q; exact ⟨q0, qP, va_K.moved (u := U) (U := U.calling g mk a) (Vm.Alike.refl U.vm) qK⟩, va_recv hK hPc (ci := 7) (q0 := 0) rfl rfl, fun U hU hW => ⟨rfl, by rw [hU]; exact hPc, va_K.moved hW.alike hK⟩⟩ rfl rfl hl.1 rfl (lv_room (Nat.le_of_ble_eq_true rfl)) dX11_sagInCold_12 ⟨Nat.le_of_ble_eq_true rfl, Nat.le_of_ble_eq_true rfl⟩)) (fun rz20 gz19 => ?_)
    clear hPc
    rw [hQ]
    exact W.iret (v := rz20) hx hb hr (fun t ht hW => ⟨⟨rz20, (), rfl, trivial, vz3, az4, ez5, vz6, nz7, az8, hez5, hnz7, by rw [ht]; exact hP⟩, hS.F ht⟩) hS.2.2 dX11_sagInCold_15
  · skip
    refine W.eq (g2 := F0 m 12 ls [.ref (sZ 5 0)]) rfl ?_
    have hPc := hP.sub (ws' := (List.flatten [(wState (sZ 5) k (vz6 5) (nz7 5) (az8 5))])) [58, 59, 60, 61, 62, 63, 64, 65, 66, 67, 68] rfl
    refine vp_callSi (va_Run.run (va_runV (As := []) (rest := []) ⟨hx, hb, hml, hown, hts⟩ (c_X7_together l dC dI k (sZ 5) (vz6 5) (nz7 5) (az8 5) (hnz7 5)) (cwV 0 hts (gk_V (wl_mem 9 rfl) (wl_mem 10 rfl) (wl_mem 11 rfl) (wl_mem 12 rfl) (fun w h => List.mem_cons_of_mem _ (List.mem_append_right _ (List.mem_append_right _ (List.mem_append_right _ (List.mem_append_right _ (List.mem_append_left _ h)))))) wkg_c_X7_together) rfl rfl rfl (by decide +kernel) ⟨Nat.le_of_ble_eq_true rfl, Nat.le_of_ble_eq_true rfl⟩) ⟨fun a U g mk q => by obtain ⟨q0, qP, qK⟩ := q; exact ⟨q0, qP, va_K.moved (u := U) (U := U.calling g mk a) (Vm.Alike.refl U.vm) qK⟩, va_recv hK hPc (ci := 7) (q0 := 0) rfl rfl, fun U hU hW => ⟨rfl, by rw [hU]; exact hPc, va_K.moved hW.alike hK⟩⟩ rfl rfl hl.1 rfl (lv_room (Nat.le_of_ble_eq_true rfl)) dX11_sagInCold_12 ⟨Nat.le_of_ble_eq_true rfl, Nat.le_of_ble_eq_true rfl⟩)) (fun rz22 gz21 => ?_)
    clear hPc
    rw [hQ]
    exact W.iret (v := rz22) hx hb hr (fun t ht hW => ⟨⟨rz22, (), rfl, trivial, vz3, az4, ez5, vz6, nz7, az8, hez5, hnz7, by rw [ht]; exact hP⟩, hS.F ht⟩) hS.2.2 dX11_sagInCold_15
  · skip
    refine W.eq (g2 := F0 m 12 ls [.ref (sZ 6 0)]) rfl ?_
    have hPc := hP.sub (ws' := (List.flatten [(wState (sZ 6) k (vz6 6) (nz7 6) (az8 6))])) [69, 70, 71, 72, 73, 74, 75, 76, 77, 78, 79] rfl
    refine vp_callSi (va_Run.run (va_runV (As := []) (rest := []) ⟨hx, hb, hml, hown, hts⟩ (c_X7_together l dC dI k (sZ 6) (vz6 6) (nz7 6) (az8 6) (hnz7 6)) (cwV 0 hts (gk_V (wl_mem 9 rfl) (wl_mem 10 rfl) (wl_mem 11 rfl) (wl_mem 12 rfl) (fun w h => List.mem_cons_of_mem _ (List.mem_append_right _ (List.mem_append_right _ (List.mem_append_right _ (List.mem_append_right _ (List.mem_append_left _ h)))))) wkg_c_X7_together) rfl rfl rfl (by decide +kernel) ⟨Nat.le_of_ble_eq_true rfl, Nat.le_of_ble_eq_true rfl⟩) ⟨fun a U g mk q => by obtain ⟨q0, qP, qK⟩ := q; exact ⟨q0, qP, va_K.moved (u := U) (U := U.calling g mk a) (Vm.Alike.refl U.vm) qK⟩, va_recv hK hPc (ci := 7) (q0 := 0) rfl rfl, fun U hU hW => ⟨rfl, by rw [hU]; exact hPc, va_K.moved hW.alike hK⟩⟩ rfl rfl hl.1 rfl (lv_room (Nat.le_of_ble_eq_true rfl)) dX11_sagInCold_12 ⟨Nat.le_of_ble_eq_true rfl, Nat.le_of_ble_eq_true rfl⟩)) (fun rz24 gz23 => ?_)
    clear hPc
    rw [hQ]
    exact W.iret (v := rz24) hx hb hr (fun t ht hW => ⟨⟨rz24, (), rfl, trivial, vz3, az4, ez5, vz6, nz7, az8, hez5, hnz7, by rw [ht]; exact hP⟩, hS.F ht⟩) hS.2.2 dX11_sagInCold_15
  · skip
    refine W.eq (g2 := F0 m 12 ls [.ref (sZ 7 0)]) rfl ?_
    have hPc := hP.sub (ws' := (List.flatten [(wState (sZ 7) k (vz6 7) (nz7 7) (az8 7))])) [80, 81, 82, 83, 84, 85, 86, 87, 88, 89, 90] rfl
    refine vp_callSi (va_Run.run (va_runV (As := []) (rest := []) ⟨hx, hb, hml, hown, hts⟩ (c_X7_together l dC dI k (sZ 7) (vz6 7) (nz7 7) (az8 7) (hnz7 7)) (cwV 0 hts (gk_V (wl_mem 9 rfl) (wl_mem 10 rfl) (wl_mem 11 rfl) (wl_mem 12 rfl) (fun w h => List.mem_cons_of_mem _ (List.mem_append_right _ (List.mem_append_right _ (List.mem_append_right _ (List.mem_append_right _ (List.mem_append_left _ h)))))) wkg_c_X7_together) rfl rfl rfl (by decide +kernel) ⟨Nat.le_of_ble_eq_true rfl, Nat.le_of_ble_eq_true rfl⟩) ⟨fun a U g mk q => by obtain ⟨q0, qP, qK⟩ := q; exact ⟨q0, qP, va_K.moved (u := U) (U := U.calling g mk a) (Vm.Alike.refl U.vm) qK⟩, va_recv hK hPc (ci := 7) (q0 := 0) rfl rfl, fun U hU hW => ⟨rfl, by rw [hU]; exact hPc, va_K.moved hW.alike hK⟩⟩ rfl rfl hl.1 rfl (lv_room (Nat.le_of_ble_eq_true rfl)) dX11_sagInCold_12 ⟨Nat.le_of_ble_eq_true rfl, Nat.le_of_ble_eq_true rfl⟩)) (fun rz26 gz25 => ?_)
    clear hPc
    rw [hQ]
    exact W.iret (v := rz26) hx hb hr (fun t ht hW => ⟨⟨rz26, (), rfl, trivial, vz3, az4, ez5, vz6, nz7, az8, hez5, hnz7, by rw [ht]; exact hP⟩, hS.F ht⟩) hS.2.2 dX11_sagInCold_15
def wk_c_X11_breaksInCold : List Cond := .code yX11_breaksInCold cX11_breaksInCold 3 (some .boolean) :: ([.methodLink RX11 342 yX11_tryCold, .instanceMethod yX11_tryCold, .selects RX11 yX11_tryCold yX11_tryCold, .initialized RX11, .fieldLink RX11 49 "SagMemory" "attempt" "LSagMemory$Story;", .methodLink RX11 183 yX8_atEnd, .instanceMethod yX8_atEnd, .selects RX8 yX8_atEnd yX8_atEnd, .initialized RX8, .methodLink RX11 240 yX7_isBroken, .instanceMethod yX7_isBroken, .selects RX7 yX7_isBroken yX7_isBroken, .initialized RX7] ++ (wk_c_X11_tryCold ++ (wsX110 ++ (wk_c_X8_atEnd ++ (wk_c_X7_isBroken ++ [])))))
theorem wkg_c_X11_breaksInCold : wk_c_X11_breaksInCold.all goodWord = true := by decide +kernel
set_option maxHeartbeats 4000000 in
set_option maxRecDepth 100000 in
theorem c_X11_breaksInCold (l : Launch) (dC : Nat → ClassId) (dI : Nat → Nat → Nat) (k : Nat → ClassId) (sz : Nat) (qX : Nat → Nat) (tapeX : Nat) (actsX : Nat) (storyX : Nat) (orderSearchX : Nat) (routeSearchX : Nat) (setSearchX : Nat) (probeX : Nat) (slot0X : Nat) (slot1X : Nat) (slot2X : Nat) (slot3X : Nat) (image0X : Nat) (image1X : Nat) (image2X : Nat) (aX : Nat → Nat → Int32) (qV : Nat → Nat) (vV : Nat → Int32) (bV : Nat → Int32) (cV : Nat → Int32) (wV : Nat → Int32) (aV : Nat → Nat → Int32) (eV : Nat → Nat → Int32) (qN : Nat → Nat) (vN : Nat → Int32) (aN : Nat → Nat → Int32) (eN : Nat → Nat → Int32) (qP : Nat → Nat) (vP : Nat → Int32) (aP : Nat → Nat → Int32) (eP : Nat → Nat → Int32) (qZ : Nat → Nat) (sZ : Nat → Nat → Nat) (vZ : Nat → Nat → Int32) (nZ : Nat → Nat → Int32) (aZ : Nat → Nat → Nat → Int32) (p1 : Int32) (p2 : Int32) (hbV : Rg 0 3 bV) (hcV : Rg 0 7 cV) (hwV : Rg 0 5 wV) (heV : RgA 0 99 eV) (heN : RgA 0 99 eN) (heP : RgA 0 99 eP) (hnZ : ∀ t9, Rg 0 8 (nZ t9)) : Met l yX11_breaksInCold wk_c_X11_breaksInCold ({ frames := 5, cells := 0, slots := 0, locals := 173 }) (va_Pc [.ref (qX 0), .int p1, .int p2] (fun U => U.heap.size = sz ∧ va_P (dC, dI) vwCl (List.flatten [(wPlan qP k vP aP eP), (wState (sZ 0) k (vZ 0) (nZ 0) (aZ 0)), (wState (sZ 1) k (vZ 1) (nZ 1) (aZ 1)), (wState (sZ 2) k (vZ 2) (nZ 2) (aZ 2)), (wState (sZ 3) k (vZ 3) (nZ 3) (aZ 3)), (wState (sZ 4) k (vZ 4) (nZ 4) (aZ 4)), (wState (sZ 5) k (vZ 5) (nZ 5) (aZ 5)), (wState (sZ 6) k (vZ 6) (nZ 6) (aZ 6)), (wState (sZ 7) k (vZ 7) (nZ 7) (aZ 7))] ++ List.flatten [(wSag qX k tapeX (qV 0) actsX (qN 0) (qP 0) storyX (qZ 0) orderSearchX routeSearchX setSearchX probeX slot0X slot1X slot2X slot3X image0X image1X image2X aX), (wValley qV k vV bV cV wV aV eV), (wPlan qN k vN aN eN), (wStoO qZ k (qV 0) (qP 0) (sZ 0 0) (sZ 1 0) (sZ 2 0) (sZ 3 0) (sZ 4 0) (sZ 5 0) (sZ 6 0) (sZ 7 0))]) U.heap ∧ va_K (dC, dI) vwCl (tK k) U ∧ va_D (fun _ => True) (List.flatten [(wPlan qP k vP aP eP), (wState (sZ 0) k (vZ 0) (nZ 0) (aZ 0)), (wState (sZ 1) k (vZ 1) (nZ 1) (aZ 1)), (wState (sZ 2) k (vZ 2) (nZ 2) (aZ 2)), (wState (sZ 3) k (vZ 3) (nZ 3) (aZ 3)), (wState (sZ 4) k (vZ 4) (nZ 4) (aZ 4)), (wState (sZ 5) k (vZ 5) (nZ 5) (aZ 5)), (wState (sZ 6) k (vZ 6) (nZ 6) (aZ 6)), (wState (sZ 7) k (vZ 7) (nZ 7) (aZ 7))] ++ List.flatten [(wSag qX k tapeX (qV 0) actsX (qN 0) (qP 0) storyX (qZ 0) orderSearchX routeSearchX setSearchX probeX slot0X slot1X slot2X slot3X image0X image1X image2X aX), (wValley qV k vV bV cV wV aV eV), (wPlan qN k vN aN eN), (wStoO qZ k (qV 0) (qP 0) (sZ 0 0) (sZ 1 0) (sZ 2 0) (sZ 3 0) (sZ 4 0) (sZ 5 0) (sZ 6 0) (sZ 7 0))]))) (va_Qi (fun (r : Int32) (_ : Unit) => (r.toInt = 0 ∨ r.toInt = 1)) (fun (_ : Unit) (t : State) => ∃ (vP' : Nat → Int32) (aP' : Nat → Nat → Int32) (eP' : Nat → Nat → Int32) (vZ' : Nat → Nat → Int32) (nZ' : Nat → Nat → Int32) (aZ' : Nat → Nat → Nat → Int32), RgA 0 99 eP' ∧ (∀ t9, Rg 0 8 (nZ' t9)) ∧ va_P (dC, dI) vwCl (List.flatten [(wPlan qP k vP' aP' eP'), (wState (sZ 0) k (vZ' 0) (nZ' 0) (aZ' 0)), (wState (sZ 1) k (vZ' 1) (nZ' 1) (aZ' 1)), (wState (sZ 2) k (vZ' 2) (nZ' 2) (aZ' 2)), (wState (sZ 3) k (vZ' 3) (nZ' 3) (aZ' 3)), (wState (sZ 4) k (vZ' 4) (nZ' 4) (aZ' 4)), (wState (sZ 5) k (vZ' 5) (nZ' 5) (aZ' 5)), (wState (sZ 6) k (vZ' 6) (nZ' 6) (aZ' 6)), (wState (sZ 7) k (vZ' 7) (nZ' 7) (aZ' 7))] ++ List.flatten [(wSag qX k tapeX (qV 0) actsX (qN 0) (qP 0) storyX (qZ 0) orderSearchX routeSearchX setSearchX probeX slot0X slot1X slot2X slot3X image0X image1X image2X aX), (wValley qV k vV bV cV wV aV eV), (wPlan qN k vN aN eN), (wStoO qZ k (qV 0) (qP 0) (sZ 0 0) (sZ 1 0) (sZ 2 0) (sZ 3 0) (sZ 4 0) (sZ 5 0) (sZ 6 0) (sZ 7 0))]) t.heap) (va_A (List.flatten [(wPlan qP k vP aP eP), (wState (sZ 0) k (vZ 0) (nZ 0) (aZ 0)), (wState (sZ 1) k (vZ 1) (nZ 1) (aZ 1)), (wState (sZ 2) k (vZ 2) (nZ 2) (aZ 2)), (wState (sZ 3) k (vZ 3) (nZ 3) (aZ 3)), (wState (sZ 4) k (vZ 4) (nZ 4) (aZ 4)), (wState (sZ 5) k (vZ 5) (nZ 5) (aZ 5)), (wState (sZ 6) k (vZ 6) (nZ 6) (aZ 6)), (wState (sZ 7) k (vZ 7) (nZ 7) (aZ 7))] ++ List.flatten [(wSag qX k tapeX (qV 0) actsX (qN 0) (qP 0) storyX (qZ 0) orderSearchX routeSearchX setSearchX probeX slot0X slot1X slot2X slot3X image0X image1X image2X aX), (wValley qV k vV bV cV wV aV eV), (wPlan qN k vN aN eN), (wStoO qZ k (qV 0) (qP 0) (sZ 0 0) (sZ 1 0) (sZ 2 0) (sZ 3 0) (sZ 4 0) (sZ 5 0) (sZ 6 0) (sZ 7 0))]) sz)) 0 0 (va_A (List.flatten [(wPlan qP k vP aP eP), (wState (sZ 0) k (vZ 0) (nZ 0) (aZ 0)), (wState (sZ 1) k (vZ 1) (nZ 1) (aZ 1)), (wState (sZ 2) k (vZ 2) (nZ 2) (aZ 2)), (wState (sZ 3) k (vZ 3) (nZ 3) (aZ 3)), (wState (sZ 4) k (vZ 4) (nZ 4) (aZ 4)), (wState (sZ 5) k (vZ 5) (nZ 5) (aZ 5)), (wState (sZ 6) k (vZ 6) (nZ 6) (aZ 6)), (wState (sZ 7) k (vZ 7) (nZ 7) (aZ 7))] ++ List.flatten [(wSag qX k tapeX (qV 0) actsX (qN 0) (qP 0) storyX (qZ 0) orderSearchX routeSearchX setSearchX probeX slot0X slot1X slot2X slot3X image0X image1X image2X aX), (wValley qV k vV bV cV wV aV eV), (wPlan qN k vN aN eN), (wStoO qZ k (qV 0) (qP 0) (sZ 0 0) (sZ 1 0) (sZ 2 0) (sZ 3 0) (sZ 4 0) (sZ 5 0) (sZ 6 0) (sZ 7 0))]) sz) := by
  refine Met.ofW (cc := cX11_breaksInCold) (maxL := 3) (ret := (some .boolean)) (by decide) rfl ?_
  intro p e s m args below meth c s₁ B hml hv
  obtain ⟨rfl, hsz, hP, hK, hD0⟩ := hv
  have hx := B.exec
  have hb := B.bytes
  have hr := B.returns
  have hts := atoms_spec (ws := wk_c_X11_breaksInCold) B.pre
  have hown : s.vm.findClass RX11 = some m.cls := findClass_of_methodNamed B.named
  have hlocks := B.notSynchronized
  subst hsz
  have hD := hD0.self (sz := s.heap.size)
  generalize hAe : va_A (List.flatten [(wPlan qP k vP aP eP), (wState (sZ 0) k (vZ 0) (nZ 0) (aZ 0)), (wState (sZ 1) k (vZ 1) (nZ 1) (aZ 1)), (wState (sZ 2) k (vZ 2) (nZ 2) (aZ 2)), (wState (sZ 3) k (vZ 3) (nZ 3) (aZ 3)), (wState (sZ 4) k (vZ 4) (nZ 4) (aZ 4)), (wState (sZ 5) k (vZ 5) (nZ 5) (aZ 5)), (wState (sZ 6) k (vZ 6) (nZ 6) (aZ 6)), (wState (sZ 7) k (vZ 7) (nZ 7) (aZ 7))] ++ List.flatten [(wSag qX k tapeX (qV 0) actsX (qN 0) (qP 0) storyX (qZ 0) orderSearchX routeSearchX setSearchX probeX slot0X slot1X slot2X slot3X image0X image1X image2X aX), (wValley qV k vV bV cV wV aV eV), (wPlan qN k vN aN eN), (wStoO qZ k (qV 0) (qP 0) (sZ 0 0) (sZ 1 0) (sZ 2 0) (sZ 3 0) (sZ 4 0) (sZ 5 0) (sZ 6 0) (sZ 7 0))]) s.heap.size = A at hD ⊢
  have hA : ∀ q : Nat, s.heap.size ≤ q → A q := fun q h => by rw [← hAe]; exact Or.inr h
  have hS : va_S A s.heap s.heap [] := va_S.rf
  have hP : va_P (dC, dI) vwCl (List.flatten [(wPlan qP k vP aP eP), (wState (sZ 0) k (vZ 0) (nZ 0) (aZ 0)), (wState (sZ 1) k (vZ 1) (nZ 1) (aZ 1)), (wState (sZ 2) k (vZ 2) (nZ 2) (aZ 2)), (wState (sZ 3) k (vZ 3) (nZ 3) (aZ 3)), (wState (sZ 4) k (vZ 4) (nZ 4) (aZ 4)), (wState (sZ 5) k (vZ 5) (nZ 5) (aZ 5)), (wState (sZ 6) k (vZ 6) (nZ 6) (aZ 6)), (wState (sZ 7) k (vZ 7) (nZ 7) (aZ 7))] ++ List.flatten [(wSag qX k tapeX (qV 0) actsX (qN 0) (qP 0) storyX (qZ 0) orderSearchX routeSearchX setSearchX probeX slot0X slot1X slot2X slot3X image0X image1X image2X aX), (wValley qV k vV bV cV wV aV eV), (wPlan qN k vN aN eN), (wStoO qZ k (qV 0) (qP 0) (sZ 0 0) (sZ 1 0) (sZ 2 0) (sZ 3 0) (sZ 4 0) (sZ 5 0) (sZ 6 0) (sZ 7 0))]) s.heap := hP
  have hl := lv_entry ([.ref (qX 0), .int p1, .int p2]) (n := 3) (Nat.le_of_ble_eq_true rfl)
  rw [lg_entry_eq]
  generalize (lg_sl ([.ref (qX 0), .int p1, .int p2]) ++ List.replicate (3 - (lg_sl ([.ref (qX 0), .int p1, .int p2])).length) Slot.unset).toArray = ls at hl ⊢
  have hl : lv_has ls 3 [(0, .ref (qX 0)), (1, .int p1), (2, .int p2)] := hl
  refine w_gen (fun Q hQ => ?_)
  refine lv_aload_n hx hb dX11_breaksInCold_0 rfl (lv_at hl 0 rfl) ?_
  refine lv_iload_n hx hb dX11_breaksInCold_1 rfl (lv_at hl 1 rfl) ?_
  have hPc := hP
  have hDc : va_D A (List.flatten [(wPlan qP k vP aP eP), (wState (sZ 0) k (vZ 0) (nZ 0) (aZ 0)), (wState (sZ 1) k (vZ 1) (nZ 1) (aZ 1)), (wState (sZ 2) k (vZ 2) (nZ 2) (aZ 2)), (wState (sZ 3) k (vZ 3) (nZ 3) (aZ 3)), (wState (sZ 4) k (vZ 4) (nZ 4) (aZ 4)), (wState (sZ 5) k (vZ 5) (nZ 5) (aZ 5)), (wState (sZ 6) k (vZ 6) (nZ 6) (aZ 6)), (wState (sZ 7) k (vZ 7) (nZ 7) (aZ 7))] ++ List.flatten [(wSag qX k tapeX (qV 0) actsX (qN 0) (qP 0) storyX (qZ 0) orderSearchX routeSearchX setSearchX probeX slot0X slot1X slot2X slot3X image0X image1X image2X aX), (wValley qV k vV bV cV wV aV eV), (wPlan qN k vN aN eN), (wStoO qZ k (qV 0) (qP 0) (sZ 0 0) (sZ 1 0) (sZ 2 0) (sZ 3 0) (sZ 4 0) (sZ 5 0) (sZ 6 0) (sZ 7 0))]) := wc_subD hD [0, 1, 2, 3, 4, 5, 6, 7, 8, 9, 10, 11, 12] rfl rfl
  have hFc := wc_free hDc hS hA
  refine va_callv (va_runV (As := [.int p1]) (rest := []) ⟨hx, hb, hml, hown, hts⟩ (c_X11_tryCold l dC dI k s.heap.size qX tapeX actsX storyX orderSearchX routeSearchX setSearchX probeX slot0X slot1X slot2X slot3X image0X image1X image2X aX qV vV bV cV wV aV eV qN vN aN eN qP vP aP eP qZ sZ vZ nZ aZ p1 hbV hcV hwV heV heN heP hnZ) (cwV 1 hts (gk_V (wl_mem 0 rfl) (wl_mem 1 rfl) (wl_mem 2 rfl) (wl_mem 3 rfl) (fun w h => List.mem_cons_of_mem _ (List.mem_append_right _ (List.mem_append_left _ h))) wkg_c_X11_tryCold) rfl rfl rfl (by decide +kernel) ⟨Nat.le_of_ble_eq_true rfl, Nat.le_of_ble_eq_true rfl⟩) ⟨fun a U g mk q => by obtain ⟨q0, q1, qP, qK, qD⟩ := q; exact ⟨q0, q1, qP, va_K.moved (u := U) (U := U.calling g mk a) (Vm.Alike.refl U.vm) qK, qD⟩, va_recv hK hPc (ci := 11) (q0 := 91) rfl rfl, fun U hU hW => ⟨rfl, by rw [hU], by rw [hU]; exact hPc, va_K.moved hW.alike hK, hDc.weaken (fun _ _ _ _ => trivial)⟩⟩ rfl rfl hl.1 rfl (lv_room (Nat.le_of_ble_eq_true rfl)) dX11_breaksInCold_2 ⟨Nat.le_of_ble_eq_true rfl, Nat.le_of_ble_eq_true rfl⟩) hS (fun q _ h => hFc q h) hFc (fun u t H1 locs ht hvm gz1 hB hz1 hk1 hS => ?_)
  obtain ⟨vz3, az4, ez5, vz6, nz7, az8, hez5, hnz7, hP1⟩ := hB
  rw [ht] at hP1
  obtain ⟨hP, hD⟩ := w_callR hP hD hk1 hP1 [0, 1, 2, 3, 4, 5, 6, 7, 8] rfl rfl (wk_memC [9, 10, 11, 12] rfl) rfl [some 0, some 1, some 2, some 3, some 4, some 5, some 6, some 7, some 8] rfl rfl
  clear hPc hDc hFc hk1 hP1
  generalize H1 = H at hP hS ⊢
  have hP : va_P (dC, dI) vwCl (List.flatten [(wPlan qP k vz3 az4 ez5), (wState (sZ 0) k (vz6 0) (nz7 0) (az8 0)), (wState (sZ 1) k (vz6 1) (nz7 1) (az8 1)), (wState (sZ 2) k (vz6 2) (nz7 2) (az8 2)), (wState (sZ 3) k (vz6 3) (nz7 3) (az8 3)), (wState (sZ 4) k (vz6 4) (nz7 4) (az8 4)), (wState (sZ 5) k (vz6 5) (nz7 5) (az8 5)), (wState (sZ 6) k (vz6 6) (nz7 6) (az8 6)), (wState (sZ 7) k (vz6 7) (nz7 7) (az8 7))] ++ List.flatten [(wSag qX k tapeX (qV 0) actsX (qN 0) (qP 0) storyX (qZ 0) orderSearchX routeSearchX setSearchX probeX slot0X slot1X slot2X slot3X image0X image1X image2X aX), (wValley qV k vV bV cV wV aV eV), (wPlan qN k vN aN eN), (wStoO qZ k (qV 0) (qP 0) (sZ 0 0) (sZ 1 0) (sZ 2 0) (sZ 3 0) (sZ 4 0) (sZ 5 0) (sZ 6 0) (sZ 7 0))]) H := hP
  have hD : va_D A (List.flatten [(wPlan qP k vz3 az4 ez5), (wState (sZ 0) k (vz6 0) (nz7 0) (az8 0)), (wState (sZ 1) k (vz6 1) (nz7 1) (az8 1)), (wState (sZ 2) k (vz6 2) (nz7 2) (az8 2)), (wState (sZ 3) k (vz6 3) (nz7 3) (az8 3)), (wState (sZ 4) k (vz6 4) (nz7 4) (az8 4)), (wState (sZ 5) k (vz6 5) (nz7 5) (az8 5)), (wState (sZ 6) k (vz6 6) (nz7 6) (az8 6)), (wState (sZ 7) k (vz6 7) (nz7 7) (az8 7))] ++ List.flatten [(wSag qX k tapeX (qV 0) actsX (qN 0) (qP 0) storyX (qZ 0) orderSearchX routeSearchX setSearchX probeX slot0X slot1X slot2X slot3X image0X image1X image2X aX), (wValley qV k vV bV cV wV aV eV), (wPlan qN k vN aN eN), (wStoO qZ k (qV 0) (qP 0) (sZ 0 0) (sZ 1 0) (sZ 2 0) (sZ 3 0) (sZ 4 0) (sZ 5 0) (sZ 6 0) (sZ 7 0))]) := hD
  refine W.widen (k := 0) (n := 0) (Nat.le_refl 0) (Nat.le_refl 0) ?_
  refine lv_aload_n hx hb dX11_breaksInCold_5 rfl (lv_at hl 0 rfl) ?_
  refine va_get (D := (dC, dI)) (ci := 11) (v := .ref (qZ 0)) (C := RX11) (T := TX11) (N := 15) hx hb hts (fun w h => List.mem_cons_of_mem _ (List.mem_append_right _ (List.mem_append_right _ (List.mem_append_left _ h)))) hown hK hP 91 rfl rfl 6 (by decide) (hts (.fieldLink RX11 49 "SagMemory" "attempt" "LSagMemory$Story;") (wl_mem 4 rfl)) (fun _ h9 => h9) rfl dX11_breaksInCold_6 ?_
  have hPc : va_P (dC, dI) vwCl (List.flatten [(wStoO qZ k (qV 0) (qP 0) (sZ 0 0) (sZ 1 0) (sZ 2 0) (sZ 3 0) (sZ 4 0) (sZ 5 0) (sZ 6 0) (sZ 7 0)), (wState (sZ 0) k (vz6 0) (nz7 0) (az8 0)), (wState (sZ 1) k (vz6 1) (nz7 1) (az8 1)), (wState (sZ 2) k (vz6 2) (nz7 2) (az8 2)), (wState (sZ 3) k (vz6 3) (nz7 3) (az8 3)), (wState (sZ 4) k (vz6 4) (nz7 4) (az8 4)), (wState (sZ 5) k (vz6 5) (nz7 5) (az8 5)), (wState (sZ 6) k (vz6 6) (nz7 6) (az8 6)), (wState (sZ 7) k (vz6 7) (nz7 7) (az8 7)), (wValley qV k vV bV cV wV aV eV)]) H := wc_subP1 hP [12, 1, 2, 3, 4, 5, 6, 7, 8, 10] rfl
  refine va_csr (va_Run.run (va_runV (As := []) (rest := []) ⟨hx, hb, hml, hown, hts⟩ (c_X8_atEnd l dC dI k qZ sZ (qP 0) vz6 nz7 az8 qV vV bV cV wV aV eV hnz7 hbV hcV hwV heV) (cwV 0 hts (gk_V (wl_mem 5 rfl) (wl_mem 6 rfl) (wl_mem 7 rfl) (wl_mem 8 rfl) (fun w h => List.mem_cons_of_mem _ (List.mem_append_right _ (List.mem_append_right _ (List.mem_append_right _ (List.mem_append_left _ h))))) wkg_c_X8_atEnd) rfl rfl rfl (by decide +kernel) ⟨Nat.le_of_ble_eq_true rfl, Nat.le_of_ble_eq_true rfl⟩) ⟨fun a U g mk q => by obtain ⟨q0, qP, qK⟩ := q; exact ⟨q0, qP, va_K.moved (u := U) (U := U.calling g mk a) (Vm.Alike.refl U.vm) qK⟩, va_recv hK hPc (ci := 8) (q0 := 0) rfl rfl, fun U hU hW => ⟨rfl, by rw [hU]; exact hPc, va_K.moved hW.alike hK⟩⟩ rfl rfl hl.1 rfl (lv_room (Nat.le_of_ble_eq_true rfl)) dX11_breaksInCold_9 ⟨Nat.le_of_ble_eq_true rfl, Nat.le_of_ble_eq_true rfl⟩)) (fun rz10 gz9 => ?_)
  clear hPc
  rcases gz9 with rfl | rfl | rfl | rfl | rfl | rfl | rfl | rfl
  · skip
    refine W.eq (g2 := F0 m 12 ls [.ref (sZ 0 0)]) rfl ?_
    refine lv_iload_n hx hb dX11_breaksInCold_12 rfl (lv_at hl 2 rfl) ?_
    have hPc := hP.sub (ws' := (List.flatten [(wState (sZ 0) k (vz6 0) (nz7 0) (az8 0))])) [3, 4, 5, 6, 7, 8, 9, 10, 11, 12, 13] rfl
    refine vp_callSi (va_Run.run (va_runV (As := [.int p2]) (rest := []) ⟨hx, hb, hml, hown, hts⟩ (c_X7_isBroken l dC dI k (sZ 0) (vz6 0) (nz7 0) (az8 0) p2 (hnz7 0)) (cwV 1 hts (gk_V (wl_mem 9 rfl) (wl_mem 10 rfl) (wl_mem 11 rfl) (wl_mem 12 rfl) (fun w h => List.mem_cons_of_mem _ (List.mem_append_right _ (List.mem_append_right _ (List.mem_append_right _ (List.mem_append_right _ (List.mem_append_left _ h)))))) wkg_c_X7_isBroken) rfl rfl rfl (by decide +kernel) ⟨Nat.le_of_ble_eq_true rfl, Nat.le_of_ble_eq_true rfl⟩) ⟨fun a U g mk q => by obtain ⟨q0, qP, qK⟩ := q; exact ⟨q0, qP, va_K.moved (u := U) (U := U.calling g mk a) (Vm.Alike.refl U.vm) qK⟩, va_recv hK hPc (ci := 7) (q0 := 0) rfl rfl, fun U hU hW => ⟨rfl, by rw [hU]; exact hPc, va_K.moved hW.alike hK⟩⟩ rfl rfl hl.1 rfl (lv_room (Nat.le_of_ble_eq_true rfl)) dX11_breaksInCold_13 ⟨Nat.le_of_ble_eq_true rfl, Nat.le_of_ble_eq_true rfl⟩)) (fun rz12 gz11 => ?_)
    clear hPc
    have pz13 := gz11
    have pz13 : rz12.toInt = 0 ∨ rz12.toInt = 1 := pz13
    rw [hQ]
    exact W.zret (v := rz12) hx hb hr (zb_nar (by show rz12.toInt = 0 ∨ rz12.toInt = 1; omega)) (fun t ht hW => ⟨⟨rz12, (), rfl, (by show rz12.toInt = 0 ∨ rz12.toInt = 1; omega), vz3, az4, ez5, vz6, nz7, az8, hez5, hnz7, by rw [ht]; exact hP⟩, hS.F ht⟩) hS.2.2 dX11_breaksInCold_16
  · skip
    refine W.eq (g2 := F0 m 12 ls [.ref (sZ 1 0)]) rfl ?_
    refine lv_iload_n hx hb dX11_breaksInCold_12 rfl (lv_at hl 2 rfl) ?_
    have hPc := hP.sub (ws' := (List.flatten [(wState (sZ 1) k (vz6 1) (nz7 1) (az8 1))])) [14, 15, 16, 17, 18, 19, 20, 21, 22, 23, 24] rfl
    refine vp_callSi (va_Run.run (va_runV (As := [.int p2]) (rest := []) ⟨hx, hb, hml, hown, hts⟩ (c_X7_isBroken l dC dI k (sZ 1) (vz6 1) (nz7 1) (az8 1) p2 (hnz7 1)) (cwV 1 hts (gk_V (wl_mem 9 rfl) (wl_mem 10 rfl) (wl_mem 11 rfl) (wl_mem 12 rfl) (fun w h => List.mem_cons_of_mem _ (List.mem_append_right _ (List.mem_append_right _ (List.mem_append_right _ (List.mem_append_right _ (List.mem_append_left _ h)))))) wkg_c_X7_isBroken) rfl rfl rfl (by decide +kernel) ⟨Nat.le_of_ble_eq_true rfl, Nat.le_of_ble_eq_true rfl⟩) ⟨fun a U g mk q => by obtain ⟨q0, qP, qK⟩ := q; exact ⟨q0, qP, va_K.moved (u := U) (U := U.calling g mk a) (Vm.Alike.refl U.vm) qK⟩, va_recv hK hPc (ci := 7) (q0 := 0) rfl rfl, fun U hU hW => ⟨rfl, by rw [hU]; exact hPc, va_K.moved hW.alike hK⟩⟩ rfl rfl hl.1 rfl (lv_room (Nat.le_of_ble_eq_true rfl)) dX11_breaksInCold_13 ⟨Nat.le_of_ble_eq_true rfl, Nat.le_of_ble_eq_true rfl⟩)) (fun rz15 gz14 => ?_)
    clear hPc
    have pz16 := gz14
    have pz16 : rz15.toInt = 0 ∨ rz15.toInt = 1 := pz16
    rw [hQ]
    exact W.zret (v := rz15) hx hb hr (zb_nar (by show rz15.toInt = 0 ∨ rz15.toInt = 1; omega)) (fun t ht hW => ⟨⟨rz15, (), rfl, (by show rz15.toInt = 0 ∨ rz15.toInt = 1; omega), vz3, az4, ez5, vz6, nz7, az8, hez5, hnz7, by rw [ht]; exact hP⟩, hS.F ht⟩) hS.2.2 dX11_breaksInCold_16
  · skip
    refine W.eq (g2 := F0 m 12 ls [.ref (sZ 2 0)]) rfl ?_
    refine lv_iload_n hx hb dX11_breaksInCold_12 rfl (lv_at hl 2 rfl) ?_
    have hPc := hP.sub (ws' := (List.flatten [(wState (sZ 2) k (vz6 2) (nz7 2) (az8 2))])) [25, 26, 27, 28, 29, 30, 31, 32, 33, 34, 35] rfl
    refine vp_callSi (va_Run.run (va_runV (As := [.int p2]) (rest := []) ⟨hx, hb, hml, hown, hts⟩ (c_X7_isBroken l dC dI k (sZ 2) (vz6 2) (nz7 2) (az8 2) p2 (hnz7 2)) (cwV 1 hts (gk_V (wl_mem 9 rfl) (wl_mem 10 rfl) (wl_mem 11 rfl) (wl_mem 12 rfl) (fun w h => List.mem_cons_of_mem _ (List.mem_append_right _ (List.mem_append_right _ (List.mem_append_right _ (List.mem_append_right _ (List.mem_append_left _ h)))))) wkg_c_X7_isBroken) rfl rfl rfl (by decide +kernel) ⟨Nat.le_of_ble_eq_true rfl, Nat.le_of_ble_eq_true rfl⟩) ⟨fun a U g mk q => by obtain ⟨q0, qP, qK⟩ := q; exact ⟨q0, qP, va_K.moved (u := U) (U := U.calling g mk a) (Vm.Alike.refl U.vm) qK⟩, va_recv hK hPc (ci := 7) (q0 := 0) rfl rfl, fun U hU hW => ⟨rfl, by rw [hU]; exact hPc, va_K.moved hW.alike hK⟩⟩ rfl rfl hl.1 rfl (lv_room (Nat.le_of_ble_eq_true rfl)) dX11_breaksInCold_13 ⟨Nat.le_of_ble_eq_true rfl, Nat.le_of_ble_eq_true rfl⟩)) (fun rz18 gz17 => ?_)
    clear hPc
    have pz19 := gz17
    have pz19 : rz18.toInt = 0 ∨ rz18.toInt = 1 := pz19
    rw [hQ]
    exact W.zret (v := rz18) hx hb hr (zb_nar (by show rz18.toInt = 0 ∨ rz18.toInt = 1; omega)) (fun t ht hW => ⟨⟨rz18, (), rfl, (by show rz18.toInt = 0 ∨ rz18.toInt = 1; omega), vz3, az4, ez5, vz6, nz7, az8, hez5, hnz7, by rw [ht]; exact hP⟩, hS.F ht⟩) hS.2.2 dX11_breaksInCold_16
  · skip
    refine W.eq (g2 := F0 m 12 ls [.ref (sZ 3 0)]) rfl ?_
    refine lv_iload_n hx hb dX11_breaksInCold_12 rfl (lv_at hl 2 rfl) ?_
    have hPc := hP.sub (ws' := (List.flatten [(wState (sZ 3) k (vz6 3) (nz7 3) (az8 3))])) [36, 37, 38, 39, 40, 41, 42, 43, 44, 45, 46] rfl
    refine vp_callSi (va_Run.run (va_runV (As := [.int p2]) (rest := []) ⟨hx, hb, hml, hown, hts⟩ (c_X7_isBroken l dC dI k (sZ 3) (vz6 3) (nz7 3) (az8 3) p2 (hnz7 3)) (cwV 1 hts (gk_V (wl_mem 9 rfl) (wl_mem 10 rfl) (wl_mem 11 rfl) (wl_mem 12 rfl) (fun w h => List.mem_cons_of_mem _ (List.mem_append_right _ (List.mem_append_right _ (List.mem_append_right _ (List.mem_append_right _ (List.mem_append_left _ h)))))) wkg_c_X7_isBroken) rfl rfl rfl (by decide +kernel) ⟨Nat.le_of_ble_eq_true rfl, Nat.le_of_ble_eq_true rfl⟩) ⟨fun a U g mk q => by obtain ⟨q0, qP, qK⟩ := q; exact ⟨q0, qP, va_K.moved (u := U) (U := U.calling g mk a) (Vm.Alike.refl U.vm) qK⟩, va_recv hK hPc (ci := 7) (q0 := 0) rfl rfl, fun U hU hW => ⟨rfl, by rw [hU]; exact hPc, va_K.moved hW.alike hK⟩⟩ rfl rfl hl.1 rfl (lv_room (Nat.le_of_ble_eq_true rfl)) dX11_breaksInCold_13 ⟨Nat.le_of_ble_eq_true rfl, Nat.le_of_ble_eq_true rfl⟩)) (fun rz21 gz20 => ?_)
    clear hPc
    have pz22 := gz20
    have pz22 : rz21.toInt = 0 ∨ rz21.toInt = 1 := pz22
    rw [hQ]
    exact W.zret (v := rz21) hx hb hr (zb_nar (by show rz21.toInt = 0 ∨ rz21.toInt = 1; omega)) (fun t ht hW => ⟨⟨rz21, (), rfl, (by show rz21.toInt = 0 ∨ rz21.toInt = 1; omega), vz3, az4, ez5, vz6, nz7, az8, hez5, hnz7, by rw [ht]; exact hP⟩, hS.F ht⟩) hS.2.2 dX11_breaksInCold_16
  · skip
    refine W.eq (g2 := F0 m 12 ls [.ref (sZ 4 0)]) rfl ?_
    refine lv_iload_n hx hb dX11_breaksInCold_12 rfl (lv_at hl 2 rfl) ?_
    have hPc := hP.sub (ws' := (List.flatten [(wState (sZ 4) k (vz6 4) (nz7 4) (az8 4))])) [47, 48, 49, 50, 51, 52, 53, 54, 55, 56, 57] rfl
    refine vp_callSi (va_Run.run (va_runV (As := [.int p2]) (rest := []) ⟨hx, hb, hml, hown, hts⟩ (c_X7_isBroken l dC dI k (sZ 4) (vz6 4) (nz7 4) (az8 4) p2 (hnz7 4)) (cwV 1 hts (gk_V (wl_mem 9 rfl) (wl_mem 10 rfl) (wl_mem 11 rfl) (wl_mem 12 rfl) (fun w h => List.mem_cons_of_mem _ (List.mem_append_right _ (List.mem_append_right _ (List.mem_append_right _ (List.mem_append_right _ (List.mem_append_left _ h)))))) wkg_c_X7_isBroken) rfl rfl rfl (by decide +kernel) ⟨Nat.le_of_ble_eq_true rfl, Nat.le_of_ble_eq_true rfl⟩) ⟨fun a U g mk q => by obtain ⟨q0, qP, qK⟩ := q; exact ⟨q0, qP, va_K.moved (u := U) (U := U.calling g mk a) (Vm.Alike.refl U.vm) qK⟩, va_recv hK hPc (ci := 7) (q0 := 0) rfl rfl, fun U hU hW => ⟨rfl, by rw [hU]; exact hPc, va_K.moved hW.alike hK⟩⟩ rfl rfl hl.1 rfl (lv_room (Nat.le_of_ble_eq_true rfl)) dX11_breaksInCold_13 ⟨Nat.le_of_ble_eq_true rfl, Nat.le_of_ble_eq_true rfl⟩)) (fun rz24 gz23 => ?_)
    clear hPc
    have pz25 := gz23
    have pz25 : rz24.toInt = 0 ∨ rz24.toInt = 1 := pz25
    rw [hQ]
    exact W.zret (v := rz24) hx hb hr (zb_nar (by show rz24.toInt = 0 ∨ rz24.toInt = 1; omega)) (fun t ht hW => ⟨⟨rz24, (), rfl, (by show rz24.toInt = 0 ∨ rz24.toInt = 1; omega), vz3, az4, ez5, vz6, nz7, az8, hez5, hnz7, by rw [ht]; exact hP⟩, hS.F ht⟩) hS.2.2 dX11_breaksInCold_16
  · skip
    refine W.eq (g2 := F0 m 12 ls [.ref (sZ 5 0)]) rfl ?_
    refine lv_iload_n hx hb dX11_breaksInCold_12 rfl (lv_at hl 2 rfl) ?_
    have hPc := hP.sub (ws' := (List.flatten [(wState (sZ 5) k (vz6 5) (nz7 5) (az8 5))])) [58, 59, 60, 61, 62, 63, 64, 65, 66, 67, 68] rfl
    refine vp_callSi (va_Run.run (va_runV (As := [.int p2]) (rest := []) ⟨hx, hb, hml, hown, hts⟩ (c_X7_isBroken l dC dI k (sZ 5) (vz6 5) (nz7 5) (az8 5) p2 (hnz7 5)) (cwV 1 hts (gk_V (wl_mem 9 rfl) (wl_mem 10 rfl) (wl_mem 11 rfl) (wl_mem 12 rfl) (fun w h => List.mem_cons_of_mem _ (List.mem_append_right _ (List.mem_append_right _ (List.mem_append_right _ (List.mem_append_right _ (List.mem_append_left _ h)))))) wkg_c_X7_isBroken) rfl rfl rfl (by decide +kernel) ⟨Nat.le_of_ble_eq_true rfl, Nat.le_of_ble_eq_true rfl⟩) ⟨fun a U g mk q => by obtain ⟨q0, qP, qK⟩ := q; exact ⟨q0, qP, va_K.moved (u := U) (U := U.calling g mk a) (Vm.Alike.refl U.vm) qK⟩, va_recv hK hPc (ci := 7) (q0 := 0) rfl rfl, fun U hU hW => ⟨rfl, by rw [hU]; exact hPc, va_K.moved hW.alike hK⟩⟩ rfl rfl hl.1 rfl (lv_room (Nat.le_of_ble_eq_true rfl)) dX11_breaksInCold_13 ⟨Nat.le_of_ble_eq_true rfl, Nat.le_of_ble_eq_true rfl⟩)) (fun rz27 gz26 => ?_)
    clear hPc
    have pz28 := gz26
    have pz28 : rz27.toInt = 0 ∨ rz27.toInt = 1 := pz28
    rw [hQ]
    exact W.zret (v := rz27) hx hb hr (zb_nar (by show rz27.toInt = 0 ∨ rz27.toInt = 1; omega)) (fun t ht hW => ⟨⟨rz27, (), rfl, (by show rz27.toInt = 0 ∨ rz27.toInt = 1; omega), vz3, az4, ez5, vz6, nz7, az8, hez5, hnz7, by rw [ht]; exact hP⟩, hS.F ht⟩) hS.2.2 dX11_breaksInCold_16
  · skip
    refine W.eq (g2 := F0 m 12 ls [.ref (sZ 6 0)]) rfl ?_
    refine lv_iload_n hx hb dX11_breaksInCold_12 rfl (lv_at hl 2 rfl) ?_
    have hPc := hP.sub (ws' := (List.flatten [(wState (sZ 6) k (vz6 6) (nz7 6) (az8 6))])) [69, 70, 71, 72, 73, 74, 75, 76, 77, 78, 79] rfl
    refine vp_callSi (va_Run.run (va_runV (As := [.int p2]) (rest := []) ⟨hx, hb, hml, hown, hts⟩ (c_X7_isBroken l dC dI k (sZ 6) (vz6 6) (nz7 6) (az8 6) p2 (hnz7 6)) (cwV 1 hts (gk_V (wl_mem 9 rfl) (wl_mem 10 rfl) (wl_mem 11 rfl) (wl_mem 12 rfl) (fun w h => List.mem_cons_of_mem _ (List.mem_append_right _ (List.mem_append_right _ (List.mem_append_right _ (List.mem_append_right _ (List.mem_append_left _ h)))))) wkg_c_X7_isBroken) rfl rfl rfl (by decide +kernel) ⟨Nat.le_of_ble_eq_true rfl, Nat.le_of_ble_eq_true rfl⟩) ⟨fun a U g mk q => by obtain ⟨q0, qP, qK⟩ := q; exact ⟨q0, qP, va_K.moved (u := U) (U := U.calling g mk a) (Vm.Alike.refl U.vm) qK⟩, va_recv hK hPc (ci := 7) (q0 := 0) rfl rfl, fun U hU hW => ⟨rfl, by rw [hU]; exact hPc, va_K.moved hW.alike hK⟩⟩ rfl rfl hl.1 rfl (lv_room (Nat.le_of_ble_eq_true rfl)) dX11_breaksInCold_13 ⟨Nat.le_of_ble_eq_true rfl, Nat.le_of_ble_eq_true rfl⟩)) (fun rz30 gz29 => ?_)
    clear hPc
    have pz31 := gz29
    have pz31 : rz30.toInt = 0 ∨ rz30.toInt = 1 := pz31
    rw [hQ]
    exact W.zret (v := rz30) hx hb hr (zb_nar (by show rz30.toInt = 0 ∨ rz30.toInt = 1; omega)) (fun t ht hW => ⟨⟨rz30, (), rfl, (by show rz30.toInt = 0 ∨ rz30.toInt = 1; omega), vz3, az4, ez5, vz6, nz7, az8, hez5, hnz7, by rw [ht]; exact hP⟩, hS.F ht⟩) hS.2.2 dX11_breaksInCold_16
  · skip
    refine W.eq (g2 := F0 m 12 ls [.ref (sZ 7 0)]) rfl ?_
    refine lv_iload_n hx hb dX11_breaksInCold_12 rfl (lv_at hl 2 rfl) ?_
    have hPc := hP.sub (ws' := (List.flatten [(wState (sZ 7) k (vz6 7) (nz7 7) (az8 7))])) [80, 81, 82, 83, 84, 85, 86, 87, 88, 89, 90] rfl
    refine vp_callSi (va_Run.run (va_runV (As := [.int p2]) (rest := []) ⟨hx, hb, hml, hown, hts⟩ (c_X7_isBroken l dC dI k (sZ 7) (vz6 7) (nz7 7) (az8 7) p2 (hnz7 7)) (cwV 1 hts (gk_V (wl_mem 9 rfl) (wl_mem 10 rfl) (wl_mem 11 rfl) (wl_mem 12 rfl) (fun w h => List.mem_cons_of_mem _ (List.mem_append_right _ (List.mem_append_right _ (List.mem_append_right _ (List.mem_append_right _ (List.mem_append_left _ h)))))) wkg_c_X7_isBroken) rfl rfl rfl (by decide +kernel) ⟨Nat.le_of_ble_eq_true rfl, Nat.le_of_ble_eq_true rfl⟩) ⟨fun a U g mk q => by obtain ⟨q0, qP, qK⟩ := q; exact ⟨q0, qP, va_K.moved (u := U) (U := U.calling g mk a) (Vm.Alike.refl U.vm) qK⟩, va_recv hK hPc (ci := 7) (q0 := 0) rfl rfl, fun U hU hW => ⟨rfl, by rw [hU]; exact hPc, va_K.moved hW.alike hK⟩⟩ rfl rfl hl.1 rfl (lv_room (Nat.le_of_ble_eq_true rfl)) dX11_breaksInCold_13 ⟨Nat.le_of_ble_eq_true rfl, Nat.le_of_ble_eq_true rfl⟩)) (fun rz33 gz32 => ?_)
    clear hPc
    have pz34 := gz32
    have pz34 : rz33.toInt = 0 ∨ rz33.toInt = 1 := pz34
    rw [hQ]
    exact W.zret (v := rz33) hx hb hr (zb_nar (by show rz33.toInt = 0 ∨ rz33.toInt = 1; omega)) (fun t ht hW => ⟨⟨rz33, (), rfl, (by show rz33.toInt = 0 ∨ rz33.toInt = 1; omega), vz3, az4, ez5, vz6, nz7, az8, hez5, hnz7, by rw [ht]; exact hP⟩, hS.F ht⟩) hS.2.2 dX11_breaksInCold_16
def wk_c_X11_tryLaw : List Cond := .code yX11_tryLaw cX11_tryLaw 2 none :: ([.fieldLink RX11 37 "SagMemory" "trial" "LSagMemory$Plan;", .fieldLink RX11 33 "SagMemory" "now" "LSagMemory$Plan;", .methodLink RX11 425 yX3_take, .instanceMethod yX3_take, .selects RX3 yX3_take yX3_take, .initialized RX3, .fieldLink RX11 435 "SagMemory$Plan" "law" "I", .fieldLink RX11 49 "SagMemory" "attempt" "LSagMemory$Story;", .methodLink RX11 412 yX8_tell, .instanceMethod yX8_tell, .selects RX8 yX8_tell yX8_tell, .initialized RX8] ++ (wsX110 ++ (wk_c_X3_take ++ (wsX30 ++ (wk_c_X8_tell ++ [])))))
theorem wkg_c_X11_tryLaw : wk_c_X11_tryLaw.all goodWord = true := by decide +kernel
set_option maxHeartbeats 4000000 in
set_option maxRecDepth 100000 in
theorem c_X11_tryLaw (l : Launch) (dC : Nat → ClassId) (dI : Nat → Nat → Nat) (k : Nat → ClassId) (sz : Nat) (qX : Nat → Nat) (tapeX : Nat) (actsX : Nat) (storyX : Nat) (orderSearchX : Nat) (routeSearchX : Nat) (setSearchX : Nat) (probeX : Nat) (slot0X : Nat) (slot1X : Nat) (slot2X : Nat) (slot3X : Nat) (image0X : Nat) (image1X : Nat) (image2X : Nat) (aX : Nat → Nat → Int32) (qV : Nat → Nat) (vV : Nat → Int32) (bV : Nat → Int32) (cV : Nat → Int32) (wV : Nat → Int32) (aV : Nat → Nat → Int32) (eV : Nat → Nat → Int32) (qN : Nat → Nat) (vN : Nat → Int32) (aN : Nat → Nat → Int32) (eN : Nat → Nat → Int32) (qP : Nat → Nat) (vP : Nat → Int32) (aP : Nat → Nat → Int32) (eP : Nat → Nat → Int32) (qZ : Nat → Nat) (sZ : Nat → Nat → Nat) (vZ : Nat → Nat → Int32) (nZ : Nat → Nat → Int32) (aZ : Nat → Nat → Nat → Int32) (p1 : Int32) (hbV : Rg 0 3 bV) (hcV : Rg 0 7 cV) (hwV : Rg 0 5 wV) (heV : RgA 0 99 eV) (heN : RgA 0 99 eN) (heP : RgA 0 99 eP) (hnZ : ∀ t9, Rg 0 8 (nZ t9)) : Met l yX11_tryLaw wk_c_X11_tryLaw ({ frames := 4, cells := 0, slots := 0, locals := 152 }) (va_Pc [.ref (qX 0), .int p1] (fun U => U.heap.size = sz ∧ va_P (dC, dI) vwCl (List.flatten [(wPlan qP k vP aP eP), (wState (sZ 0) k (vZ 0) (nZ 0) (aZ 0)), (wState (sZ 1) k (vZ 1) (nZ 1) (aZ 1)), (wState (sZ 2) k (vZ 2) (nZ 2) (aZ 2)), (wState (sZ 3) k (vZ 3) (nZ 3) (aZ 3)), (wState (sZ 4) k (vZ 4) (nZ 4) (aZ 4)), (wState (sZ 5) k (vZ 5) (nZ 5) (aZ 5)), (wState (sZ 6) k (vZ 6) (nZ 6) (aZ 6)), (wState (sZ 7) k (vZ 7) (nZ 7) (aZ 7))] ++ List.flatten [(wSag qX k tapeX (qV 0) actsX (qN 0) (qP 0) storyX (qZ 0) orderSearchX routeSearchX setSearchX probeX slot0X slot1X slot2X slot3X image0X image1X image2X aX), (wValley qV k vV bV cV wV aV eV), (wPlan qN k vN aN eN), (wStoO qZ k (qV 0) (qP 0) (sZ 0 0) (sZ 1 0) (sZ 2 0) (sZ 3 0) (sZ 4 0) (sZ 5 0) (sZ 6 0) (sZ 7 0))]) U.heap ∧ va_K (dC, dI) vwCl (tK k) U ∧ va_D (fun _ => True) (List.flatten [(wPlan qP k vP aP eP), (wState (sZ 0) k (vZ 0) (nZ 0) (aZ 0)), (wState (sZ 1) k (vZ 1) (nZ 1) (aZ 1)), (wState (sZ 2) k (vZ 2) (nZ 2) (aZ 2)), (wState (sZ 3) k (vZ 3) (nZ 3) (aZ 3)), (wState (sZ 4) k (vZ 4) (nZ 4) (aZ 4)), (wState (sZ 5) k (vZ 5) (nZ 5) (aZ 5)), (wState (sZ 6) k (vZ 6) (nZ 6) (aZ 6)), (wState (sZ 7) k (vZ 7) (nZ 7) (aZ 7))] ++ List.flatten [(wSag qX k tapeX (qV 0) actsX (qN 0) (qP 0) storyX (qZ 0) orderSearchX routeSearchX setSearchX probeX slot0X slot1X slot2X slot3X image0X image1X image2X aX), (wValley qV k vV bV cV wV aV eV), (wPlan qN k vN aN eN), (wStoO qZ k (qV 0) (qP 0) (sZ 0 0) (sZ 1 0) (sZ 2 0) (sZ 3 0) (sZ 4 0) (sZ 5 0) (sZ 6 0) (sZ 7 0))]))) (va_Qv (fun _ : Unit => True) (fun (_ : Unit) (t : State) => ∃ (vP' : Nat → Int32) (aP' : Nat → Nat → Int32) (eP' : Nat → Nat → Int32) (vZ' : Nat → Nat → Int32) (nZ' : Nat → Nat → Int32) (aZ' : Nat → Nat → Nat → Int32), RgA 0 99 eP' ∧ (∀ t9, Rg 0 8 (nZ' t9)) ∧ va_P (dC, dI) vwCl (List.flatten [(wPlan qP k vP' aP' eP'), (wState (sZ 0) k (vZ' 0) (nZ' 0) (aZ' 0)), (wState (sZ 1) k (vZ' 1) (nZ' 1) (aZ' 1)), (wState (sZ 2) k (vZ' 2) (nZ' 2) (aZ' 2)), (wState (sZ 3) k (vZ' 3) (nZ' 3) (aZ' 3)), (wState (sZ 4) k (vZ' 4) (nZ' 4) (aZ' 4)), (wState (sZ 5) k (vZ' 5) (nZ' 5) (aZ' 5)), (wState (sZ 6) k (vZ' 6) (nZ' 6) (aZ' 6)), (wState (sZ 7) k (vZ' 7) (nZ' 7) (aZ' 7))] ++ List.flatten [(wSag qX k tapeX (qV 0) actsX (qN 0) (qP 0) storyX (qZ 0) orderSearchX routeSearchX setSearchX probeX slot0X slot1X slot2X slot3X image0X image1X image2X aX), (wValley qV k vV bV cV wV aV eV), (wPlan qN k vN aN eN), (wStoO qZ k (qV 0) (qP 0) (sZ 0 0) (sZ 1 0) (sZ 2 0) (sZ 3 0) (sZ 4 0) (sZ 5 0) (sZ 6 0) (sZ 7 0))]) t.heap) (va_A (List.flatten [(wPlan qP k vP aP eP), (wState (sZ 0) k (vZ 0) (nZ 0) (aZ 0)), (wState (sZ 1) k (vZ 1) (nZ 1) (aZ 1)), (wState (sZ 2) k (vZ 2) (nZ 2) (aZ 2)), (wState (sZ 3) k (vZ 3) (nZ 3) (aZ 3)), (wState (sZ 4) k (vZ 4) (nZ 4) (aZ 4)), (wState (sZ 5) k (vZ 5) (nZ 5) (aZ 5)), (wState (sZ 6) k (vZ 6) (nZ 6) (aZ 6)), (wState (sZ 7) k (vZ 7) (nZ 7) (aZ 7))] ++ List.flatten [(wSag qX k tapeX (qV 0) actsX (qN 0) (qP 0) storyX (qZ 0) orderSearchX routeSearchX setSearchX probeX slot0X slot1X slot2X slot3X image0X image1X image2X aX), (wValley qV k vV bV cV wV aV eV), (wPlan qN k vN aN eN), (wStoO qZ k (qV 0) (qP 0) (sZ 0 0) (sZ 1 0) (sZ 2 0) (sZ 3 0) (sZ 4 0) (sZ 5 0) (sZ 6 0) (sZ 7 0))]) sz)) 0 0 (va_A (List.flatten [(wPlan qP k vP aP eP), (wState (sZ 0) k (vZ 0) (nZ 0) (aZ 0)), (wState (sZ 1) k (vZ 1) (nZ 1) (aZ 1)), (wState (sZ 2) k (vZ 2) (nZ 2) (aZ 2)), (wState (sZ 3) k (vZ 3) (nZ 3) (aZ 3)), (wState (sZ 4) k (vZ 4) (nZ 4) (aZ 4)), (wState (sZ 5) k (vZ 5) (nZ 5) (aZ 5)), (wState (sZ 6) k (vZ 6) (nZ 6) (aZ 6)), (wState (sZ 7) k (vZ 7) (nZ 7) (aZ 7))] ++ List.flatten [(wSag qX k tapeX (qV 0) actsX (qN 0) (qP 0) storyX (qZ 0) orderSearchX routeSearchX setSearchX probeX slot0X slot1X slot2X slot3X image0X image1X image2X aX), (wValley qV k vV bV cV wV aV eV), (wPlan qN k vN aN eN), (wStoO qZ k (qV 0) (qP 0) (sZ 0 0) (sZ 1 0) (sZ 2 0) (sZ 3 0) (sZ 4 0) (sZ 5 0) (sZ 6 0) (sZ 7 0))]) sz) := by
  refine Met.ofW (cc := cX11_tryLaw) (maxL := 2) (ret := none) (by decide) rfl ?_
  intro p e s m args below meth c s₁ B hml hv
  obtain ⟨rfl, hsz, hP, hK, hD0⟩ := hv
  have hx := B.exec
  have hb := B.bytes
  have hr := B.returns
  have hts := atoms_spec (ws := wk_c_X11_tryLaw) B.pre
  have hown : s.vm.findClass RX11 = some m.cls := findClass_of_methodNamed B.named
  have hlocks := B.notSynchronized
  subst hsz
  have hD := hD0.self (sz := s.heap.size)
  generalize hAe : va_A (List.flatten [(wPlan qP k vP aP eP), (wState (sZ 0) k (vZ 0) (nZ 0) (aZ 0)), (wState (sZ 1) k (vZ 1) (nZ 1) (aZ 1)), (wState (sZ 2) k (vZ 2) (nZ 2) (aZ 2)), (wState (sZ 3) k (vZ 3) (nZ 3) (aZ 3)), (wState (sZ 4) k (vZ 4) (nZ 4) (aZ 4)), (wState (sZ 5) k (vZ 5) (nZ 5) (aZ 5)), (wState (sZ 6) k (vZ 6) (nZ 6) (aZ 6)), (wState (sZ 7) k (vZ 7) (nZ 7) (aZ 7))] ++ List.flatten [(wSag qX k tapeX (qV 0) actsX (qN 0) (qP 0) storyX (qZ 0) orderSearchX routeSearchX setSearchX probeX slot0X slot1X slot2X slot3X image0X image1X image2X aX), (wValley qV k vV bV cV wV aV eV), (wPlan qN k vN aN eN), (wStoO qZ k (qV 0) (qP 0) (sZ 0 0) (sZ 1 0) (sZ 2 0) (sZ 3 0) (sZ 4 0) (sZ 5 0) (sZ 6 0) (sZ 7 0))]) s.heap.size = A at hD ⊢
  have hA : ∀ q : Nat, s.heap.size ≤ q → A q := fun q h => by rw [← hAe]; exact Or.inr h
  have hS : va_S A s.heap s.heap [] := va_S.rf
  have hP : va_P (dC, dI) vwCl (List.flatten [(wPlan qP k vP aP eP), (wState (sZ 0) k (vZ 0) (nZ 0) (aZ 0)), (wState (sZ 1) k (vZ 1) (nZ 1) (aZ 1)), (wState (sZ 2) k (vZ 2) (nZ 2) (aZ 2)), (wState (sZ 3) k (vZ 3) (nZ 3) (aZ 3)), (wState (sZ 4) k (vZ 4) (nZ 4) (aZ 4)), (wState (sZ 5) k (vZ 5) (nZ 5) (aZ 5)), (wState (sZ 6) k (vZ 6) (nZ 6) (aZ 6)), (wState (sZ 7) k (vZ 7) (nZ 7) (aZ 7))] ++ List.flatten [(wSag qX k tapeX (qV 0) actsX (qN 0) (qP 0) storyX (qZ 0) orderSearchX routeSearchX setSearchX probeX slot0X slot1X slot2X slot3X image0X image1X image2X aX), (wValley qV k vV bV cV wV aV eV), (wPlan qN k vN aN eN), (wStoO qZ k (qV 0) (qP 0) (sZ 0 0) (sZ 1 0) (sZ 2 0) (sZ 3 0) (sZ 4 0) (sZ 5 0) (sZ 6 0) (sZ 7 0))]) s.heap := hP
  have hl := lv_entry ([.ref (qX 0), .int p1]) (n := 2) (Nat.le_of_ble_eq_true rfl)
  rw [lg_entry_eq]
  generalize (lg_sl ([.ref (qX 0), .int p1]) ++ List.replicate (2 - (lg_sl ([.ref (qX 0), .int p1])).length) Slot.unset).toArray = ls at hl ⊢
  have hl : lv_has ls 2 [(0, .ref (qX 0)), (1, .int p1)] := hl
  refine w_gen (fun Q hQ => ?_)
  refine lv_aload_n hx hb dX11_tryLaw_0 rfl (lv_at hl 0 rfl) ?_
  refine va_get (D := (dC, dI)) (ci := 11) (v := .ref (qP 0)) (C := RX11) (T := TX11) (N := 15) hx hb hts (fun w h => List.mem_cons_of_mem _ (List.mem_append_right _ (List.mem_append_left _ h))) hown hK hP 91 rfl rfl 4 (by decide) (hts (.fieldLink RX11 37 "SagMemory" "trial" "LSagMemory$Plan;") (wl_mem 0 rfl)) (fun _ h9 => h9) rfl dX11_tryLaw_1 ?_
  refine lv_aload_n hx hb dX11_tryLaw_4 rfl (lv_at hl 0 rfl) ?_
  refine va_get (D := (dC, dI)) (ci := 11) (v := .ref (qN 0)) (C := RX11) (T := TX11) (N := 15) hx hb hts (fun w h => List.mem_cons_of_mem _ (List.mem_append_right _ (List.mem_append_left _ h))) hown hK hP 91 rfl rfl 3 (by decide) (hts (.fieldLink RX11 33 "SagMemory" "now" "LSagMemory$Plan;") (wl_mem 1 rfl)) (fun _ h9 => h9) rfl dX11_tryLaw_5 ?_
  have hPc := hP.sub (ws' := (List.flatten [(wPlan qP k vP aP eP)] ++ List.flatten [(wPlan qN k vN aN eN)])) [0, 1, 2, 104, 105, 106] rfl
  have hC : [0, 1, 2, 104, 105, 106].map (fun i => (List.flatten [(wPlan qP k vP aP eP), (wState (sZ 0) k (vZ 0) (nZ 0) (aZ 0)), (wState (sZ 1) k (vZ 1) (nZ 1) (aZ 1)), (wState (sZ 2) k (vZ 2) (nZ 2) (aZ 2)), (wState (sZ 3) k (vZ 3) (nZ 3) (aZ 3)), (wState (sZ 4) k (vZ 4) (nZ 4) (aZ 4)), (wState (sZ 5) k (vZ 5) (nZ 5) (aZ 5)), (wState (sZ 6) k (vZ 6) (nZ 6) (aZ 6)), (wState (sZ 7) k (vZ 7) (nZ 7) (aZ 7))] ++ List.flatten [(wSag qX k tapeX (qV 0) actsX (qN 0) (qP 0) storyX (qZ 0) orderSearchX routeSearchX setSearchX probeX slot0X slot1X slot2X slot3X image0X image1X image2X aX), (wValley qV k vV bV cV wV aV eV), (wPlan qN k vN aN eN), (wStoO qZ k (qV 0) (qP 0) (sZ 0 0) (sZ 1 0) (sZ 2 0) (sZ 3 0) (sZ 4 0) (sZ 5 0) (sZ 6 0) (sZ 7 0))])[i]?) = (List.flatten [(wPlan qP k vP aP eP)] ++ List.flatten [(wPlan qN k vN aN eN)]).map some := rfl
  have hDc := hD.sub [0, 1, 2, 104, 105, 106] (by decide) hC
  have hFc := va_free hD hS hA [0, 1, 2, 104, 105, 106] hC
  refine va_callv (va_runV (As := [.ref (qN 0)]) (rest := []) ⟨hx, hb, hml, hown, hts⟩ (c_X3_take l dC dI k s.heap.size qP vP aP eP qN vN aN eN heP heN) (cwV 1 hts (gk_V (wl_mem 2 rfl) (wl_mem 3 rfl) (wl_mem 4 rfl) (wl_mem 5 rfl) (fun w h => List.mem_cons_of_mem _ (List.mem_append_right _ (List.mem_append_right _ (List.mem_append_left _ h)))) wkg_c_X3_take) rfl rfl rfl (by decide +kernel) ⟨Nat.le_of_ble_eq_true rfl, Nat.le_of_ble_eq_true rfl⟩) ⟨fun a U g mk q => by obtain ⟨q0, q1, qP, qK, qD⟩ := q; exact ⟨q0, q1, qP, va_K.moved (u := U) (U := U.calling g mk a) (Vm.Alike.refl U.vm) qK, qD⟩, va_recv hK hPc (ci := 3) (q0 := 0) rfl rfl, fun U hU hW => ⟨rfl, by rw [hU], by rw [hU]; exact hPc, va_K.moved hW.alike hK, hDc.weaken (fun _ _ _ _ => trivial)⟩⟩ rfl rfl hl.1 rfl (lv_room (Nat.le_of_ble_eq_true rfl)) dX11_tryLaw_8 ⟨Nat.le_of_ble_eq_true rfl, Nat.le_of_ble_eq_true rfl⟩) hS (fun q _ h => hFc q h) hFc (fun u t H1 locs ht hvm gz1 hB hz1 hk1 hS => ?_)
  obtain ⟨vz3, az4, ez5, hez5, hP1⟩ := hB
  rw [ht] at hP1
  obtain ⟨hP, hD⟩ := w_callR hP hD hk1 hP1 [0] rfl rfl (wk_memC [11] rfl) rfl [some 0, none, none, none, none, none, none, none, none] rfl rfl
  clear hPc hC hDc hFc hk1 hP1
  generalize H1 = H at hP hS ⊢
  have hP : va_P (dC, dI) vwCl (List.flatten [(wPlan qP k vz3 az4 ez5), (wState (sZ 0) k (vZ 0) (nZ 0) (aZ 0)), (wState (sZ 1) k (vZ 1) (nZ 1) (aZ 1)), (wState (sZ 2) k (vZ 2) (nZ 2) (aZ 2)), (wState (sZ 3) k (vZ 3) (nZ 3) (aZ 3)), (wState (sZ 4) k (vZ 4) (nZ 4) (aZ 4)), (wState (sZ 5) k (vZ 5) (nZ 5) (aZ 5)), (wState (sZ 6) k (vZ 6) (nZ 6) (aZ 6)), (wState (sZ 7) k (vZ 7) (nZ 7) (aZ 7))] ++ List.flatten [(wSag qX k tapeX (qV 0) actsX (qN 0) (qP 0) storyX (qZ 0) orderSearchX routeSearchX setSearchX probeX slot0X slot1X slot2X slot3X image0X image1X image2X aX), (wValley qV k vV bV cV wV aV eV), (wPlan qN k vN aN eN), (wStoO qZ k (qV 0) (qP 0) (sZ 0 0) (sZ 1 0) (sZ 2 0) (sZ 3 0) (sZ 4 0) (sZ 5 0) (sZ 6 0) (sZ 7 0))]) H := hP
  have hD : va_D A (List.flatten [(wPlan qP k vz3 az4 ez5), (wState (sZ 0) k (vZ 0) (nZ 0) (aZ 0)), (wState (sZ 1) k (vZ 1) (nZ 1) (aZ 1)), (wState (sZ 2) k (vZ 2) (nZ 2) (aZ 2)), (wState (sZ 3) k (vZ 3) (nZ 3) (aZ 3)), (wState (sZ 4) k (vZ 4) (nZ 4) (aZ 4)), (wState (sZ 5) k (vZ 5) (nZ 5) (aZ 5)), (wState (sZ 6) k (vZ 6) (nZ 6) (aZ 6)), (wState (sZ 7) k (vZ 7) (nZ 7) (aZ 7))] ++ List.flatten [(wSag qX k tapeX (qV 0) actsX (qN 0) (qP 0) storyX (qZ 0) orderSearchX routeSearchX setSearchX probeX slot0X slot1X slot2X slot3X image0X image1X image2X aX), (wValley qV k vV bV cV wV aV eV), (wPlan qN k vN aN eN), (wStoO qZ k (qV 0) (qP 0) (sZ 0 0) (sZ 1 0) (sZ 2 0) (sZ 3 0) (sZ 4 0) (sZ 5 0) (sZ 6 0) (sZ 7 0))]) := hD
  refine W.widen (k := 0) (n := 0) (Nat.le_refl 0) (Nat.le_refl 0) ?_
  refine lv_aload_n hx hb dX11_tryLaw_11 rfl (lv_at hl 0 rfl) ?_
  refine va_get (D := (dC, dI)) (ci := 11) (v := .ref (qP 0)) (C := RX11) (T := TX11) (N := 15) hx hb hts (fun w h => List.mem_cons_of_mem _ (List.mem_append_right _ (List.mem_append_left _ h))) hown hK hP 91 rfl rfl 4 (by decide) (hts (.fieldLink RX11 37 "SagMemory" "trial" "LSagMemory$Plan;") (wl_mem 0 rfl)) (fun _ h9 => h9) rfl dX11_tryLaw_12 ?_
  refine lv_iload_n hx hb dX11_tryLaw_15 rfl (lv_at hl 1 rfl) ?_
  refine va_put (D := (dC, dI)) (ci := 3) (v := .int p1) (ty := .int) (C := RX3) (T := TX3) (N := 4) hx hb hts (fun w h => List.mem_cons_of_mem _ (List.mem_append_right _ (List.mem_append_right _ (List.mem_append_right _ (List.mem_append_left _ h))))) tyX3 tyX3_ok nmX3 hown hK hP hD hS 0 rfl rfl 2 (by decide) (hts (.fieldLink RX11 435 "SagMemory$Plan" "law" "I") (wl_mem 6 rfl)) (fun _ h9 => h9) rfl (by decide +kernel) rfl rfl (Nat.le_of_ble_eq_true rfl) dX11_tryLaw_16 (fun H locs hP hD hS => ?_)
  have hP : va_P (dC, dI) vwCl (List.flatten [(wPlan qP k (va_up vz3 0 p1) az4 ez5), (wState (sZ 0) k (vZ 0) (nZ 0) (aZ 0)), (wState (sZ 1) k (vZ 1) (nZ 1) (aZ 1)), (wState (sZ 2) k (vZ 2) (nZ 2) (aZ 2)), (wState (sZ 3) k (vZ 3) (nZ 3) (aZ 3)), (wState (sZ 4) k (vZ 4) (nZ 4) (aZ 4)), (wState (sZ 5) k (vZ 5) (nZ 5) (aZ 5)), (wState (sZ 6) k (vZ 6) (nZ 6) (aZ 6)), (wState (sZ 7) k (vZ 7) (nZ 7) (aZ 7))] ++ List.flatten [(wSag qX k tapeX (qV 0) actsX (qN 0) (qP 0) storyX (qZ 0) orderSearchX routeSearchX setSearchX probeX slot0X slot1X slot2X slot3X image0X image1X image2X aX), (wValley qV k vV bV cV wV aV eV), (wPlan qN k vN aN eN), (wStoO qZ k (qV 0) (qP 0) (sZ 0 0) (sZ 1 0) (sZ 2 0) (sZ 3 0) (sZ 4 0) (sZ 5 0) (sZ 6 0) (sZ 7 0))]) H := hP
  have hD : va_D A (List.flatten [(wPlan qP k (va_up vz3 0 p1) az4 ez5), (wState (sZ 0) k (vZ 0) (nZ 0) (aZ 0)), (wState (sZ 1) k (vZ 1) (nZ 1) (aZ 1)), (wState (sZ 2) k (vZ 2) (nZ 2) (aZ 2)), (wState (sZ 3) k (vZ 3) (nZ 3) (aZ 3)), (wState (sZ 4) k (vZ 4) (nZ 4) (aZ 4)), (wState (sZ 5) k (vZ 5) (nZ 5) (aZ 5)), (wState (sZ 6) k (vZ 6) (nZ 6) (aZ 6)), (wState (sZ 7) k (vZ 7) (nZ 7) (aZ 7))] ++ List.flatten [(wSag qX k tapeX (qV 0) actsX (qN 0) (qP 0) storyX (qZ 0) orderSearchX routeSearchX setSearchX probeX slot0X slot1X slot2X slot3X image0X image1X image2X aX), (wValley qV k vV bV cV wV aV eV), (wPlan qN k vN aN eN), (wStoO qZ k (qV 0) (qP 0) (sZ 0 0) (sZ 1 0) (sZ 2 0) (sZ 3 0) (sZ 4 0) (sZ 5 0) (sZ 6 0) (sZ 7 0))]) := hD
  refine lv_aload_n hx hb dX11_tryLaw_19 rfl (lv_at hl 0 rfl) ?_
  refine va_get (D := (dC, dI)) (ci := 11) (v := .ref (qZ 0)) (C := RX11) (T := TX11) (N := 15) hx hb hts (fun w h => List.mem_cons_of_mem _ (List.mem_append_right _ (List.mem_append_left _ h))) hown hK hP 91 rfl rfl 6 (by decide) (hts (.fieldLink RX11 49 "SagMemory" "attempt" "LSagMemory$Story;") (wl_mem 7 rfl)) (fun _ h9 => h9) rfl dX11_tryLaw_20 ?_
  have hPc : va_P (dC, dI) vwCl (List.flatten [(wState (sZ 0) k (vZ 0) (nZ 0) (aZ 0)), (wState (sZ 1) k (vZ 1) (nZ 1) (aZ 1)), (wState (sZ 2) k (vZ 2) (nZ 2) (aZ 2)), (wState (sZ 3) k (vZ 3) (nZ 3) (aZ 3)), (wState (sZ 4) k (vZ 4) (nZ 4) (aZ 4)), (wState (sZ 5) k (vZ 5) (nZ 5) (aZ 5)), (wState (sZ 6) k (vZ 6) (nZ 6) (aZ 6)), (wState (sZ 7) k (vZ 7) (nZ 7) (aZ 7))] ++ List.flatten [(wStoO qZ k (qV 0) (qP 0) (sZ 0 0) (sZ 1 0) (sZ 2 0) (sZ 3 0) (sZ 4 0) (sZ 5 0) (sZ 6 0) (sZ 7 0)), (wValley qV k vV bV cV wV aV eV), (wPlan qP k (va_up vz3 0 p1) az4 ez5)]) H := wc_subP hP [1, 2, 3, 4, 5, 6, 7, 8, 12, 10, 0] rfl
  have hDc : va_D A (List.flatten [(wState (sZ 0) k (vZ 0) (nZ 0) (aZ 0)), (wState (sZ 1) k (vZ 1) (nZ 1) (aZ 1)), (wState (sZ 2) k (vZ 2) (nZ 2) (aZ 2)), (wState (sZ 3) k (vZ 3) (nZ 3) (aZ 3)), (wState (sZ 4) k (vZ 4) (nZ 4) (aZ 4)), (wState (sZ 5) k (vZ 5) (nZ 5) (aZ 5)), (wState (sZ 6) k (vZ 6) (nZ 6) (aZ 6)), (wState (sZ 7) k (vZ 7) (nZ 7) (aZ 7))] ++ List.flatten [(wStoO qZ k (qV 0) (qP 0) (sZ 0 0) (sZ 1 0) (sZ 2 0) (sZ 3 0) (sZ 4 0) (sZ 5 0) (sZ 6 0) (sZ 7 0)), (wValley qV k vV bV cV wV aV eV), (wPlan qP k (va_up vz3 0 p1) az4 ez5)]) := wc_subD hD [1, 2, 3, 4, 5, 6, 7, 8, 12, 10, 0] rfl rfl
  have hFc := wc_free hDc hS hA
  refine va_callv (va_runV (As := []) (rest := []) ⟨hx, hb, hml, hown, hts⟩ (c_X8_tell l dC dI k H.size qZ sZ vZ nZ aZ qV vV bV cV wV aV eV qP (va_up vz3 0 p1) az4 ez5 hnZ hbV hcV hwV heV hez5) (cwV 0 hts (gk_V (wl_mem 8 rfl) (wl_mem 9 rfl) (wl_mem 10 rfl) (wl_mem 11 rfl) (fun w h => List.mem_cons_of_mem _ (List.mem_append_right _ (List.mem_append_right _ (List.mem_append_right _ (List.mem_append_right _ (List.mem_append_left _ h)))))) wkg_c_X8_tell) rfl rfl rfl (by decide +kernel) ⟨Nat.le_of_ble_eq_true rfl, Nat.le_of_ble_eq_true rfl⟩) ⟨fun a U g mk q => by obtain ⟨q0, q1, qP, qK, qD⟩ := q; exact ⟨q0, q1, qP, va_K.moved (u := U) (U := U.calling g mk a) (Vm.Alike.refl U.vm) qK, qD⟩, va_recv hK hPc (ci := 8) (q0 := 88) rfl rfl, fun U hU hW => ⟨rfl, by rw [hU], by rw [hU]; exact hPc, va_K.moved hW.alike hK, hDc.weaken (fun _ _ _ _ => trivial)⟩⟩ rfl rfl hl.1 rfl (lv_room (Nat.le_of_ble_eq_true rfl)) dX11_tryLaw_23 ⟨Nat.le_of_ble_eq_true rfl, Nat.le_of_ble_eq_true rfl⟩) hS (fun q _ h => hFc q h) hFc (fun u t H1 locs ht hvm gz6 hB hz1 hk1 hS => ?_)
  obtain ⟨vz8, nz9, az10, hnz9, hP1⟩ := hB
  rw [ht] at hP1
  obtain ⟨hP, hD⟩ := w_callR hP hD hk1 hP1 [1, 2, 3, 4, 5, 6, 7, 8] rfl rfl (wk_memC [12, 10, 0] rfl) rfl [none, some 0, some 1, some 2, some 3, some 4, some 5, some 6, some 7] rfl rfl
  clear hPc hDc hFc hk1 hP1
  generalize H1 = H at hP hS ⊢
  have hP : va_P (dC, dI) vwCl (List.flatten [(wPlan qP k (va_up vz3 0 p1) az4 ez5), (wState (sZ 0) k (vz8 0) (nz9 0) (az10 0)), (wState (sZ 1) k (vz8 1) (nz9 1) (az10 1)), (wState (sZ 2) k (vz8 2) (nz9 2) (az10 2)), (wState (sZ 3) k (vz8 3) (nz9 3) (az10 3)), (wState (sZ 4) k (vz8 4) (nz9 4) (az10 4)), (wState (sZ 5) k (vz8 5) (nz9 5) (az10 5)), (wState (sZ 6) k (vz8 6) (nz9 6) (az10 6)), (wState (sZ 7) k (vz8 7) (nz9 7) (az10 7))] ++ List.flatten [(wSag qX k tapeX (qV 0) actsX (qN 0) (qP 0) storyX (qZ 0) orderSearchX routeSearchX setSearchX probeX slot0X slot1X slot2X slot3X image0X image1X image2X aX), (wValley qV k vV bV cV wV aV eV), (wPlan qN k vN aN eN), (wStoO qZ k (qV 0) (qP 0) (sZ 0 0) (sZ 1 0) (sZ 2 0) (sZ 3 0) (sZ 4 0) (sZ 5 0) (sZ 6 0) (sZ 7 0))]) H := hP
  have hD : va_D A (List.flatten [(wPlan qP k (va_up vz3 0 p1) az4 ez5), (wState (sZ 0) k (vz8 0) (nz9 0) (az10 0)), (wState (sZ 1) k (vz8 1) (nz9 1) (az10 1)), (wState (sZ 2) k (vz8 2) (nz9 2) (az10 2)), (wState (sZ 3) k (vz8 3) (nz9 3) (az10 3)), (wState (sZ 4) k (vz8 4) (nz9 4) (az10 4)), (wState (sZ 5) k (vz8 5) (nz9 5) (az10 5)), (wState (sZ 6) k (vz8 6) (nz9 6) (az10 6)), (wState (sZ 7) k (vz8 7) (nz9 7) (az10 7))] ++ List.flatten [(wSag qX k tapeX (qV 0) actsX (qN 0) (qP 0) storyX (qZ 0) orderSearchX routeSearchX setSearchX probeX slot0X slot1X slot2X slot3X image0X image1X image2X aX), (wValley qV k vV bV cV wV aV eV), (wPlan qN k vN aN eN), (wStoO qZ k (qV 0) (qP 0) (sZ 0 0) (sZ 1 0) (sZ 2 0) (sZ 3 0) (sZ 4 0) (sZ 5 0) (sZ 6 0) (sZ 7 0))]) := hD
  refine W.widen (k := 0) (n := 0) (Nat.le_refl 0) (Nat.le_refl 0) ?_
  rw [hQ]
  exact W.vret hx hb hr (fun t ht hW => ⟨⟨(), rfl, trivial, (va_up vz3 0 p1), az4, ez5, vz8, nz9, az10, hez5, hnz9, by rw [ht]; exact hP⟩, hS.F ht⟩) hS.2.2 dX11_tryLaw_26
def wk_c_X11_seekSets : List Cond := .code yX11_seekSets cX11_seekSets 3 (some .int) :: ([.methodLink RX11 380 yX11_hasSlot, .static yX11_hasSlot, .initialized RX11, .fieldLink RX11 19 "SagMemory" "told" "LSagMemory$Valley;", .methodLink RX11 131 yX10_hasBridge, .instanceMethod yX10_hasBridge, .selects RX10 yX10_hasBridge yX10_hasBridge, .initialized RX10, .fieldLink RX11 85 "SagMemory" "slots" "[LSagMemory$Slot;", .fieldLink RX11 386 "SagMemory$Slot" "has" "Z", .fieldLink RX11 65 "SagMemory" "setSearch" "LSagMemory$Sets;", .fieldLink RX11 72 "SagMemory" "probe" "LSagMemory$Memory;", .methodLink RX11 436 yX5_seek, .instanceMethod yX5_seek, .selects RX5 yX5_seek yX5_seek, .initialized RX5] ++ (wk_c_X11_hasSlot ++ (wsX110 ++ (wk_c_X10_hasBridge ++ (wsX60 ++ (wk_c_X5_seek ++ []))))))
theorem wkg_c_X11_seekSets : wk_c_X11_seekSets.all goodWord = true := by decide +kernel
set_option maxHeartbeats 4000000 in
set_option maxRecDepth 100000 in
theorem c_X11_seekSets (l : Launch) (dC : Nat → ClassId) (dI : Nat → Nat → Nat) (k : Nat → ClassId) (sz : Nat) (qX : Nat → Nat) (tapeX : Nat) (actsX : Nat) (nowX : Nat) (trialX : Nat) (storyX : Nat) (attemptX : Nat) (orderSearchX : Nat) (routeSearchX : Nat) (image0X : Nat) (image1X : Nat) (image2X : Nat) (aX : Nat → Nat → Int32) (qV : Nat → Nat) (vV : Nat → Int32) (bV : Nat → Int32) (cV : Nat → Int32) (wV : Nat → Int32) (aV : Nat → Nat → Int32) (eV : Nat → Nat → Int32) (qE : Nat → Nat) (vE : Nat → Int32) (cE : Nat → Int32) (aE : Nat → Nat → Int32) (qM : Nat → Nat) (nM : Nat → Int32) (aM : Nat → Nat → Int32) (qL0 : Nat → Nat) (vL0 : Nat → Int32) (sL0 : Nat → Int32) (lL0 : Nat → Nat → Int64) (qL1 : Nat → Nat) (vL1 : Nat → Int32) (sL1 : Nat → Int32) (lL1 : Nat → Nat → Int64) (qL2 : Nat → Nat) (vL2 : Nat → Int32) (sL2 : Nat → Int32) (lL2 : Nat → Nat → Int64) (qL3 : Nat → Nat) (vL3 : Nat → Int32) (sL3 : Nat → Int32) (lL3 : Nat → Nat → Int64) (p1 : Int32) (p2 : Int32) (hbV : Rg 0 3 bV) (hcV : Rg 0 7 cV) (hwV : Rg 0 5 wV) (heV : RgA 0 99 eV) (hcE : Rg 0 7 cE) (hnM : Rg 0 8 nM) (hsL0 : Rg 0 60 sL0) (hsL1 : Rg 0 60 sL1) (hsL2 : Rg 0 60 sL2) (hsL3 : Rg 0 60 sL3) : Met l yX11_seekSets wk_c_X11_seekSets ({ frames := 3, cells := 0, slots := 0, locals := 69 }) (va_Pc [.ref (qX 0), .int p1, .int p2] (fun U => U.heap.size = sz ∧ va_P (dC, dI) vwCl (List.flatten [(wSets qE k vE cE aE), (wMem qM k nM aM)] ++ List.flatten [(wSag qX k tapeX (qV 0) actsX nowX trialX storyX attemptX orderSearchX routeSearchX (qE 0) (qM 0) (qL0 0) (qL1 0) (qL2 0) (qL3 0) image0X image1X image2X aX), (wValley qV k vV bV cV wV aV eV), (wSlot qL0 k vL0 sL0 lL0), (wSlot qL1 k vL1 sL1 lL1), (wSlot qL2 k vL2 sL2 lL2), (wSlot qL3 k vL3 sL3 lL3)]) U.heap ∧ va_K (dC, dI) vwCl (tK k) U ∧ va_D (fun _ => True) (List.flatten [(wSets qE k vE cE aE), (wMem qM k nM aM)] ++ List.flatten [(wSag qX k tapeX (qV 0) actsX nowX trialX storyX attemptX orderSearchX routeSearchX (qE 0) (qM 0) (qL0 0) (qL1 0) (qL2 0) (qL3 0) image0X image1X image2X aX), (wValley qV k vV bV cV wV aV eV), (wSlot qL0 k vL0 sL0 lL0), (wSlot qL1 k vL1 sL1 lL1), (wSlot qL2 k vL2 sL2 lL2), (wSlot qL3 k vL3 sL3 lL3)]))) (va_Qi (fun (r : Int32) (_ : Unit) => True) (fun (_ : Unit) (t : State) => ∃ (vE' : Nat → Int32) (cE' : Nat → Int32) (aE' : Nat → Nat → Int32) (nM' : Nat → Int32) (aM' : Nat → Nat → Int32), Rg 0 7 cE' ∧ Rg 0 8 nM' ∧ va_P (dC, dI) vwCl (List.flatten [(wSets qE k vE' cE' aE'), (wMem qM k nM' aM')] ++ List.flatten [(wSag qX k tapeX (qV 0) actsX nowX trialX storyX attemptX orderSearchX routeSearchX (qE 0) (qM 0) (qL0 0) (qL1 0) (qL2 0) (qL3 0) image0X image1X image2X aX), (wValley qV k vV bV cV wV aV eV), (wSlot qL0 k vL0 sL0 lL0), (wSlot qL1 k vL1 sL1 lL1), (wSlot qL2 k vL2 sL2 lL2), (wSlot qL3 k vL3 sL3 lL3)]) t.heap) (va_A (List.flatten [(wSets qE k vE cE aE), (wMem qM k nM aM)] ++ List.flatten [(wSag qX k tapeX (qV 0) actsX nowX trialX storyX attemptX orderSearchX routeSearchX (qE 0) (qM 0) (qL0 0) (qL1 0) (qL2 0) (qL3 0) image0X image1X image2X aX), (wValley qV k vV bV cV wV aV eV), (wSlot qL0 k vL0 sL0 lL0), (wSlot qL1 k vL1 sL1 lL1), (wSlot qL2 k vL2 sL2 lL2), (wSlot qL3 k vL3 sL3 lL3)]) sz)) 0 0 (va_A (List.flatten [(wSets qE k vE cE aE), (wMem qM k nM aM)] ++ List.flatten [(wSag qX k tapeX (qV 0) actsX nowX trialX storyX attemptX orderSearchX routeSearchX (qE 0) (qM 0) (qL0 0) (qL1 0) (qL2 0) (qL3 0) image0X image1X image2X aX), (wValley qV k vV bV cV wV aV eV), (wSlot qL0 k vL0 sL0 lL0), (wSlot qL1 k vL1 sL1 lL1), (wSlot qL2 k vL2 sL2 lL2), (wSlot qL3 k vL3 sL3 lL3)]) sz) := by
  refine Met.ofW (cc := cX11_seekSets) (maxL := 3) (ret := (some .int)) (by decide) rfl ?_
  intro p e s m args below meth c s₁ B hml hv
  obtain ⟨rfl, hsz, hP, hK, hD0⟩ := hv
  have hx := B.exec
  have hb := B.bytes
  have hr := B.returns
  have hts := atoms_spec (ws := wk_c_X11_seekSets) B.pre
  have hown : s.vm.findClass RX11 = some m.cls := findClass_of_methodNamed B.named
  have hlocks := B.notSynchronized
  subst hsz
  have hD := hD0.self (sz := s.heap.size)
  generalize hAe : va_A (List.flatten [(wSets qE k vE cE aE), (wMem qM k nM aM)] ++ List.flatten [(wSag qX k tapeX (qV 0) actsX nowX trialX storyX attemptX orderSearchX routeSearchX (qE 0) (qM 0) (qL0 0) (qL1 0) (qL2 0) (qL3 0) image0X image1X image2X aX), (wValley qV k vV bV cV wV aV eV), (wSlot qL0 k vL0 sL0 lL0), (wSlot qL1 k vL1 sL1 lL1), (wSlot qL2 k vL2 sL2 lL2), (wSlot qL3 k vL3 sL3 lL3)]) s.heap.size = A at hD ⊢
  have hA : ∀ q : Nat, s.heap.size ≤ q → A q := fun q h => by rw [← hAe]; exact Or.inr h
  have hS : va_S A s.heap s.heap [] := va_S.rf
  have hP : va_P (dC, dI) vwCl (List.flatten [(wSets qE k vE cE aE), (wMem qM k nM aM)] ++ List.flatten [(wSag qX k tapeX (qV 0) actsX nowX trialX storyX attemptX orderSearchX routeSearchX (qE 0) (qM 0) (qL0 0) (qL1 0) (qL2 0) (qL3 0) image0X image1X image2X aX), (wValley qV k vV bV cV wV aV eV), (wSlot qL0 k vL0 sL0 lL0), (wSlot qL1 k vL1 sL1 lL1), (wSlot qL2 k vL2 sL2 lL2), (wSlot qL3 k vL3 sL3 lL3)]) s.heap := hP
  have hl := lv_entry ([.ref (qX 0), .int p1, .int p2]) (n := 3) (Nat.le_of_ble_eq_true rfl)
  rw [lg_entry_eq]
  generalize (lg_sl ([.ref (qX 0), .int p1, .int p2]) ++ List.replicate (3 - (lg_sl ([.ref (qX 0), .int p1, .int p2])).length) Slot.unset).toArray = ls at hl ⊢
  have hl : lv_has ls 3 [(0, .ref (qX 0)), (1, .int p1), (2, .int p2)] := hl
  refine w_gen (fun Q hQ => ?_)
  refine lv_iload_n hx hb dX11_seekSets_0 rfl (lv_at hl 1 rfl) ?_
  have hPc : va_P (dC, dI) vwCl (List.flatten ([] : List va_W)) s.heap := fun k q h => by simp at h
  refine vp_callSi (va_Run.run (va_runS (As := [.int p1]) (rest := []) ⟨hx, hb, hml, hown, hts⟩ (c_X11_hasSlot l dC dI k p1) (va_cwS 1 hts (gk_S (wl_mem 0 rfl) (wl_mem 1 rfl) (wl_mem 2 rfl) (fun w h => List.mem_cons_of_mem _ (List.mem_append_right _ (List.mem_append_left _ h))) wkg_c_X11_hasSlot) rfl rfl rfl (by decide +kernel) ⟨Nat.le_of_ble_eq_true rfl, Nat.le_of_ble_eq_true rfl⟩) ⟨fun a U g mk q => by obtain ⟨q0, qP, qK⟩ := q; exact ⟨q0, qP, va_K.moved (u := U) (U := U.calling g mk a) (Vm.Alike.refl U.vm) qK⟩, fun U hU hW => ⟨rfl, by rw [hU]; exact hPc, va_K.moved hW.alike hK⟩⟩ rfl rfl hl.1 rfl (lv_room (Nat.le_of_ble_eq_true rfl)) dX11_seekSets_1 ⟨Nat.le_of_ble_eq_true rfl, Nat.le_of_ble_eq_true rfl⟩)) (fun rz2 gz1 => ?_)
  clear hPc
  rcases gz1 with ⟨er, cz3⟩ | ⟨er, cz4, cz5⟩ | ⟨er, cz6, cz7⟩
  · obtain rfl := er.symm
    have bz8 := fb_rng p1
    have zz9 : p1.toInt < (0 : Int) := zi_lt.mp cz3
    refine lv_if_eq (tgt := 18) hx hb dX11_seekSets_4 (by decide) (fun cz10 => ?_) (fun cz10 => ?_)
    · skip
      refine lv_bipush (v := (-2)) hx hb dX11_seekSets_18 (by decide) ?_
      rw [hQ]
      exact W.iret (v := (-2 : Int32)) hx hb hr (fun t ht hW => ⟨⟨(-2 : Int32), (), rfl, trivial, vE, cE, aE, nM, aM, hcE, hnM, by rw [ht]; exact hP⟩, hS.F ht⟩) hS.2.2 dX11_seekSets_20
    · skip
      exact absurd cz10 (by decide)
  · obtain rfl := er.symm
    have bz11 := fb_rng p1
    have zz12 : ¬ p1.toInt < (0 : Int) := fun h9 => cz4 (zi_lt.mpr h9)
    have zz13 : (4 : Int) ≤ p1.toInt := zi_le.mp cz5
    refine lv_if_eq (tgt := 18) hx hb dX11_seekSets_4 (by decide) (fun cz14 => ?_) (fun cz14 => ?_)
    · skip
      refine lv_bipush (v := (-2)) hx hb dX11_seekSets_18 (by decide) ?_
      rw [hQ]
      exact W.iret (v := (-2 : Int32)) hx hb hr (fun t ht hW => ⟨⟨(-2 : Int32), (), rfl, trivial, vE, cE, aE, nM, aM, hcE, hnM, by rw [ht]; exact hP⟩, hS.F ht⟩) hS.2.2 dX11_seekSets_20
    · skip
      exact absurd cz14 (by decide)
  · obtain rfl := er.symm
    have bz15 := fb_rng p1
    have zz16 : ¬ p1.toInt < (0 : Int) := fun h9 => cz6 (zi_lt.mpr h9)
    have zz17 : ¬ (4 : Int) ≤ p1.toInt := fun h9 => cz7 (zi_le.mpr h9)
    refine lv_if_eq (tgt := 18) hx hb dX11_seekSets_4 (by decide) (fun cz18 => ?_) (fun cz18 => ?_)
    · skip
      exact absurd cz18 (by decide)
    · skip
      refine lv_aload_n hx hb dX11_seekSets_7 rfl (lv_at hl 0 rfl) ?_
      refine va_get (D := (dC, dI)) (ci := 11) (v := .ref (qV 0)) (C := RX11) (T := TX11) (N := 15) hx hb hts (fun w h => List.mem_cons_of_mem _ (List.mem_append_right _ (List.mem_append_right _ (List.mem_append_left _ h)))) hown hK hP 5 rfl rfl 1 (by decide) (hts (.fieldLink RX11 19 "SagMemory" "told" "LSagMemory$Valley;") (wl_mem 3 rfl)) (fun _ h9 => h9) rfl dX11_seekSets_8 ?_
      refine lv_iload_n hx hb dX11_seekSets_11 rfl (lv_at hl 2 rfl) ?_
      have hPc := hP.sub (ws' := (List.flatten [(wValley qV k vV bV cV wV aV eV)])) [10, 11, 12, 13, 14, 15, 16, 17] rfl
      refine vp_callSi (va_Run.run (va_runV (As := [.int p2]) (rest := []) ⟨hx, hb, hml, hown, hts⟩ (c_X10_hasBridge l dC dI k qV vV bV cV wV aV eV p2 hbV hcV hwV heV) (cwV 1 hts (gk_V (wl_mem 4 rfl) (wl_mem 5 rfl) (wl_mem 6 rfl) (wl_mem 7 rfl) (fun w h => List.mem_cons_of_mem _ (List.mem_append_right _ (List.mem_append_right _ (List.mem_append_right _ (List.mem_append_left _ h))))) wkg_c_X10_hasBridge) rfl rfl rfl (by decide +kernel) ⟨Nat.le_of_ble_eq_true rfl, Nat.le_of_ble_eq_true rfl⟩) ⟨fun a U g mk q => by obtain ⟨q0, qP, qK⟩ := q; exact ⟨q0, qP, va_K.moved (u := U) (U := U.calling g mk a) (Vm.Alike.refl U.vm) qK⟩, va_recv hK hPc (ci := 10) (q0 := 0) rfl rfl, fun U hU hW => ⟨rfl, by rw [hU]; exact hPc, va_K.moved hW.alike hK⟩⟩ rfl rfl hl.1 rfl (lv_room (Nat.le_of_ble_eq_true rfl)) dX11_seekSets_12 ⟨Nat.le_of_ble_eq_true rfl, Nat.le_of_ble_eq_true rfl⟩)) (fun rz20 gz19 => ?_)
      clear hPc
      rcases gz19 with ⟨er, cz21⟩ | ⟨er, cz22, cz23⟩ | ⟨er, cz24, cz25⟩
      · obtain rfl := er.symm
        have bz26 := fb_rng p2
        have zz27 : p2.toInt < (0 : Int) := zi_lt.mp cz21
        refine lv_if_ne (tgt := 21) hx hb dX11_seekSets_15 (by decide) (fun cz28 => ?_) (fun cz28 => ?_)
        · skip
          exact absurd cz28 (by decide)
        · skip
          refine lv_bipush (v := (-2)) hx hb dX11_seekSets_18 (by decide) ?_
          rw [hQ]
          exact W.iret (v := (-2 : Int32)) hx hb hr (fun t ht hW => ⟨⟨(-2 : Int32), (), rfl, trivial, vE, cE, aE, nM, aM, hcE, hnM, by rw [ht]; exact hP⟩, hS.F ht⟩) hS.2.2 dX11_seekSets_20
      · obtain rfl := er.symm
        have bz29 := fb_rng p2
        have zz30 : ¬ p2.toInt < (0 : Int) := fun h9 => cz22 (zi_lt.mpr h9)
        have bz31 := hbV 0
        have zz32 : (bV 0).toInt ≤ p2.toInt := zi_le.mp cz23
        refine lv_if_ne (tgt := 21) hx hb dX11_seekSets_15 (by decide) (fun cz33 => ?_) (fun cz33 => ?_)
        · skip
          exact absurd cz33 (by decide)
        · skip
          refine lv_bipush (v := (-2)) hx hb dX11_seekSets_18 (by decide) ?_
          rw [hQ]
          exact W.iret (v := (-2 : Int32)) hx hb hr (fun t ht hW => ⟨⟨(-2 : Int32), (), rfl, trivial, vE, cE, aE, nM, aM, hcE, hnM, by rw [ht]; exact hP⟩, hS.F ht⟩) hS.2.2 dX11_seekSets_20
      · obtain rfl := er.symm
        have bz34 := fb_rng p2
        have zz35 : ¬ p2.toInt < (0 : Int) := fun h9 => cz24 (zi_lt.mpr h9)
        have bz36 := hbV 0
        have zz37 : ¬ (bV 0).toInt ≤ p2.toInt := fun h9 => cz25 (zi_le.mpr h9)
        refine lv_if_ne (tgt := 21) hx hb dX11_seekSets_15 (by decide) (fun cz38 => ?_) (fun cz38 => ?_)
        · skip
          refine lv_aload_n hx hb dX11_seekSets_21 rfl (lv_at hl 0 rfl) ?_
          refine va_get (D := (dC, dI)) (ci := 11) (v := .ref (qX 3)) (C := RX11) (T := TX11) (N := 15) hx hb hts (fun w h => List.mem_cons_of_mem _ (List.mem_append_right _ (List.mem_append_right _ (List.mem_append_left _ h)))) hown hK hP 5 rfl rfl 13 (by decide) (hts (.fieldLink RX11 85 "SagMemory" "slots" "[LSagMemory$Slot;") (wl_mem 8 rfl)) (fun _ h9 => h9) rfl dX11_seekSets_22 ?_
          refine lv_iload_n hx hb dX11_seekSets_25 rfl (lv_at hl 1 rfl) ?_
          rcases (show p1 = 0 ∨ p1 = 1 ∨ p1 = 2 ∨ p1 = 3 by simp only [zi_eq]; show p1.toInt = 0 ∨ p1.toInt = 1 ∨ p1.toInt = 2 ∨ p1.toInt = 3; omega) with cz39 | cz39 | cz39 | cz39
          · skip
            have zz40 : p1.toInt = (0 : Int) := zi_eq.mp cz39
            refine W.eq (g2 := F0 m 26 ls [.int 0, .ref (qX 3)]) (by rw [cz39]) ?_
            refine va_aldq hx hb hK hP 8 6 rfl rfl (by unfold vp_in; decide) dX11_seekSets_26 ?_
            refine W.eq (g2 := F0 m 27 ls [.ref (qL0 0)]) rfl ?_
            refine va_get (D := (dC, dI)) (ci := 6) (v := .int (vL0 0)) (C := RX6) (T := TX6) (N := 4) hx hb hts (fun w h => List.mem_cons_of_mem _ (List.mem_append_right _ (List.mem_append_right _ (List.mem_append_right _ (List.mem_append_right _ (List.mem_append_left _ h)))))) hown hK hP 18 rfl rfl 1 (by decide) (hts (.fieldLink RX11 386 "SagMemory$Slot" "has" "Z") (wl_mem 9 rfl)) (fun _ h9 => h9) rfl dX11_seekSets_27 ?_
            refine lv_if_ne (tgt := 36) hx hb dX11_seekSets_30 (by decide) (fun cz41 => ?_) (fun cz41 => ?_)
            · skip
              have zz42 : ¬ (vL0 0).toInt = (0 : Int) := fun h9 => cz41 (zi_eq.mpr h9)
              refine lv_aload_n hx hb dX11_seekSets_36 rfl (lv_at hl 0 rfl) ?_
              refine va_get (D := (dC, dI)) (ci := 11) (v := .ref (qE 0)) (C := RX11) (T := TX11) (N := 15) hx hb hts (fun w h => List.mem_cons_of_mem _ (List.mem_append_right _ (List.mem_append_right _ (List.mem_append_left _ h)))) hown hK hP 5 rfl rfl 9 (by decide) (hts (.fieldLink RX11 65 "SagMemory" "setSearch" "LSagMemory$Sets;") (wl_mem 10 rfl)) (fun _ h9 => h9) rfl dX11_seekSets_37 ?_
              refine lv_aload_n hx hb dX11_seekSets_40 rfl (lv_at hl 0 rfl) ?_
              refine va_get (D := (dC, dI)) (ci := 11) (v := .ref (qV 0)) (C := RX11) (T := TX11) (N := 15) hx hb hts (fun w h => List.mem_cons_of_mem _ (List.mem_append_right _ (List.mem_append_right _ (List.mem_append_left _ h)))) hown hK hP 5 rfl rfl 1 (by decide) (hts (.fieldLink RX11 19 "SagMemory" "told" "LSagMemory$Valley;") (wl_mem 3 rfl)) (fun _ h9 => h9) rfl dX11_seekSets_41 ?_
              refine lv_iload_n hx hb dX11_seekSets_44 rfl (lv_at hl 2 rfl) ?_
              refine lv_aload_n hx hb dX11_seekSets_45 rfl (lv_at hl 0 rfl) ?_
              refine va_get (D := (dC, dI)) (ci := 11) (v := .ref (qX 3)) (C := RX11) (T := TX11) (N := 15) hx hb hts (fun w h => List.mem_cons_of_mem _ (List.mem_append_right _ (List.mem_append_right _ (List.mem_append_left _ h)))) hown hK hP 5 rfl rfl 13 (by decide) (hts (.fieldLink RX11 85 "SagMemory" "slots" "[LSagMemory$Slot;") (wl_mem 8 rfl)) (fun _ h9 => h9) rfl dX11_seekSets_46 ?_
              refine lv_iload_n hx hb dX11_seekSets_49 rfl (lv_at hl 1 rfl) ?_
              rcases (show p1 = 0 by simp only [zi_eq]; show p1.toInt = 0; omega) with cz43
              · skip
                have zz44 : p1.toInt = (0 : Int) := zi_eq.mp cz43
                refine W.eq (g2 := F0 m 50 ls [.int 0, .ref (qX 3), .int p2, .ref (qV 0), .ref (qE 0)]) (by rw [cz43]) ?_
                refine va_aldq hx hb hK hP 8 6 rfl rfl (by unfold vp_in; decide) dX11_seekSets_50 ?_
                refine W.eq (g2 := F0 m 51 ls [.ref (qL0 0), .int p2, .ref (qV 0), .ref (qE 0)]) rfl ?_
                refine lv_aload_n hx hb dX11_seekSets_51 rfl (lv_at hl 0 rfl) ?_
                refine va_get (D := (dC, dI)) (ci := 11) (v := .ref (qM 0)) (C := RX11) (T := TX11) (N := 15) hx hb hts (fun w h => List.mem_cons_of_mem _ (List.mem_append_right _ (List.mem_append_right _ (List.mem_append_left _ h)))) hown hK hP 5 rfl rfl 10 (by decide) (hts (.fieldLink RX11 72 "SagMemory" "probe" "LSagMemory$Memory;") (wl_mem 11 rfl)) (fun _ h9 => h9) rfl dX11_seekSets_52 ?_
                have hPc := hP.sub (ws' := (List.flatten [(wSets qE k vE cE aE), (wMem qM k nM aM)] ++ List.flatten [(wValley qV k vV bV cV wV aV eV), (wSlot qL0 k vL0 sL0 lL0)])) [0, 1, 2, 3, 4, 10, 11, 12, 13, 14, 15, 16, 17, 18, 19] rfl
                have hC : [0, 1, 2, 3, 4, 10, 11, 12, 13, 14, 15, 16, 17, 18, 19].map (fun i => (List.flatten [(wSets qE k vE cE aE), (wMem qM k nM aM)] ++ List.flatten [(wSag qX k tapeX (qV 0) actsX nowX trialX storyX attemptX orderSearchX routeSearchX (qE 0) (qM 0) (qL0 0) (qL1 0) (qL2 0) (qL3 0) image0X image1X image2X aX), (wValley qV k vV bV cV wV aV eV), (wSlot qL0 k vL0 sL0 lL0), (wSlot qL1 k vL1 sL1 lL1), (wSlot qL2 k vL2 sL2 lL2), (wSlot qL3 k vL3 sL3 lL3)])[i]?) = (List.flatten [(wSets qE k vE cE aE), (wMem qM k nM aM)] ++ List.flatten [(wValley qV k vV bV cV wV aV eV), (wSlot qL0 k vL0 sL0 lL0)]).map some := rfl
                have hDc := hD.sub [0, 1, 2, 3, 4, 10, 11, 12, 13, 14, 15, 16, 17, 18, 19] (by decide) hC
                have hFc := va_free hD hS hA [0, 1, 2, 3, 4, 10, 11, 12, 13, 14, 15, 16, 17, 18, 19] hC
                refine va_callv (va_runV (As := [.ref (qV 0), .int p2, .ref (qL0 0), .ref (qM 0)]) (rest := []) ⟨hx, hb, hml, hown, hts⟩ (c_X5_seek l dC dI k s.heap.size qE vE cE aE qV vV bV cV wV aV eV qL0 vL0 sL0 lL0 qM nM aM p2 hcE hbV hcV hwV heV hsL0 hnM) (cwV 4 hts (gk_V (wl_mem 12 rfl) (wl_mem 13 rfl) (wl_mem 14 rfl) (wl_mem 15 rfl) (fun w h => List.mem_cons_of_mem _ (List.mem_append_right _ (List.mem_append_right _ (List.mem_append_right _ (List.mem_append_right _ (List.mem_append_right _ (List.mem_append_left _ h))))))) wkg_c_X5_seek) rfl rfl rfl (by decide +kernel) ⟨Nat.le_of_ble_eq_true rfl, Nat.le_of_ble_eq_true rfl⟩) ⟨fun a U g mk q => by obtain ⟨q0, q1, qP, qK, qD⟩ := q; exact ⟨q0, q1, qP, va_K.moved (u := U) (U := U.calling g mk a) (Vm.Alike.refl U.vm) qK, qD⟩, va_recv hK hPc (ci := 5) (q0 := 0) rfl rfl, fun U hU hW => ⟨rfl, by rw [hU], by rw [hU]; exact hPc, va_K.moved hW.alike hK, hDc.weaken (fun _ _ _ _ => trivial)⟩⟩ rfl rfl hl.1 rfl (lv_room (Nat.le_of_ble_eq_true rfl)) dX11_seekSets_55 ⟨Nat.le_of_ble_eq_true rfl, Nat.le_of_ble_eq_true rfl⟩) hS (fun q _ h => hFc q h) hFc (fun u t H1 locs ht hvm gz45 hB hz1 hk1 hS => ?_)
                obtain ⟨vz47, cz48, az49, nz50, az51, hcz48, hnz50, hP1⟩ := hB
                rw [ht] at hP1
                obtain ⟨hP, hD⟩ := w_callR hP hD hk1 hP1 [0, 1] rfl rfl (wk_memC [3, 4] rfl) rfl [some 0, some 1] rfl rfl
                clear hPc hC hDc hFc hk1 hP1
                generalize H1 = H at hP hS ⊢
                have hP : va_P (dC, dI) vwCl (List.flatten [(wSets qE k vz47 cz48 az49), (wMem qM k nz50 az51)] ++ List.flatten [(wSag qX k tapeX (qV 0) actsX nowX trialX storyX attemptX orderSearchX routeSearchX (qE 0) (qM 0) (qL0 0) (qL1 0) (qL2 0) (qL3 0) image0X image1X image2X aX), (wValley qV k vV bV cV wV aV eV), (wSlot qL0 k vL0 sL0 lL0), (wSlot qL1 k vL1 sL1 lL1), (wSlot qL2 k vL2 sL2 lL2), (wSlot qL3 k vL3 sL3 lL3)]) H := hP
                have hD : va_D A (List.flatten [(wSets qE k vz47 cz48 az49), (wMem qM k nz50 az51)] ++ List.flatten [(wSag qX k tapeX (qV 0) actsX nowX trialX storyX attemptX orderSearchX routeSearchX (qE 0) (qM 0) (qL0 0) (qL1 0) (qL2 0) (qL3 0) image0X image1X image2X aX), (wValley qV k vV bV cV wV aV eV), (wSlot qL0 k vL0 sL0 lL0), (wSlot qL1 k vL1 sL1 lL1), (wSlot qL2 k vL2 sL2 lL2), (wSlot qL3 k vL3 sL3 lL3)]) := hD
                refine W.widen (k := 0) (n := 0) (Nat.le_refl 0) (Nat.le_refl 0) ?_
                refine lv_iconst (v := 0) hx hb dX11_seekSets_58 (by decide) ?_
                rw [hQ]
                exact W.iret (v := (0 : Int32)) hx hb hr (fun t ht hW => ⟨⟨(0 : Int32), (), rfl, trivial, vz47, cz48, az49, nz50, az51, hcz48, hnz50, by rw [ht]; exact hP⟩, hS.F ht⟩) hS.2.2 dX11_seekSets_59
            · skip
              have zz52 : (vL0 0).toInt = (0 : Int) := zi_eq.mp cz41
              refine lv_bipush (v := (-6)) hx hb dX11_seekSets_33 (by decide) ?_
              rw [hQ]
              exact W.iret (v := (-6 : Int32)) hx hb hr (fun t ht hW => ⟨⟨(-6 : Int32), (), rfl, trivial, vE, cE, aE, nM, aM, hcE, hnM, by rw [ht]; exact hP⟩, hS.F ht⟩) hS.2.2 dX11_seekSets_35
          · skip
            have zz53 : p1.toInt = (1 : Int) := zi_eq.mp cz39
            refine W.eq (g2 := F0 m 26 ls [.int 1, .ref (qX 3)]) (by rw [cz39]) ?_
            refine va_aldq hx hb hK hP 8 6 rfl rfl (by unfold vp_in; decide) dX11_seekSets_26 ?_
            refine W.eq (g2 := F0 m 27 ls [.ref (qL1 0)]) rfl ?_
            refine va_get (D := (dC, dI)) (ci := 6) (v := .int (vL1 0)) (C := RX6) (T := TX6) (N := 4) hx hb hts (fun w h => List.mem_cons_of_mem _ (List.mem_append_right _ (List.mem_append_right _ (List.mem_append_right _ (List.mem_append_right _ (List.mem_append_left _ h)))))) hown hK hP 20 rfl rfl 1 (by decide) (hts (.fieldLink RX11 386 "SagMemory$Slot" "has" "Z") (wl_mem 9 rfl)) (fun _ h9 => h9) rfl dX11_seekSets_27 ?_
            refine lv_if_ne (tgt := 36) hx hb dX11_seekSets_30 (by decide) (fun cz54 => ?_) (fun cz54 => ?_)
            · skip
              have zz55 : ¬ (vL1 0).toInt = (0 : Int) := fun h9 => cz54 (zi_eq.mpr h9)
              refine lv_aload_n hx hb dX11_seekSets_36 rfl (lv_at hl 0 rfl) ?_
              refine va_get (D := (dC, dI)) (ci := 11) (v := .ref (qE 0)) (C := RX11) (T := TX11) (N := 15) hx hb hts (fun w h => List.mem_cons_of_mem _ (List.mem_append_right _ (List.mem_append_right _ (List.mem_append_left _ h)))) hown hK hP 5 rfl rfl 9 (by decide) (hts (.fieldLink RX11 65 "SagMemory" "setSearch" "LSagMemory$Sets;") (wl_mem 10 rfl)) (fun _ h9 => h9) rfl dX11_seekSets_37 ?_
              refine lv_aload_n hx hb dX11_seekSets_40 rfl (lv_at hl 0 rfl) ?_
              refine va_get (D := (dC, dI)) (ci := 11) (v := .ref (qV 0)) (C := RX11) (T := TX11) (N := 15) hx hb hts (fun w h => List.mem_cons_of_mem _ (List.mem_append_right _ (List.mem_append_right _ (List.mem_append_left _ h)))) hown hK hP 5 rfl rfl 1 (by decide) (hts (.fieldLink RX11 19 "SagMemory" "told" "LSagMemory$Valley;") (wl_mem 3 rfl)) (fun _ h9 => h9) rfl dX11_seekSets_41 ?_
              refine lv_iload_n hx hb dX11_seekSets_44 rfl (lv_at hl 2 rfl) ?_
              refine lv_aload_n hx hb dX11_seekSets_45 rfl (lv_at hl 0 rfl) ?_
              refine va_get (D := (dC, dI)) (ci := 11) (v := .ref (qX 3)) (C := RX11) (T := TX11) (N := 15) hx hb hts (fun w h => List.mem_cons_of_mem _ (List.mem_append_right _ (List.mem_append_right _ (List.mem_append_left _ h)))) hown hK hP 5 rfl rfl 13 (by decide) (hts (.fieldLink RX11 85 "SagMemory" "slots" "[LSagMemory$Slot;") (wl_mem 8 rfl)) (fun _ h9 => h9) rfl dX11_seekSets_46 ?_
              refine lv_iload_n hx hb dX11_seekSets_49 rfl (lv_at hl 1 rfl) ?_
              rcases (show p1 = 1 by simp only [zi_eq]; show p1.toInt = 1; omega) with cz56
              · skip
                have zz57 : p1.toInt = (1 : Int) := zi_eq.mp cz56
                refine W.eq (g2 := F0 m 50 ls [.int 1, .ref (qX 3), .int p2, .ref (qV 0), .ref (qE 0)]) (by rw [cz56]) ?_
                refine va_aldq hx hb hK hP 8 6 rfl rfl (by unfold vp_in; decide) dX11_seekSets_50 ?_
                refine W.eq (g2 := F0 m 51 ls [.ref (qL1 0), .int p2, .ref (qV 0), .ref (qE 0)]) rfl ?_
                refine lv_aload_n hx hb dX11_seekSets_51 rfl (lv_at hl 0 rfl) ?_
                refine va_get (D := (dC, dI)) (ci := 11) (v := .ref (qM 0)) (C := RX11) (T := TX11) (N := 15) hx hb hts (fun w h => List.mem_cons_of_mem _ (List.mem_append_right _ (List.mem_append_right _ (List.mem_append_left _ h)))) hown hK hP 5 rfl rfl 10 (by decide) (hts (.fieldLink RX11 72 "SagMemory" "probe" "LSagMemory$Memory;") (wl_mem 11 rfl)) (fun _ h9 => h9) rfl dX11_seekSets_52 ?_
                have hPc := hP.sub (ws' := (List.flatten [(wSets qE k vE cE aE), (wMem qM k nM aM)] ++ List.flatten [(wValley qV k vV bV cV wV aV eV), (wSlot qL1 k vL1 sL1 lL1)])) [0, 1, 2, 3, 4, 10, 11, 12, 13, 14, 15, 16, 17, 20, 21] rfl
                have hC : [0, 1, 2, 3, 4, 10, 11, 12, 13, 14, 15, 16, 17, 20, 21].map (fun i => (List.flatten [(wSets qE k vE cE aE), (wMem qM k nM aM)] ++ List.flatten [(wSag qX k tapeX (qV 0) actsX nowX trialX storyX attemptX orderSearchX routeSearchX (qE 0) (qM 0) (qL0 0) (qL1 0) (qL2 0) (qL3 0) image0X image1X image2X aX), (wValley qV k vV bV cV wV aV eV), (wSlot qL0 k vL0 sL0 lL0), (wSlot qL1 k vL1 sL1 lL1), (wSlot qL2 k vL2 sL2 lL2), (wSlot qL3 k vL3 sL3 lL3)])[i]?) = (List.flatten [(wSets qE k vE cE aE), (wMem qM k nM aM)] ++ List.flatten [(wValley qV k vV bV cV wV aV eV), (wSlot qL1 k vL1 sL1 lL1)]).map some := rfl
                have hDc := hD.sub [0, 1, 2, 3, 4, 10, 11, 12, 13, 14, 15, 16, 17, 20, 21] (by decide) hC
                have hFc := va_free hD hS hA [0, 1, 2, 3, 4, 10, 11, 12, 13, 14, 15, 16, 17, 20, 21] hC
                refine va_callv (va_runV (As := [.ref (qV 0), .int p2, .ref (qL1 0), .ref (qM 0)]) (rest := []) ⟨hx, hb, hml, hown, hts⟩ (c_X5_seek l dC dI k s.heap.size qE vE cE aE qV vV bV cV wV aV eV qL1 vL1 sL1 lL1 qM nM aM p2 hcE hbV hcV hwV heV hsL1 hnM) (cwV 4 hts (gk_V (wl_mem 12 rfl) (wl_mem 13 rfl) (wl_mem 14 rfl) (wl_mem 15 rfl) (fun w h => List.mem_cons_of_mem _ (List.mem_append_right _ (List.mem_append_right _ (List.mem_append_right _ (List.mem_append_right _ (List.mem_append_right _ (List.mem_append_left _ h))))))) wkg_c_X5_seek) rfl rfl rfl (by decide +kernel) ⟨Nat.le_of_ble_eq_true rfl, Nat.le_of_ble_eq_true rfl⟩) ⟨fun a U g mk q => by obtain ⟨q0, q1, qP, qK, qD⟩ := q; exact ⟨q0, q1, qP, va_K.moved (u := U) (U := U.calling g mk a) (Vm.Alike.refl U.vm) qK, qD⟩, va_recv hK hPc (ci := 5) (q0 := 0) rfl rfl, fun U hU hW => ⟨rfl, by rw [hU], by rw [hU]; exact hPc, va_K.moved hW.alike hK, hDc.weaken (fun _ _ _ _ => trivial)⟩⟩ rfl rfl hl.1 rfl (lv_room (Nat.le_of_ble_eq_true rfl)) dX11_seekSets_55 ⟨Nat.le_of_ble_eq_true rfl, Nat.le_of_ble_eq_true rfl⟩) hS (fun q _ h => hFc q h) hFc (fun u t H1 locs ht hvm gz58 hB hz1 hk1 hS => ?_)
                obtain ⟨vz60, cz61, az62, nz63, az64, hcz61, hnz63, hP1⟩ := hB
                rw [ht] at hP1
                obtain ⟨hP, hD⟩ := w_callR hP hD hk1 hP1 [0, 1] rfl rfl (wk_memC [3, 5] rfl) rfl [some 0, some 1] rfl rfl
                clear hPc hC hDc hFc hk1 hP1
                generalize H1 = H at hP hS ⊢
                have hP : va_P (dC, dI) vwCl (List.flatten [(wSets qE k vz60 cz61 az62), (wMem qM k nz63 az64)] ++ List.flatten [(wSag qX k tapeX (qV 0) actsX nowX trialX storyX attemptX orderSearchX routeSearchX (qE 0) (qM 0) (qL0 0) (qL1 0) (qL2 0) (qL3 0) image0X image1X image2X aX), (wValley qV k vV bV cV wV aV eV), (wSlot qL0 k vL0 sL0 lL0), (wSlot qL1 k vL1 sL1 lL1), (wSlot qL2 k vL2 sL2 lL2), (wSlot qL3 k vL3 sL3 lL3)]) H := hP
                have hD : va_D A (List.flatten [(wSets qE k vz60 cz61 az62), (wMem qM k nz63 az64)] ++ List.flatten [(wSag qX k tapeX (qV 0) actsX nowX trialX storyX attemptX orderSearchX routeSearchX (qE 0) (qM 0) (qL0 0) (qL1 0) (qL2 0) (qL3 0) image0X image1X image2X aX), (wValley qV k vV bV cV wV aV eV), (wSlot qL0 k vL0 sL0 lL0), (wSlot qL1 k vL1 sL1 lL1), (wSlot qL2 k vL2 sL2 lL2), (wSlot qL3 k vL3 sL3 lL3)]) := hD
                refine W.widen (k := 0) (n := 0) (Nat.le_refl 0) (Nat.le_refl 0) ?_
                refine lv_iconst (v := 0) hx hb dX11_seekSets_58 (by decide) ?_
                rw [hQ]
                exact W.iret (v := (0 : Int32)) hx hb hr (fun t ht hW => ⟨⟨(0 : Int32), (), rfl, trivial, vz60, cz61, az62, nz63, az64, hcz61, hnz63, by rw [ht]; exact hP⟩, hS.F ht⟩) hS.2.2 dX11_seekSets_59
            · skip
              have zz65 : (vL1 0).toInt = (0 : Int) := zi_eq.mp cz54
              refine lv_bipush (v := (-6)) hx hb dX11_seekSets_33 (by decide) ?_
              rw [hQ]
              exact W.iret (v := (-6 : Int32)) hx hb hr (fun t ht hW => ⟨⟨(-6 : Int32), (), rfl, trivial, vE, cE, aE, nM, aM, hcE, hnM, by rw [ht]; exact hP⟩, hS.F ht⟩) hS.2.2 dX11_seekSets_35
          · skip
            have zz66 : p1.toInt = (2 : Int) := zi_eq.mp cz39
            refine W.eq (g2 := F0 m 26 ls [.int 2, .ref (qX 3)]) (by rw [cz39]) ?_
            refine va_aldq hx hb hK hP 8 6 rfl rfl (by unfold vp_in; decide) dX11_seekSets_26 ?_
            refine W.eq (g2 := F0 m 27 ls [.ref (qL2 0)]) rfl ?_
            refine va_get (D := (dC, dI)) (ci := 6) (v := .int (vL2 0)) (C := RX6) (T := TX6) (N := 4) hx hb hts (fun w h => List.mem_cons_of_mem _ (List.mem_append_right _ (List.mem_append_right _ (List.mem_append_right _ (List.mem_append_right _ (List.mem_append_left _ h)))))) hown hK hP 22 rfl rfl 1 (by decide) (hts (.fieldLink RX11 386 "SagMemory$Slot" "has" "Z") (wl_mem 9 rfl)) (fun _ h9 => h9) rfl dX11_seekSets_27 ?_
            refine lv_if_ne (tgt := 36) hx hb dX11_seekSets_30 (by decide) (fun cz67 => ?_) (fun cz67 => ?_)
            · skip
              have zz68 : ¬ (vL2 0).toInt = (0 : Int) := fun h9 => cz67 (zi_eq.mpr h9)
              refine lv_aload_n hx hb dX11_seekSets_36 rfl (lv_at hl 0 rfl) ?_
              refine va_get (D := (dC, dI)) (ci := 11) (v := .ref (qE 0)) (C := RX11) (T := TX11) (N := 15) hx hb hts (fun w h => List.mem_cons_of_mem _ (List.mem_append_right _ (List.mem_append_right _ (List.mem_append_left _ h)))) hown hK hP 5 rfl rfl 9 (by decide) (hts (.fieldLink RX11 65 "SagMemory" "setSearch" "LSagMemory$Sets;") (wl_mem 10 rfl)) (fun _ h9 => h9) rfl dX11_seekSets_37 ?_
              refine lv_aload_n hx hb dX11_seekSets_40 rfl (lv_at hl 0 rfl) ?_
              refine va_get (D := (dC, dI)) (ci := 11) (v := .ref (qV 0)) (C := RX11) (T := TX11) (N := 15) hx hb hts (fun w h => List.mem_cons_of_mem _ (List.mem_append_right _ (List.mem_append_right _ (List.mem_append_left _ h)))) hown hK hP 5 rfl rfl 1 (by decide) (hts (.fieldLink RX11 19 "SagMemory" "told" "LSagMemory$Valley;") (wl_mem 3 rfl)) (fun _ h9 => h9) rfl dX11_seekSets_41 ?_
              refine lv_iload_n hx hb dX11_seekSets_44 rfl (lv_at hl 2 rfl) ?_
              refine lv_aload_n hx hb dX11_seekSets_45 rfl (lv_at hl 0 rfl) ?_
              refine va_get (D := (dC, dI)) (ci := 11) (v := .ref (qX 3)) (C := RX11) (T := TX11) (N := 15) hx hb hts (fun w h => List.mem_cons_of_mem _ (List.mem_append_right _ (List.mem_append_right _ (List.mem_append_left _ h)))) hown hK hP 5 rfl rfl 13 (by decide) (hts (.fieldLink RX11 85 "SagMemory" "slots" "[LSagMemory$Slot;") (wl_mem 8 rfl)) (fun _ h9 => h9) rfl dX11_seekSets_46 ?_
              refine lv_iload_n hx hb dX11_seekSets_49 rfl (lv_at hl 1 rfl) ?_
              rcases (show p1 = 2 by simp only [zi_eq]; show p1.toInt = 2; omega) with cz69
              · skip
                have zz70 : p1.toInt = (2 : Int) := zi_eq.mp cz69
                refine W.eq (g2 := F0 m 50 ls [.int 2, .ref (qX 3), .int p2, .ref (qV 0), .ref (qE 0)]) (by rw [cz69]) ?_
                refine va_aldq hx hb hK hP 8 6 rfl rfl (by unfold vp_in; decide) dX11_seekSets_50 ?_
                refine W.eq (g2 := F0 m 51 ls [.ref (qL2 0), .int p2, .ref (qV 0), .ref (qE 0)]) rfl ?_
                refine lv_aload_n hx hb dX11_seekSets_51 rfl (lv_at hl 0 rfl) ?_
                refine va_get (D := (dC, dI)) (ci := 11) (v := .ref (qM 0)) (C := RX11) (T := TX11) (N := 15) hx hb hts (fun w h => List.mem_cons_of_mem _ (List.mem_append_right _ (List.mem_append_right _ (List.mem_append_left _ h)))) hown hK hP 5 rfl rfl 10 (by decide) (hts (.fieldLink RX11 72 "SagMemory" "probe" "LSagMemory$Memory;") (wl_mem 11 rfl)) (fun _ h9 => h9) rfl dX11_seekSets_52 ?_
                have hPc := hP.sub (ws' := (List.flatten [(wSets qE k vE cE aE), (wMem qM k nM aM)] ++ List.flatten [(wValley qV k vV bV cV wV aV eV), (wSlot qL2 k vL2 sL2 lL2)])) [0, 1, 2, 3, 4, 10, 11, 12, 13, 14, 15, 16, 17, 22, 23] rfl
                have hC : [0, 1, 2, 3, 4, 10, 11, 12, 13, 14, 15, 16, 17, 22, 23].map (fun i => (List.flatten [(wSets qE k vE cE aE), (wMem qM k nM aM)] ++ List.flatten [(wSag qX k tapeX (qV 0) actsX nowX trialX storyX attemptX orderSearchX routeSearchX (qE 0) (qM 0) (qL0 0) (qL1 0) (qL2 0) (qL3 0) image0X image1X image2X aX), (wValley qV k vV bV cV wV aV eV), (wSlot qL0 k vL0 sL0 lL0), (wSlot qL1 k vL1 sL1 lL1), (wSlot qL2 k vL2 sL2 lL2), (wSlot qL3 k vL3 sL3 lL3)])[i]?) = (List.flatten [(wSets qE k vE cE aE), (wMem qM k nM aM)] ++ List.flatten [(wValley qV k vV bV cV wV aV eV), (wSlot qL2 k vL2 sL2 lL2)]).map some := rfl
                have hDc := hD.sub [0, 1, 2, 3, 4, 10, 11, 12, 13, 14, 15, 16, 17, 22, 23] (by decide) hC
                have hFc := va_free hD hS hA [0, 1, 2, 3, 4, 10, 11, 12, 13, 14, 15, 16, 17, 22, 23] hC
                refine va_callv (va_runV (As := [.ref (qV 0), .int p2, .ref (qL2 0), .ref (qM 0)]) (rest := []) ⟨hx, hb, hml, hown, hts⟩ (c_X5_seek l dC dI k s.heap.size qE vE cE aE qV vV bV cV wV aV eV qL2 vL2 sL2 lL2 qM nM aM p2 hcE hbV hcV hwV heV hsL2 hnM) (cwV 4 hts (gk_V (wl_mem 12 rfl) (wl_mem 13 rfl) (wl_mem 14 rfl) (wl_mem 15 rfl) (fun w h => List.mem_cons_of_mem _ (List.mem_append_right _ (List.mem_append_right _ (List.mem_append_right _ (List.mem_append_right _ (List.mem_append_right _ (List.mem_append_left _ h))))))) wkg_c_X5_seek) rfl rfl rfl (by decide +kernel) ⟨Nat.le_of_ble_eq_true rfl, Nat.le_of_ble_eq_true rfl⟩) ⟨fun a U g mk q => by obtain ⟨q0, q1, qP, qK, qD⟩ := q; exact ⟨q0, q1, qP, va_K.moved (u := U) (U := U.calling g mk a) (Vm.Alike.refl U.vm) qK, qD⟩, va_recv hK hPc (ci := 5) (q0 := 0) rfl rfl, fun U hU hW => ⟨rfl, by rw [hU], by rw [hU]; exact hPc, va_K.moved hW.alike hK, hDc.weaken (fun _ _ _ _ => trivial)⟩⟩ rfl rfl hl.1 rfl (lv_room (Nat.le_of_ble_eq_true rfl)) dX11_seekSets_55 ⟨Nat.le_of_ble_eq_true rfl, Nat.le_of_ble_eq_true rfl⟩) hS (fun q _ h => hFc q h) hFc (fun u t H1 locs ht hvm gz71 hB hz1 hk1 hS => ?_)
                obtain ⟨vz73, cz74, az75, nz76, az77, hcz74, hnz76, hP1⟩ := hB
                rw [ht] at hP1
                obtain ⟨hP, hD⟩ := w_callR hP hD hk1 hP1 [0, 1] rfl rfl (wk_memC [3, 6] rfl) rfl [some 0, some 1] rfl rfl
                clear hPc hC hDc hFc hk1 hP1
                generalize H1 = H at hP hS ⊢
                have hP : va_P (dC, dI) vwCl (List.flatten [(wSets qE k vz73 cz74 az75), (wMem qM k nz76 az77)] ++ List.flatten [(wSag qX k tapeX (qV 0) actsX nowX trialX storyX attemptX orderSearchX routeSearchX (qE 0) (qM 0) (qL0 0) (qL1 0) (qL2 0) (qL3 0) image0X image1X image2X aX), (wValley qV k vV bV cV wV aV eV), (wSlot qL0 k vL0 sL0 lL0), (wSlot qL1 k vL1 sL1 lL1), (wSlot qL2 k vL2 sL2 lL2), (wSlot qL3 k vL3 sL3 lL3)]) H := hP
                have hD : va_D A (List.flatten [(wSets qE k vz73 cz74 az75), (wMem qM k nz76 az77)] ++ List.flatten [(wSag qX k tapeX (qV 0) actsX nowX trialX storyX attemptX orderSearchX routeSearchX (qE 0) (qM 0) (qL0 0) (qL1 0) (qL2 0) (qL3 0) image0X image1X image2X aX), (wValley qV k vV bV cV wV aV eV), (wSlot qL0 k vL0 sL0 lL0), (wSlot qL1 k vL1 sL1 lL1), (wSlot qL2 k vL2 sL2 lL2), (wSlot qL3 k vL3 sL3 lL3)]) := hD
                refine W.widen (k := 0) (n := 0) (Nat.le_refl 0) (Nat.le_refl 0) ?_
                refine lv_iconst (v := 0) hx hb dX11_seekSets_58 (by decide) ?_
                rw [hQ]
                exact W.iret (v := (0 : Int32)) hx hb hr (fun t ht hW => ⟨⟨(0 : Int32), (), rfl, trivial, vz73, cz74, az75, nz76, az77, hcz74, hnz76, by rw [ht]; exact hP⟩, hS.F ht⟩) hS.2.2 dX11_seekSets_59
            · skip
              have zz78 : (vL2 0).toInt = (0 : Int) := zi_eq.mp cz67
              refine lv_bipush (v := (-6)) hx hb dX11_seekSets_33 (by decide) ?_
              rw [hQ]
              exact W.iret (v := (-6 : Int32)) hx hb hr (fun t ht hW => ⟨⟨(-6 : Int32), (), rfl, trivial, vE, cE, aE, nM, aM, hcE, hnM, by rw [ht]; exact hP⟩, hS.F ht⟩) hS.2.2 dX11_seekSets_35
          · skip
            have zz79 : p1.toInt = (3 : Int) := zi_eq.mp cz39
            refine W.eq (g2 := F0 m 26 ls [.int 3, .ref (qX 3)]) (by rw [cz39]) ?_
            refine va_aldq hx hb hK hP 8 6 rfl rfl (by unfold vp_in; decide) dX11_seekSets_26 ?_
            refine W.eq (g2 := F0 m 27 ls [.ref (qL3 0)]) rfl ?_
            refine va_get (D := (dC, dI)) (ci := 6) (v := .int (vL3 0)) (C := RX6) (T := TX6) (N := 4) hx hb hts (fun w h => List.mem_cons_of_mem _ (List.mem_append_right _ (List.mem_append_right _ (List.mem_append_right _ (List.mem_append_right _ (List.mem_append_left _ h)))))) hown hK hP 24 rfl rfl 1 (by decide) (hts (.fieldLink RX11 386 "SagMemory$Slot" "has" "Z") (wl_mem 9 rfl)) (fun _ h9 => h9) rfl dX11_seekSets_27 ?_
            refine lv_if_ne (tgt := 36) hx hb dX11_seekSets_30 (by decide) (fun cz80 => ?_) (fun cz80 => ?_)
            · skip
              have zz81 : ¬ (vL3 0).toInt = (0 : Int) := fun h9 => cz80 (zi_eq.mpr h9)
              refine lv_aload_n hx hb dX11_seekSets_36 rfl (lv_at hl 0 rfl) ?_
              refine va_get (D := (dC, dI)) (ci := 11) (v := .ref (qE 0)) (C := RX11) (T := TX11) (N := 15) hx hb hts (fun w h => List.mem_cons_of_mem _ (List.mem_append_right _ (List.mem_append_right _ (List.mem_append_left _ h)))) hown hK hP 5 rfl rfl 9 (by decide) (hts (.fieldLink RX11 65 "SagMemory" "setSearch" "LSagMemory$Sets;") (wl_mem 10 rfl)) (fun _ h9 => h9) rfl dX11_seekSets_37 ?_
              refine lv_aload_n hx hb dX11_seekSets_40 rfl (lv_at hl 0 rfl) ?_
              refine va_get (D := (dC, dI)) (ci := 11) (v := .ref (qV 0)) (C := RX11) (T := TX11) (N := 15) hx hb hts (fun w h => List.mem_cons_of_mem _ (List.mem_append_right _ (List.mem_append_right _ (List.mem_append_left _ h)))) hown hK hP 5 rfl rfl 1 (by decide) (hts (.fieldLink RX11 19 "SagMemory" "told" "LSagMemory$Valley;") (wl_mem 3 rfl)) (fun _ h9 => h9) rfl dX11_seekSets_41 ?_
              refine lv_iload_n hx hb dX11_seekSets_44 rfl (lv_at hl 2 rfl) ?_
              refine lv_aload_n hx hb dX11_seekSets_45 rfl (lv_at hl 0 rfl) ?_
              refine va_get (D := (dC, dI)) (ci := 11) (v := .ref (qX 3)) (C := RX11) (T := TX11) (N := 15) hx hb hts (fun w h => List.mem_cons_of_mem _ (List.mem_append_right _ (List.mem_append_right _ (List.mem_append_left _ h)))) hown hK hP 5 rfl rfl 13 (by decide) (hts (.fieldLink RX11 85 "SagMemory" "slots" "[LSagMemory$Slot;") (wl_mem 8 rfl)) (fun _ h9 => h9) rfl dX11_seekSets_46 ?_
              refine lv_iload_n hx hb dX11_seekSets_49 rfl (lv_at hl 1 rfl) ?_
              rcases (show p1 = 3 by simp only [zi_eq]; show p1.toInt = 3; omega) with cz82
              · skip
                have zz83 : p1.toInt = (3 : Int) := zi_eq.mp cz82
                refine W.eq (g2 := F0 m 50 ls [.int 3, .ref (qX 3), .int p2, .ref (qV 0), .ref (qE 0)]) (by rw [cz82]) ?_
                refine va_aldq hx hb hK hP 8 6 rfl rfl (by unfold vp_in; decide) dX11_seekSets_50 ?_
                refine W.eq (g2 := F0 m 51 ls [.ref (qL3 0), .int p2, .ref (qV 0), .ref (qE 0)]) rfl ?_
                refine lv_aload_n hx hb dX11_seekSets_51 rfl (lv_at hl 0 rfl) ?_
                refine va_get (D := (dC, dI)) (ci := 11) (v := .ref (qM 0)) (C := RX11) (T := TX11) (N := 15) hx hb hts (fun w h => List.mem_cons_of_mem _ (List.mem_append_right _ (List.mem_append_right _ (List.mem_append_left _ h)))) hown hK hP 5 rfl rfl 10 (by decide) (hts (.fieldLink RX11 72 "SagMemory" "probe" "LSagMemory$Memory;") (wl_mem 11 rfl)) (fun _ h9 => h9) rfl dX11_seekSets_52 ?_
                have hPc := hP.sub (ws' := (List.flatten [(wSets qE k vE cE aE), (wMem qM k nM aM)] ++ List.flatten [(wValley qV k vV bV cV wV aV eV), (wSlot qL3 k vL3 sL3 lL3)])) [0, 1, 2, 3, 4, 10, 11, 12, 13, 14, 15, 16, 17, 24, 25] rfl
                have hC : [0, 1, 2, 3, 4, 10, 11, 12, 13, 14, 15, 16, 17, 24, 25].map (fun i => (List.flatten [(wSets qE k vE cE aE), (wMem qM k nM aM)] ++ List.flatten [(wSag qX k tapeX (qV 0) actsX nowX trialX storyX attemptX orderSearchX routeSearchX (qE 0) (qM 0) (qL0 0) (qL1 0) (qL2 0) (qL3 0) image0X image1X image2X aX), (wValley qV k vV bV cV wV aV eV), (wSlot qL0 k vL0 sL0 lL0), (wSlot qL1 k vL1 sL1 lL1), (wSlot qL2 k vL2 sL2 lL2), (wSlot qL3 k vL3 sL3 lL3)])[i]?) = (List.flatten [(wSets qE k vE cE aE), (wMem qM k nM aM)] ++ List.flatten [(wValley qV k vV bV cV wV aV eV), (wSlot qL3 k vL3 sL3 lL3)]).map some := rfl
                have hDc := hD.sub [0, 1, 2, 3, 4, 10, 11, 12, 13, 14, 15, 16, 17, 24, 25] (by decide) hC
                have hFc := va_free hD hS hA [0, 1, 2, 3, 4, 10, 11, 12, 13, 14, 15, 16, 17, 24, 25] hC
                refine va_callv (va_runV (As := [.ref (qV 0), .int p2, .ref (qL3 0), .ref (qM 0)]) (rest := []) ⟨hx, hb, hml, hown, hts⟩ (c_X5_seek l dC dI k s.heap.size qE vE cE aE qV vV bV cV wV aV eV qL3 vL3 sL3 lL3 qM nM aM p2 hcE hbV hcV hwV heV hsL3 hnM) (cwV 4 hts (gk_V (wl_mem 12 rfl) (wl_mem 13 rfl) (wl_mem 14 rfl) (wl_mem 15 rfl) (fun w h => List.mem_cons_of_mem _ (List.mem_append_right _ (List.mem_append_right _ (List.mem_append_right _ (List.mem_append_right _ (List.mem_append_right _ (List.mem_append_left _ h))))))) wkg_c_X5_seek) rfl rfl rfl (by decide +kernel) ⟨Nat.le_of_ble_eq_true rfl, Nat.le_of_ble_eq_true rfl⟩) ⟨fun a U g mk q => by obtain ⟨q0, q1, qP, qK, qD⟩ := q; exact ⟨q0, q1, qP, va_K.moved (u := U) (U := U.calling g mk a) (Vm.Alike.refl U.vm) qK, qD⟩, va_recv hK hPc (ci := 5) (q0 := 0) rfl rfl, fun U hU hW => ⟨rfl, by rw [hU], by rw [hU]; exact hPc, va_K.moved hW.alike hK, hDc.weaken (fun _ _ _ _ => trivial)⟩⟩ rfl rfl hl.1 rfl (lv_room (Nat.le_of_ble_eq_true rfl)) dX11_seekSets_55 ⟨Nat.le_of_ble_eq_true rfl, Nat.le_of_ble_eq_true rfl⟩) hS (fun q _ h => hFc q h) hFc (fun u t H1 locs ht hvm gz84 hB hz1 hk1 hS => ?_)
                obtain ⟨vz86, cz87, az88, nz89, az90, hcz87, hnz89, hP1⟩ := hB
                rw [ht] at hP1
                obtain ⟨hP, hD⟩ := w_callR hP hD hk1 hP1 [0, 1] rfl rfl (wk_memC [3, 7] rfl) rfl [some 0, some 1] rfl rfl
                clear hPc hC hDc hFc hk1 hP1
                generalize H1 = H at hP hS ⊢
                have hP : va_P (dC, dI) vwCl (List.flatten [(wSets qE k vz86 cz87 az88), (wMem qM k nz89 az90)] ++ List.flatten [(wSag qX k tapeX (qV 0) actsX nowX trialX storyX attemptX orderSearchX routeSearchX (qE 0) (qM 0) (qL0 0) (qL1 0) (qL2 0) (qL3 0) image0X image1X image2X aX), (wValley qV k vV bV cV wV aV eV), (wSlot qL0 k vL0 sL0 lL0), (wSlot qL1 k vL1 sL1 lL1), (wSlot qL2 k vL2 sL2 lL2), (wSlot qL3 k vL3 sL3 lL3)]) H := hP
                have hD : va_D A (List.flatten [(wSets qE k vz86 cz87 az88), (wMem qM k nz89 az90)] ++ List.flatten [(wSag qX k tapeX (qV 0) actsX nowX trialX storyX attemptX orderSearchX routeSearchX (qE 0) (qM 0) (qL0 0) (qL1 0) (qL2 0) (qL3 0) image0X image1X image2X aX), (wValley qV k vV bV cV wV aV eV), (wSlot qL0 k vL0 sL0 lL0), (wSlot qL1 k vL1 sL1 lL1), (wSlot qL2 k vL2 sL2 lL2), (wSlot qL3 k vL3 sL3 lL3)]) := hD
                refine W.widen (k := 0) (n := 0) (Nat.le_refl 0) (Nat.le_refl 0) ?_
                refine lv_iconst (v := 0) hx hb dX11_seekSets_58 (by decide) ?_
                rw [hQ]
                exact W.iret (v := (0 : Int32)) hx hb hr (fun t ht hW => ⟨⟨(0 : Int32), (), rfl, trivial, vz86, cz87, az88, nz89, az90, hcz87, hnz89, by rw [ht]; exact hP⟩, hS.F ht⟩) hS.2.2 dX11_seekSets_59
            · skip
              have zz91 : (vL3 0).toInt = (0 : Int) := zi_eq.mp cz80
              refine lv_bipush (v := (-6)) hx hb dX11_seekSets_33 (by decide) ?_
              rw [hQ]
              exact W.iret (v := (-6 : Int32)) hx hb hr (fun t ht hW => ⟨⟨(-6 : Int32), (), rfl, trivial, vE, cE, aE, nM, aM, hcE, hnM, by rw [ht]; exact hP⟩, hS.F ht⟩) hS.2.2 dX11_seekSets_35
        · skip
          exact absurd cz38 (by decide)
def wk_c_X11_lookAtBook : List Cond := .code yX11_lookAtBook cX11_lookAtBook 2 (some .int) :: ([.methodLink RX11 380 yX11_hasSlot, .static yX11_hasSlot, .initialized RX11, .methodLink RX11 180 yX11_noValley, .instanceMethod yX11_noValley, .selects RX11 yX11_noValley yX11_noValley, .fieldLink RX11 85 "SagMemory" "slots" "[LSagMemory$Slot;", .fieldLink RX11 386 "SagMemory$Slot" "has" "Z", .fieldLink RX11 19 "SagMemory" "told" "LSagMemory$Valley;", .methodLink RX11 440 yX6_isBookOf, .instanceMethod yX6_isBookOf, .selects RX6 yX6_isBookOf yX6_isBookOf, .initialized RX6] ++ (wk_c_X11_hasSlot ++ (wk_c_X11_noValley ++ (wsX110 ++ (wsX60 ++ (wk_c_X6_isBookOf ++ []))))))
theorem wkg_c_X11_lookAtBook : wk_c_X11_lookAtBook.all goodWord = true := by decide +kernel
set_option maxHeartbeats 4000000 in
set_option maxRecDepth 100000 in
theorem c_X11_lookAtBook (l : Launch) (dC : Nat → ClassId) (dI : Nat → Nat → Nat) (k : Nat → ClassId) (qX : Nat → Nat) (tapeX : Nat) (actsX : Nat) (nowX : Nat) (trialX : Nat) (storyX : Nat) (attemptX : Nat) (orderSearchX : Nat) (routeSearchX : Nat) (setSearchX : Nat) (probeX : Nat) (image0X : Nat) (image1X : Nat) (image2X : Nat) (aX : Nat → Nat → Int32) (qV : Nat → Nat) (vV : Nat → Int32) (bV : Nat → Int32) (cV : Nat → Int32) (wV : Nat → Int32) (aV : Nat → Nat → Int32) (eV : Nat → Nat → Int32) (qL0 : Nat → Nat) (vL0 : Nat → Int32) (sL0 : Nat → Int32) (lL0 : Nat → Nat → Int64) (qL1 : Nat → Nat) (vL1 : Nat → Int32) (sL1 : Nat → Int32) (lL1 : Nat → Nat → Int64) (qL2 : Nat → Nat) (vL2 : Nat → Int32) (sL2 : Nat → Int32) (lL2 : Nat → Nat → Int64) (qL3 : Nat → Nat) (vL3 : Nat → Int32) (sL3 : Nat → Int32) (lL3 : Nat → Nat → Int64) (p1 : Int32) (hbV : Rg 0 3 bV) (hcV : Rg 0 7 cV) (hwV : Rg 0 5 wV) (heV : RgA 0 99 eV) (hsL0 : Rg 0 60 sL0) (hsL1 : Rg 0 60 sL1) (hsL2 : Rg 0 60 sL2) (hsL3 : Rg 0 60 sL3) : Met l yX11_lookAtBook wk_c_X11_lookAtBook ({ frames := 2, cells := 0, slots := 0, locals := 44 }) (va_Pc [.ref (qX 0), .int p1] (fun U => va_P (dC, dI) vwCl (List.flatten [(wSag qX k tapeX (qV 0) actsX nowX trialX storyX attemptX orderSearchX routeSearchX setSearchX probeX (qL0 0) (qL1 0) (qL2 0) (qL3 0) image0X image1X image2X aX), (wValley qV k vV bV cV wV aV eV), (wSlot qL0 k vL0 sL0 lL0), (wSlot qL1 k vL1 sL1 lL1), (wSlot qL2 k vL2 sL2 lL2), (wSlot qL3 k vL3 sL3 lL3)]) U.heap ∧ va_K (dC, dI) vwCl (tK k) U)) (vp_Si (fun r : Int32 => (r.toInt < 0 ∨ (0 ≤ p1.toInt ∧ p1.toInt ≤ 3)))) 0 0 (fun _ => False) := by
  refine Met.ofW (cc := cX11_lookAtBook) (maxL := 2) (ret := (some .int)) (by decide) rfl ?_
  intro p e s m args below meth c s₁ B hml hv
  obtain ⟨rfl, hP, hK⟩ := hv
  have hx := B.exec
  have hb := B.bytes
  have hr := B.returns
  have hts := atoms_spec (ws := wk_c_X11_lookAtBook) B.pre
  have hown : s.vm.findClass RX11 = some m.cls := findClass_of_methodNamed B.named
  have hlocks := B.notSynchronized
  have hP : va_P (dC, dI) vwCl (List.flatten [(wSag qX k tapeX (qV 0) actsX nowX trialX storyX attemptX orderSearchX routeSearchX setSearchX probeX (qL0 0) (qL1 0) (qL2 0) (qL3 0) image0X image1X image2X aX), (wValley qV k vV bV cV wV aV eV), (wSlot qL0 k vL0 sL0 lL0), (wSlot qL1 k vL1 sL1 lL1), (wSlot qL2 k vL2 sL2 lL2), (wSlot qL3 k vL3 sL3 lL3)]) s.heap := hP
  have hl := lv_entry ([.ref (qX 0), .int p1]) (n := 2) (Nat.le_of_ble_eq_true rfl)
  rw [lg_entry_eq]
  generalize (lg_sl ([.ref (qX 0), .int p1]) ++ List.replicate (2 - (lg_sl ([.ref (qX 0), .int p1])).length) Slot.unset).toArray = ls at hl ⊢
  have hl : lv_has ls 2 [(0, .ref (qX 0)), (1, .int p1)] := hl
  refine w_gen (fun Q hQ => ?_)
  refine lv_iload_n hx hb dX11_lookAtBook_0 rfl (lv_at hl 1 rfl) ?_
  have hPc : va_P (dC, dI) vwCl (List.flatten ([] : List va_W)) s.heap := fun k q h => by simp at h
  refine vp_callSi (va_Run.run (va_runS (As := [.int p1]) (rest := []) ⟨hx, hb, hml, hown, hts⟩ (c_X11_hasSlot l dC dI k p1) (va_cwS 1 hts (gk_S (wl_mem 0 rfl) (wl_mem 1 rfl) (wl_mem 2 rfl) (fun w h => List.mem_cons_of_mem _ (List.mem_append_right _ (List.mem_append_left _ h))) wkg_c_X11_hasSlot) rfl rfl rfl (by decide +kernel) ⟨Nat.le_of_ble_eq_true rfl, Nat.le_of_ble_eq_true rfl⟩) ⟨fun a U g mk q => by obtain ⟨q0, qP, qK⟩ := q; exact ⟨q0, qP, va_K.moved (u := U) (U := U.calling g mk a) (Vm.Alike.refl U.vm) qK⟩, fun U hU hW => ⟨rfl, by rw [hU]; exact hPc, va_K.moved hW.alike hK⟩⟩ rfl rfl hl.1 rfl (lv_room (Nat.le_of_ble_eq_true rfl)) dX11_lookAtBook_1 ⟨Nat.le_of_ble_eq_true rfl, Nat.le_of_ble_eq_true rfl⟩)) (fun rz2 gz1 => ?_)
  clear hPc
  rcases gz1 with ⟨er, cz3⟩ | ⟨er, cz4, cz5⟩ | ⟨er, cz6, cz7⟩
  · obtain rfl := er.symm
    have bz8 := fb_rng p1
    have zz9 : p1.toInt < (0 : Int) := zi_lt.mp cz3
    refine lv_if_eq (tgt := 14) hx hb dX11_lookAtBook_4 (by decide) (fun cz10 => ?_) (fun cz10 => ?_)
    · skip
      refine lv_bipush (v := (-2)) hx hb dX11_lookAtBook_14 (by decide) ?_
      rw [hQ]
      exact W.iret (v := (-2 : Int32)) hx hb hr (fun t ht hW => ⟨(-2 : Int32), rfl, (by show (-2 : Int) < 0 ∨ (0 ≤ p1.toInt ∧ p1.toInt ≤ 3); omega), ht⟩) (fun _ h => absurd h List.not_mem_nil) dX11_lookAtBook_16
    · skip
      exact absurd cz10 (by decide)
  · obtain rfl := er.symm
    have bz11 := fb_rng p1
    have zz12 : ¬ p1.toInt < (0 : Int) := fun h9 => cz4 (zi_lt.mpr h9)
    have zz13 : (4 : Int) ≤ p1.toInt := zi_le.mp cz5
    refine lv_if_eq (tgt := 14) hx hb dX11_lookAtBook_4 (by decide) (fun cz14 => ?_) (fun cz14 => ?_)
    · skip
      refine lv_bipush (v := (-2)) hx hb dX11_lookAtBook_14 (by decide) ?_
      rw [hQ]
      exact W.iret (v := (-2 : Int32)) hx hb hr (fun t ht hW => ⟨(-2 : Int32), rfl, (by show (-2 : Int) < 0 ∨ (0 ≤ p1.toInt ∧ p1.toInt ≤ 3); omega), ht⟩) (fun _ h => absurd h List.not_mem_nil) dX11_lookAtBook_16
    · skip
      exact absurd cz14 (by decide)
  · obtain rfl := er.symm
    have bz15 := fb_rng p1
    have zz16 : ¬ p1.toInt < (0 : Int) := fun h9 => cz6 (zi_lt.mpr h9)
    have zz17 : ¬ (4 : Int) ≤ p1.toInt := fun h9 => cz7 (zi_le.mpr h9)
    refine lv_if_eq (tgt := 14) hx hb dX11_lookAtBook_4 (by decide) (fun cz18 => ?_) (fun cz18 => ?_)
    · skip
      exact absurd cz18 (by decide)
    · skip
      refine lv_aload_n hx hb dX11_lookAtBook_7 rfl (lv_at hl 0 rfl) ?_
      have hPc := hP.sub (ws' := (List.flatten [(wSag qX k tapeX (qV 0) actsX nowX trialX storyX attemptX orderSearchX routeSearchX setSearchX probeX (qL0 0) (qL1 0) (qL2 0) (qL3 0) image0X image1X image2X aX), (wValley qV k vV bV cV wV aV eV)])) [0, 1, 2, 3, 4, 5, 6, 7, 8, 9, 10, 11, 12] rfl
      refine vp_callSi (va_Run.run (va_runV (As := []) (rest := []) ⟨hx, hb, hml, hown, hts⟩ (c_X11_noValley l dC dI k qX tapeX actsX nowX trialX storyX attemptX orderSearchX routeSearchX setSearchX probeX (qL0 0) (qL1 0) (qL2 0) (qL3 0) image0X image1X image2X aX qV vV bV cV wV aV eV hbV hcV hwV heV) (cwV 0 hts (gk_V (wl_mem 3 rfl) (wl_mem 4 rfl) (wl_mem 5 rfl) (wl_mem 2 rfl) (fun w h => List.mem_cons_of_mem _ (List.mem_append_right _ (List.mem_append_right _ (List.mem_append_left _ h)))) wkg_c_X11_noValley) rfl rfl rfl (by decide +kernel) ⟨Nat.le_of_ble_eq_true rfl, Nat.le_of_ble_eq_true rfl⟩) ⟨fun a U g mk q => by obtain ⟨q0, qP, qK⟩ := q; exact ⟨q0, qP, va_K.moved (u := U) (U := U.calling g mk a) (Vm.Alike.refl U.vm) qK⟩, va_recv hK hPc (ci := 11) (q0 := 0) rfl rfl, fun U hU hW => ⟨rfl, by rw [hU]; exact hPc, va_K.moved hW.alike hK⟩⟩ rfl rfl hl.1 rfl (lv_room (Nat.le_of_ble_eq_true rfl)) dX11_lookAtBook_8 ⟨Nat.le_of_ble_eq_true rfl, Nat.le_of_ble_eq_true rfl⟩)) (fun rz20 gz19 => ?_)
      clear hPc
      have pz21 := gz19
      have pz21 : rz20.toInt = 0 ∨ rz20.toInt = 1 := pz21
      refine lv_if_eq (tgt := 17) hx hb dX11_lookAtBook_11 (by decide) (fun cz22 => ?_) (fun cz22 => ?_)
      · skip
        have zz23 : rz20.toInt = (0 : Int) := zi_eq.mp cz22
        refine lv_aload_n hx hb dX11_lookAtBook_17 rfl (lv_at hl 0 rfl) ?_
        refine va_get (D := (dC, dI)) (ci := 11) (v := .ref (qX 3)) (C := RX11) (T := TX11) (N := 15) hx hb hts (fun w h => List.mem_cons_of_mem _ (List.mem_append_right _ (List.mem_append_right _ (List.mem_append_right _ (List.mem_append_left _ h))))) hown hK hP 0 rfl rfl 13 (by decide) (hts (.fieldLink RX11 85 "SagMemory" "slots" "[LSagMemory$Slot;") (wl_mem 6 rfl)) (fun _ h9 => h9) rfl dX11_lookAtBook_18 ?_
        refine lv_iload_n hx hb dX11_lookAtBook_21 rfl (lv_at hl 1 rfl) ?_
        rcases (show p1 = 0 ∨ p1 = 1 ∨ p1 = 2 ∨ p1 = 3 by simp only [zi_eq]; show p1.toInt = 0 ∨ p1.toInt = 1 ∨ p1.toInt = 2 ∨ p1.toInt = 3; omega) with cz24 | cz24 | cz24 | cz24
        · skip
          have zz25 : p1.toInt = (0 : Int) := zi_eq.mp cz24
          refine W.eq (g2 := F0 m 22 ls [.int 0, .ref (qX 3)]) (by rw [cz24]) ?_
          refine va_aldq hx hb hK hP 3 6 rfl rfl (by unfold vp_in; decide) dX11_lookAtBook_22 ?_
          refine W.eq (g2 := F0 m 23 ls [.ref (qL0 0)]) rfl ?_
          refine va_get (D := (dC, dI)) (ci := 6) (v := .int (vL0 0)) (C := RX6) (T := TX6) (N := 4) hx hb hts (fun w h => List.mem_cons_of_mem _ (List.mem_append_right _ (List.mem_append_right _ (List.mem_append_right _ (List.mem_append_right _ (List.mem_append_left _ h)))))) hown hK hP 13 rfl rfl 1 (by decide) (hts (.fieldLink RX11 386 "SagMemory$Slot" "has" "Z") (wl_mem 7 rfl)) (fun _ h9 => h9) rfl dX11_lookAtBook_23 ?_
          refine lv_if_ne (tgt := 32) hx hb dX11_lookAtBook_26 (by decide) (fun cz26 => ?_) (fun cz26 => ?_)
          · skip
            have zz27 : ¬ (vL0 0).toInt = (0 : Int) := fun h9 => cz26 (zi_eq.mpr h9)
            refine lv_aload_n hx hb dX11_lookAtBook_32 rfl (lv_at hl 0 rfl) ?_
            refine va_get (D := (dC, dI)) (ci := 11) (v := .ref (qX 3)) (C := RX11) (T := TX11) (N := 15) hx hb hts (fun w h => List.mem_cons_of_mem _ (List.mem_append_right _ (List.mem_append_right _ (List.mem_append_right _ (List.mem_append_left _ h))))) hown hK hP 0 rfl rfl 13 (by decide) (hts (.fieldLink RX11 85 "SagMemory" "slots" "[LSagMemory$Slot;") (wl_mem 6 rfl)) (fun _ h9 => h9) rfl dX11_lookAtBook_33 ?_
            refine lv_iload_n hx hb dX11_lookAtBook_36 rfl (lv_at hl 1 rfl) ?_
            rcases (show p1 = 0 by simp only [zi_eq]; show p1.toInt = 0; omega) with cz28
            · skip
              have zz29 : p1.toInt = (0 : Int) := zi_eq.mp cz28
              refine W.eq (g2 := F0 m 37 ls [.int 0, .ref (qX 3)]) (by rw [cz28]) ?_
              refine va_aldq hx hb hK hP 3 6 rfl rfl (by unfold vp_in; decide) dX11_lookAtBook_37 ?_
              refine W.eq (g2 := F0 m 38 ls [.ref (qL0 0)]) rfl ?_
              refine lv_aload_n hx hb dX11_lookAtBook_38 rfl (lv_at hl 0 rfl) ?_
              refine va_get (D := (dC, dI)) (ci := 11) (v := .ref (qV 0)) (C := RX11) (T := TX11) (N := 15) hx hb hts (fun w h => List.mem_cons_of_mem _ (List.mem_append_right _ (List.mem_append_right _ (List.mem_append_right _ (List.mem_append_left _ h))))) hown hK hP 0 rfl rfl 1 (by decide) (hts (.fieldLink RX11 19 "SagMemory" "told" "LSagMemory$Valley;") (wl_mem 8 rfl)) (fun _ h9 => h9) rfl dX11_lookAtBook_39 ?_
              have hPc := hP.sub (ws' := (List.flatten [(wSlot qL0 k vL0 sL0 lL0), (wValley qV k vV bV cV wV aV eV)])) [13, 14, 5, 6, 7, 8, 9, 10, 11, 12] rfl
              refine vp_callSi (va_Run.run (va_runV (As := [.ref (qV 0)]) (rest := []) ⟨hx, hb, hml, hown, hts⟩ (c_X6_isBookOf l dC dI k qL0 vL0 sL0 lL0 qV vV bV cV wV aV eV hsL0 hbV hcV hwV heV) (cwV 1 hts (gk_V (wl_mem 9 rfl) (wl_mem 10 rfl) (wl_mem 11 rfl) (wl_mem 12 rfl) (fun w h => List.mem_cons_of_mem _ (List.mem_append_right _ (List.mem_append_right _ (List.mem_append_right _ (List.mem_append_right _ (List.mem_append_right _ (List.mem_append_left _ h))))))) wkg_c_X6_isBookOf) rfl rfl rfl (by decide +kernel) ⟨Nat.le_of_ble_eq_true rfl, Nat.le_of_ble_eq_true rfl⟩) ⟨fun a U g mk q => by obtain ⟨q0, qP, qK⟩ := q; exact ⟨q0, qP, va_K.moved (u := U) (U := U.calling g mk a) (Vm.Alike.refl U.vm) qK⟩, va_recv hK hPc (ci := 6) (q0 := 0) rfl rfl, fun U hU hW => ⟨rfl, by rw [hU]; exact hPc, va_K.moved hW.alike hK⟩⟩ rfl rfl hl.1 rfl (lv_room (Nat.le_of_ble_eq_true rfl)) dX11_lookAtBook_42 ⟨Nat.le_of_ble_eq_true rfl, Nat.le_of_ble_eq_true rfl⟩)) (fun rz31 gz30 => ?_)
              clear hPc
              have pz32 := gz30
              have pz32 : rz31.toInt = 0 ∨ rz31.toInt = 1 := pz32
              refine lv_if_eq (tgt := 52) hx hb dX11_lookAtBook_45 (by decide) (fun cz33 => ?_) (fun cz33 => ?_)
              · skip
                have zz34 : rz31.toInt = (0 : Int) := zi_eq.mp cz33
                refine lv_bipush (v := (-2)) hx hb dX11_lookAtBook_52 (by decide) ?_
                rw [hQ]
                exact W.iret (v := (-2 : Int32)) hx hb hr (fun t ht hW => ⟨(-2 : Int32), rfl, (by show (-2 : Int) < 0 ∨ (0 ≤ p1.toInt ∧ p1.toInt ≤ 3); omega), ht⟩) (fun _ h => absurd h List.not_mem_nil) dX11_lookAtBook_54
              · skip
                have zz35 : ¬ rz31.toInt = (0 : Int) := fun h9 => cz33 (zi_eq.mpr h9)
                refine lv_iconst (v := 0) hx hb dX11_lookAtBook_48 (by decide) ?_
                refine lv_goto (tgt := 54) hx hb dX11_lookAtBook_49 (by decide) ?_
                rw [hQ]
                exact W.iret (v := (0 : Int32)) hx hb hr (fun t ht hW => ⟨(0 : Int32), rfl, (by show (0 : Int) < 0 ∨ (0 ≤ p1.toInt ∧ p1.toInt ≤ 3); omega), ht⟩) (fun _ h => absurd h List.not_mem_nil) dX11_lookAtBook_54
          · skip
            have zz36 : (vL0 0).toInt = (0 : Int) := zi_eq.mp cz26
            refine lv_bipush (v := (-6)) hx hb dX11_lookAtBook_29 (by decide) ?_
            rw [hQ]
            exact W.iret (v := (-6 : Int32)) hx hb hr (fun t ht hW => ⟨(-6 : Int32), rfl, (by show (-6 : Int) < 0 ∨ (0 ≤ p1.toInt ∧ p1.toInt ≤ 3); omega), ht⟩) (fun _ h => absurd h List.not_mem_nil) dX11_lookAtBook_31
        · skip
          have zz37 : p1.toInt = (1 : Int) := zi_eq.mp cz24
          refine W.eq (g2 := F0 m 22 ls [.int 1, .ref (qX 3)]) (by rw [cz24]) ?_
          refine va_aldq hx hb hK hP 3 6 rfl rfl (by unfold vp_in; decide) dX11_lookAtBook_22 ?_
          refine W.eq (g2 := F0 m 23 ls [.ref (qL1 0)]) rfl ?_
          refine va_get (D := (dC, dI)) (ci := 6) (v := .int (vL1 0)) (C := RX6) (T := TX6) (N := 4) hx hb hts (fun w h => List.mem_cons_of_mem _ (List.mem_append_right _ (List.mem_append_right _ (List.mem_append_right _ (List.mem_append_right _ (List.mem_append_left _ h)))))) hown hK hP 15 rfl rfl 1 (by decide) (hts (.fieldLink RX11 386 "SagMemory$Slot" "has" "Z") (wl_mem 7 rfl)) (fun _ h9 => h9) rfl dX11_lookAtBook_23 ?_
          refine lv_if_ne (tgt := 32) hx hb dX11_lookAtBook_26 (by decide) (fun cz38 => ?_) (fun cz38 => ?_)
          · skip
            have zz39 : ¬ (vL1 0).toInt = (0 : Int) := fun h9 => cz38 (zi_eq.mpr h9)
            refine lv_aload_n hx hb dX11_lookAtBook_32 rfl (lv_at hl 0 rfl) ?_
            refine va_get (D := (dC, dI)) (ci := 11) (v := .ref (qX 3)) (C := RX11) (T := TX11) (N := 15) hx hb hts (fun w h => List.mem_cons_of_mem _ (List.mem_append_right _ (List.mem_append_right _ (List.mem_append_right _ (List.mem_append_left _ h))))) hown hK hP 0 rfl rfl 13 (by decide) (hts (.fieldLink RX11 85 "SagMemory" "slots" "[LSagMemory$Slot;") (wl_mem 6 rfl)) (fun _ h9 => h9) rfl dX11_lookAtBook_33 ?_
            refine lv_iload_n hx hb dX11_lookAtBook_36 rfl (lv_at hl 1 rfl) ?_
            rcases (show p1 = 1 by simp only [zi_eq]; show p1.toInt = 1; omega) with cz40
            · skip
              have zz41 : p1.toInt = (1 : Int) := zi_eq.mp cz40
              refine W.eq (g2 := F0 m 37 ls [.int 1, .ref (qX 3)]) (by rw [cz40]) ?_
              refine va_aldq hx hb hK hP 3 6 rfl rfl (by unfold vp_in; decide) dX11_lookAtBook_37 ?_
              refine W.eq (g2 := F0 m 38 ls [.ref (qL1 0)]) rfl ?_
              refine lv_aload_n hx hb dX11_lookAtBook_38 rfl (lv_at hl 0 rfl) ?_
              refine va_get (D := (dC, dI)) (ci := 11) (v := .ref (qV 0)) (C := RX11) (T := TX11) (N := 15) hx hb hts (fun w h => List.mem_cons_of_mem _ (List.mem_append_right _ (List.mem_append_right _ (List.mem_append_right _ (List.mem_append_left _ h))))) hown hK hP 0 rfl rfl 1 (by decide) (hts (.fieldLink RX11 19 "SagMemory" "told" "LSagMemory$Valley;") (wl_mem 8 rfl)) (fun _ h9 => h9) rfl dX11_lookAtBook_39 ?_
              have hPc := hP.sub (ws' := (List.flatten [(wSlot qL1 k vL1 sL1 lL1), (wValley qV k vV bV cV wV aV eV)])) [15, 16, 5, 6, 7, 8, 9, 10, 11, 12] rfl
              refine vp_callSi (va_Run.run (va_runV (As := [.ref (qV 0)]) (rest := []) ⟨hx, hb, hml, hown, hts⟩ (c_X6_isBookOf l dC dI k qL1 vL1 sL1 lL1 qV vV bV cV wV aV eV hsL1 hbV hcV hwV heV) (cwV 1 hts (gk_V (wl_mem 9 rfl) (wl_mem 10 rfl) (wl_mem 11 rfl) (wl_mem 12 rfl) (fun w h => List.mem_cons_of_mem _ (List.mem_append_right _ (List.mem_append_right _ (List.mem_append_right _ (List.mem_append_right _ (List.mem_append_right _ (List.mem_append_left _ h))))))) wkg_c_X6_isBookOf) rfl rfl rfl (by decide +kernel) ⟨Nat.le_of_ble_eq_true rfl, Nat.le_of_ble_eq_true rfl⟩) ⟨fun a U g mk q => by obtain ⟨q0, qP, qK⟩ := q; exact ⟨q0, qP, va_K.moved (u := U) (U := U.calling g mk a) (Vm.Alike.refl U.vm) qK⟩, va_recv hK hPc (ci := 6) (q0 := 0) rfl rfl, fun U hU hW => ⟨rfl, by rw [hU]; exact hPc, va_K.moved hW.alike hK⟩⟩ rfl rfl hl.1 rfl (lv_room (Nat.le_of_ble_eq_true rfl)) dX11_lookAtBook_42 ⟨Nat.le_of_ble_eq_true rfl, Nat.le_of_ble_eq_true rfl⟩)) (fun rz43 gz42 => ?_)
              clear hPc
              have pz44 := gz42
              have pz44 : rz43.toInt = 0 ∨ rz43.toInt = 1 := pz44
              refine lv_if_eq (tgt := 52) hx hb dX11_lookAtBook_45 (by decide) (fun cz45 => ?_) (fun cz45 => ?_)
              · skip
                have zz46 : rz43.toInt = (0 : Int) := zi_eq.mp cz45
                refine lv_bipush (v := (-2)) hx hb dX11_lookAtBook_52 (by decide) ?_
                rw [hQ]
                exact W.iret (v := (-2 : Int32)) hx hb hr (fun t ht hW => ⟨(-2 : Int32), rfl, (by show (-2 : Int) < 0 ∨ (0 ≤ p1.toInt ∧ p1.toInt ≤ 3); omega), ht⟩) (fun _ h => absurd h List.not_mem_nil) dX11_lookAtBook_54
              · skip
                have zz47 : ¬ rz43.toInt = (0 : Int) := fun h9 => cz45 (zi_eq.mpr h9)
                refine lv_iconst (v := 0) hx hb dX11_lookAtBook_48 (by decide) ?_
                refine lv_goto (tgt := 54) hx hb dX11_lookAtBook_49 (by decide) ?_
                rw [hQ]
                exact W.iret (v := (0 : Int32)) hx hb hr (fun t ht hW => ⟨(0 : Int32), rfl, (by show (0 : Int) < 0 ∨ (0 ≤ p1.toInt ∧ p1.toInt ≤ 3); omega), ht⟩) (fun _ h => absurd h List.not_mem_nil) dX11_lookAtBook_54
          · skip
            have zz48 : (vL1 0).toInt = (0 : Int) := zi_eq.mp cz38
            refine lv_bipush (v := (-6)) hx hb dX11_lookAtBook_29 (by decide) ?_
            rw [hQ]
            exact W.iret (v := (-6 : Int32)) hx hb hr (fun t ht hW => ⟨(-6 : Int32), rfl, (by show (-6 : Int) < 0 ∨ (0 ≤ p1.toInt ∧ p1.toInt ≤ 3); omega), ht⟩) (fun _ h => absurd h List.not_mem_nil) dX11_lookAtBook_31
        · skip
          have zz49 : p1.toInt = (2 : Int) := zi_eq.mp cz24
          refine W.eq (g2 := F0 m 22 ls [.int 2, .ref (qX 3)]) (by rw [cz24]) ?_
          refine va_aldq hx hb hK hP 3 6 rfl rfl (by unfold vp_in; decide) dX11_lookAtBook_22 ?_
          refine W.eq (g2 := F0 m 23 ls [.ref (qL2 0)]) rfl ?_
          refine va_get (D := (dC, dI)) (ci := 6) (v := .int (vL2 0)) (C := RX6) (T := TX6) (N := 4) hx hb hts (fun w h => List.mem_cons_of_mem _ (List.mem_append_right _ (List.mem_append_right _ (List.mem_append_right _ (List.mem_append_right _ (List.mem_append_left _ h)))))) hown hK hP 17 rfl rfl 1 (by decide) (hts (.fieldLink RX11 386 "SagMemory$Slot" "has" "Z") (wl_mem 7 rfl)) (fun _ h9 => h9) rfl dX11_lookAtBook_23 ?_
          refine lv_if_ne (tgt := 32) hx hb dX11_lookAtBook_26 (by decide) (fun cz50 => ?_) (fun cz50 => ?_)
          · skip
            have zz51 : ¬ (vL2 0).toInt = (0 : Int) := fun h9 => cz50 (zi_eq.mpr h9)
            refine lv_aload_n hx hb dX11_lookAtBook_32 rfl (lv_at hl 0 rfl) ?_
            refine va_get (D := (dC, dI)) (ci := 11) (v := .ref (qX 3)) (C := RX11) (T := TX11) (N := 15) hx hb hts (fun w h => List.mem_cons_of_mem _ (List.mem_append_right _ (List.mem_append_right _ (List.mem_append_right _ (List.mem_append_left _ h))))) hown hK hP 0 rfl rfl 13 (by decide) (hts (.fieldLink RX11 85 "SagMemory" "slots" "[LSagMemory$Slot;") (wl_mem 6 rfl)) (fun _ h9 => h9) rfl dX11_lookAtBook_33 ?_
            refine lv_iload_n hx hb dX11_lookAtBook_36 rfl (lv_at hl 1 rfl) ?_
            rcases (show p1 = 2 by simp only [zi_eq]; show p1.toInt = 2; omega) with cz52
            · skip
              have zz53 : p1.toInt = (2 : Int) := zi_eq.mp cz52
              refine W.eq (g2 := F0 m 37 ls [.int 2, .ref (qX 3)]) (by rw [cz52]) ?_
              refine va_aldq hx hb hK hP 3 6 rfl rfl (by unfold vp_in; decide) dX11_lookAtBook_37 ?_
              refine W.eq (g2 := F0 m 38 ls [.ref (qL2 0)]) rfl ?_
              refine lv_aload_n hx hb dX11_lookAtBook_38 rfl (lv_at hl 0 rfl) ?_
              refine va_get (D := (dC, dI)) (ci := 11) (v := .ref (qV 0)) (C := RX11) (T := TX11) (N := 15) hx hb hts (fun w h => List.mem_cons_of_mem _ (List.mem_append_right _ (List.mem_append_right _ (List.mem_append_right _ (List.mem_append_left _ h))))) hown hK hP 0 rfl rfl 1 (by decide) (hts (.fieldLink RX11 19 "SagMemory" "told" "LSagMemory$Valley;") (wl_mem 8 rfl)) (fun _ h9 => h9) rfl dX11_lookAtBook_39 ?_
              have hPc := hP.sub (ws' := (List.flatten [(wSlot qL2 k vL2 sL2 lL2), (wValley qV k vV bV cV wV aV eV)])) [17, 18, 5, 6, 7, 8, 9, 10, 11, 12] rfl
              refine vp_callSi (va_Run.run (va_runV (As := [.ref (qV 0)]) (rest := []) ⟨hx, hb, hml, hown, hts⟩ (c_X6_isBookOf l dC dI k qL2 vL2 sL2 lL2 qV vV bV cV wV aV eV hsL2 hbV hcV hwV heV) (cwV 1 hts (gk_V (wl_mem 9 rfl) (wl_mem 10 rfl) (wl_mem 11 rfl) (wl_mem 12 rfl) (fun w h => List.mem_cons_of_mem _ (List.mem_append_right _ (List.mem_append_right _ (List.mem_append_right _ (List.mem_append_right _ (List.mem_append_right _ (List.mem_append_left _ h))))))) wkg_c_X6_isBookOf) rfl rfl rfl (by decide +kernel) ⟨Nat.le_of_ble_eq_true rfl, Nat.le_of_ble_eq_true rfl⟩) ⟨fun a U g mk q => by obtain ⟨q0, qP, qK⟩ := q; exact ⟨q0, qP, va_K.moved (u := U) (U := U.calling g mk a) (Vm.Alike.refl U.vm) qK⟩, va_recv hK hPc (ci := 6) (q0 := 0) rfl rfl, fun U hU hW => ⟨rfl, by rw [hU]; exact hPc, va_K.moved hW.alike hK⟩⟩ rfl rfl hl.1 rfl (lv_room (Nat.le_of_ble_eq_true rfl)) dX11_lookAtBook_42 ⟨Nat.le_of_ble_eq_true rfl, Nat.le_of_ble_eq_true rfl⟩)) (fun rz55 gz54 => ?_)
              clear hPc
              have pz56 := gz54
              have pz56 : rz55.toInt = 0 ∨ rz55.toInt = 1 := pz56
              refine lv_if_eq (tgt := 52) hx hb dX11_lookAtBook_45 (by decide) (fun cz57 => ?_) (fun cz57 => ?_)
              · skip
                have zz58 : rz55.toInt = (0 : Int) := zi_eq.mp cz57
                refine lv_bipush (v := (-2)) hx hb dX11_lookAtBook_52 (by decide) ?_
                rw [hQ]
                exact W.iret (v := (-2 : Int32)) hx hb hr (fun t ht hW => ⟨(-2 : Int32), rfl, (by show (-2 : Int) < 0 ∨ (0 ≤ p1.toInt ∧ p1.toInt ≤ 3); omega), ht⟩) (fun _ h => absurd h List.not_mem_nil) dX11_lookAtBook_54
              · skip
                have zz59 : ¬ rz55.toInt = (0 : Int) := fun h9 => cz57 (zi_eq.mpr h9)
                refine lv_iconst (v := 0) hx hb dX11_lookAtBook_48 (by decide) ?_
                refine lv_goto (tgt := 54) hx hb dX11_lookAtBook_49 (by decide) ?_
                rw [hQ]
                exact W.iret (v := (0 : Int32)) hx hb hr (fun t ht hW => ⟨(0 : Int32), rfl, (by show (0 : Int) < 0 ∨ (0 ≤ p1.toInt ∧ p1.toInt ≤ 3); omega), ht⟩) (fun _ h => absurd h List.not_mem_nil) dX11_lookAtBook_54
          · skip
            have zz60 : (vL2 0).toInt = (0 : Int) := zi_eq.mp cz50
            refine lv_bipush (v := (-6)) hx hb dX11_lookAtBook_29 (by decide) ?_
            rw [hQ]
            exact W.iret (v := (-6 : Int32)) hx hb hr (fun t ht hW => ⟨(-6 : Int32), rfl, (by show (-6 : Int) < 0 ∨ (0 ≤ p1.toInt ∧ p1.toInt ≤ 3); omega), ht⟩) (fun _ h => absurd h List.not_mem_nil) dX11_lookAtBook_31
        · skip
          have zz61 : p1.toInt = (3 : Int) := zi_eq.mp cz24
          refine W.eq (g2 := F0 m 22 ls [.int 3, .ref (qX 3)]) (by rw [cz24]) ?_
          refine va_aldq hx hb hK hP 3 6 rfl rfl (by unfold vp_in; decide) dX11_lookAtBook_22 ?_
          refine W.eq (g2 := F0 m 23 ls [.ref (qL3 0)]) rfl ?_
          refine va_get (D := (dC, dI)) (ci := 6) (v := .int (vL3 0)) (C := RX6) (T := TX6) (N := 4) hx hb hts (fun w h => List.mem_cons_of_mem _ (List.mem_append_right _ (List.mem_append_right _ (List.mem_append_right _ (List.mem_append_right _ (List.mem_append_left _ h)))))) hown hK hP 19 rfl rfl 1 (by decide) (hts (.fieldLink RX11 386 "SagMemory$Slot" "has" "Z") (wl_mem 7 rfl)) (fun _ h9 => h9) rfl dX11_lookAtBook_23 ?_
          refine lv_if_ne (tgt := 32) hx hb dX11_lookAtBook_26 (by decide) (fun cz62 => ?_) (fun cz62 => ?_)
          · skip
            have zz63 : ¬ (vL3 0).toInt = (0 : Int) := fun h9 => cz62 (zi_eq.mpr h9)
            refine lv_aload_n hx hb dX11_lookAtBook_32 rfl (lv_at hl 0 rfl) ?_
            refine va_get (D := (dC, dI)) (ci := 11) (v := .ref (qX 3)) (C := RX11) (T := TX11) (N := 15) hx hb hts (fun w h => List.mem_cons_of_mem _ (List.mem_append_right _ (List.mem_append_right _ (List.mem_append_right _ (List.mem_append_left _ h))))) hown hK hP 0 rfl rfl 13 (by decide) (hts (.fieldLink RX11 85 "SagMemory" "slots" "[LSagMemory$Slot;") (wl_mem 6 rfl)) (fun _ h9 => h9) rfl dX11_lookAtBook_33 ?_
            refine lv_iload_n hx hb dX11_lookAtBook_36 rfl (lv_at hl 1 rfl) ?_
            rcases (show p1 = 3 by simp only [zi_eq]; show p1.toInt = 3; omega) with cz64
            · skip
              have zz65 : p1.toInt = (3 : Int) := zi_eq.mp cz64
              refine W.eq (g2 := F0 m 37 ls [.int 3, .ref (qX 3)]) (by rw [cz64]) ?_
              refine va_aldq hx hb hK hP 3 6 rfl rfl (by unfold vp_in; decide) dX11_lookAtBook_37 ?_
              refine W.eq (g2 := F0 m 38 ls [.ref (qL3 0)]) rfl ?_
              refine lv_aload_n hx hb dX11_lookAtBook_38 rfl (lv_at hl 0 rfl) ?_
              refine va_get (D := (dC, dI)) (ci := 11) (v := .ref (qV 0)) (C := RX11) (T := TX11) (N := 15) hx hb hts (fun w h => List.mem_cons_of_mem _ (List.mem_append_right _ (List.mem_append_right _ (List.mem_append_right _ (List.mem_append_left _ h))))) hown hK hP 0 rfl rfl 1 (by decide) (hts (.fieldLink RX11 19 "SagMemory" "told" "LSagMemory$Valley;") (wl_mem 8 rfl)) (fun _ h9 => h9) rfl dX11_lookAtBook_39 ?_
              have hPc := hP.sub (ws' := (List.flatten [(wSlot qL3 k vL3 sL3 lL3), (wValley qV k vV bV cV wV aV eV)])) [19, 20, 5, 6, 7, 8, 9, 10, 11, 12] rfl
              refine vp_callSi (va_Run.run (va_runV (As := [.ref (qV 0)]) (rest := []) ⟨hx, hb, hml, hown, hts⟩ (c_X6_isBookOf l dC dI k qL3 vL3 sL3 lL3 qV vV bV cV wV aV eV hsL3 hbV hcV hwV heV) (cwV 1 hts (gk_V (wl_mem 9 rfl) (wl_mem 10 rfl) (wl_mem 11 rfl) (wl_mem 12 rfl) (fun w h => List.mem_cons_of_mem _ (List.mem_append_right _ (List.mem_append_right _ (List.mem_append_right _ (List.mem_append_right _ (List.mem_append_right _ (List.mem_append_left _ h))))))) wkg_c_X6_isBookOf) rfl rfl rfl (by decide +kernel) ⟨Nat.le_of_ble_eq_true rfl, Nat.le_of_ble_eq_true rfl⟩) ⟨fun a U g mk q => by obtain ⟨q0, qP, qK⟩ := q; exact ⟨q0, qP, va_K.moved (u := U) (U := U.calling g mk a) (Vm.Alike.refl U.vm) qK⟩, va_recv hK hPc (ci := 6) (q0 := 0) rfl rfl, fun U hU hW => ⟨rfl, by rw [hU]; exact hPc, va_K.moved hW.alike hK⟩⟩ rfl rfl hl.1 rfl (lv_room (Nat.le_of_ble_eq_true rfl)) dX11_lookAtBook_42 ⟨Nat.le_of_ble_eq_true rfl, Nat.le_of_ble_eq_true rfl⟩)) (fun rz67 gz66 => ?_)
              clear hPc
              have pz68 := gz66
              have pz68 : rz67.toInt = 0 ∨ rz67.toInt = 1 := pz68
              refine lv_if_eq (tgt := 52) hx hb dX11_lookAtBook_45 (by decide) (fun cz69 => ?_) (fun cz69 => ?_)
              · skip
                have zz70 : rz67.toInt = (0 : Int) := zi_eq.mp cz69
                refine lv_bipush (v := (-2)) hx hb dX11_lookAtBook_52 (by decide) ?_
                rw [hQ]
                exact W.iret (v := (-2 : Int32)) hx hb hr (fun t ht hW => ⟨(-2 : Int32), rfl, (by show (-2 : Int) < 0 ∨ (0 ≤ p1.toInt ∧ p1.toInt ≤ 3); omega), ht⟩) (fun _ h => absurd h List.not_mem_nil) dX11_lookAtBook_54
              · skip
                have zz71 : ¬ rz67.toInt = (0 : Int) := fun h9 => cz69 (zi_eq.mpr h9)
                refine lv_iconst (v := 0) hx hb dX11_lookAtBook_48 (by decide) ?_
                refine lv_goto (tgt := 54) hx hb dX11_lookAtBook_49 (by decide) ?_
                rw [hQ]
                exact W.iret (v := (0 : Int32)) hx hb hr (fun t ht hW => ⟨(0 : Int32), rfl, (by show (0 : Int) < 0 ∨ (0 ≤ p1.toInt ∧ p1.toInt ≤ 3); omega), ht⟩) (fun _ h => absurd h List.not_mem_nil) dX11_lookAtBook_54
          · skip
            have zz72 : (vL3 0).toInt = (0 : Int) := zi_eq.mp cz62
            refine lv_bipush (v := (-6)) hx hb dX11_lookAtBook_29 (by decide) ?_
            rw [hQ]
            exact W.iret (v := (-6 : Int32)) hx hb hr (fun t ht hW => ⟨(-6 : Int32), rfl, (by show (-6 : Int) < 0 ∨ (0 ≤ p1.toInt ∧ p1.toInt ≤ 3); omega), ht⟩) (fun _ h => absurd h List.not_mem_nil) dX11_lookAtBook_31
      · skip
        have zz73 : ¬ rz20.toInt = (0 : Int) := fun h9 => cz22 (zi_eq.mpr h9)
        refine lv_bipush (v := (-2)) hx hb dX11_lookAtBook_14 (by decide) ?_
        rw [hQ]
        exact W.iret (v := (-2 : Int32)) hx hb hr (fun t ht hW => ⟨(-2 : Int32), rfl, (by show (-2 : Int) < 0 ∨ (0 ≤ p1.toInt ∧ p1.toInt ≤ 3); omega), ht⟩) (fun _ h => absurd h List.not_mem_nil) dX11_lookAtBook_16
def wk_c_X11_lookAtBookFor : List Cond := .code yX11_lookAtBookFor cX11_lookAtBookFor 3 (some .int) :: ([.fieldLink RX11 19 "SagMemory" "told" "LSagMemory$Valley;", .methodLink RX11 141 yX10_hasCart, .instanceMethod yX10_hasCart, .selects RX10 yX10_hasCart yX10_hasCart, .initialized RX10, .methodLink RX11 297 yX11_lookAtBook, .instanceMethod yX11_lookAtBook, .selects RX11 yX11_lookAtBook yX11_lookAtBook, .initialized RX11] ++ (wsX110 ++ (wk_c_X10_hasCart ++ (wk_c_X11_lookAtBook ++ []))))
theorem wkg_c_X11_lookAtBookFor : wk_c_X11_lookAtBookFor.all goodWord = true := by decide +kernel
set_option maxHeartbeats 4000000 in
set_option maxRecDepth 100000 in
theorem c_X11_lookAtBookFor (l : Launch) (dC : Nat → ClassId) (dI : Nat → Nat → Nat) (k : Nat → ClassId) (qX : Nat → Nat) (tapeX : Nat) (actsX : Nat) (nowX : Nat) (trialX : Nat) (storyX : Nat) (attemptX : Nat) (orderSearchX : Nat) (routeSearchX : Nat) (setSearchX : Nat) (probeX : Nat) (image0X : Nat) (image1X : Nat) (image2X : Nat) (aX : Nat → Nat → Int32) (qV : Nat → Nat) (vV : Nat → Int32) (bV : Nat → Int32) (cV : Nat → Int32) (wV : Nat → Int32) (aV : Nat → Nat → Int32) (eV : Nat → Nat → Int32) (qL0 : Nat → Nat) (vL0 : Nat → Int32) (sL0 : Nat → Int32) (lL0 : Nat → Nat → Int64) (qL1 : Nat → Nat) (vL1 : Nat → Int32) (sL1 : Nat → Int32) (lL1 : Nat → Nat → Int64) (qL2 : Nat → Nat) (vL2 : Nat → Int32) (sL2 : Nat → Int32) (lL2 : Nat → Nat → Int64) (qL3 : Nat → Nat) (vL3 : Nat → Int32) (sL3 : Nat → Int32) (lL3 : Nat → Nat → Int64) (p1 : Int32) (p2 : Int32) (hbV : Rg 0 3 bV) (hcV : Rg 0 7 cV) (hwV : Rg 0 5 wV) (heV : RgA 0 99 eV) (hsL0 : Rg 0 60 sL0) (hsL1 : Rg 0 60 sL1) (hsL2 : Rg 0 60 sL2) (hsL3 : Rg 0 60 sL3) : Met l yX11_lookAtBookFor wk_c_X11_lookAtBookFor ({ frames := 3, cells := 0, slots := 0, locals := 65 }) (va_Pc [.ref (qX 0), .int p1, .int p2] (fun U => va_P (dC, dI) vwCl (List.flatten [(wSag qX k tapeX (qV 0) actsX nowX trialX storyX attemptX orderSearchX routeSearchX setSearchX probeX (qL0 0) (qL1 0) (qL2 0) (qL3 0) image0X image1X image2X aX), (wValley qV k vV bV cV wV aV eV), (wSlot qL0 k vL0 sL0 lL0), (wSlot qL1 k vL1 sL1 lL1), (wSlot qL2 k vL2 sL2 lL2), (wSlot qL3 k vL3 sL3 lL3)]) U.heap ∧ va_K (dC, dI) vwCl (tK k) U)) (vp_Si (fun r : Int32 => (r.toInt < 0 ∨ (0 ≤ p1.toInt ∧ p1.toInt ≤ 3 ∧ 0 ≤ p2.toInt ∧ p2.toInt ≤ 6)))) 0 0 (fun _ => False) := by
  refine Met.ofW (cc := cX11_lookAtBookFor) (maxL := 3) (ret := (some .int)) (by decide) rfl ?_
  intro p e s m args below meth c s₁ B hml hv
  obtain ⟨rfl, hP, hK⟩ := hv
  have hx := B.exec
  have hb := B.bytes
  have hr := B.returns
  have hts := atoms_spec (ws := wk_c_X11_lookAtBookFor) B.pre
  have hown : s.vm.findClass RX11 = some m.cls := findClass_of_methodNamed B.named
  have hlocks := B.notSynchronized
  have hP : va_P (dC, dI) vwCl (List.flatten [(wSag qX k tapeX (qV 0) actsX nowX trialX storyX attemptX orderSearchX routeSearchX setSearchX probeX (qL0 0) (qL1 0) (qL2 0) (qL3 0) image0X image1X image2X aX), (wValley qV k vV bV cV wV aV eV), (wSlot qL0 k vL0 sL0 lL0), (wSlot qL1 k vL1 sL1 lL1), (wSlot qL2 k vL2 sL2 lL2), (wSlot qL3 k vL3 sL3 lL3)]) s.heap := hP
  have hl := lv_entry ([.ref (qX 0), .int p1, .int p2]) (n := 3) (Nat.le_of_ble_eq_true rfl)
  rw [lg_entry_eq]
  generalize (lg_sl ([.ref (qX 0), .int p1, .int p2]) ++ List.replicate (3 - (lg_sl ([.ref (qX 0), .int p1, .int p2])).length) Slot.unset).toArray = ls at hl ⊢
  have hl : lv_has ls 3 [(0, .ref (qX 0)), (1, .int p1), (2, .int p2)] := hl
  refine w_gen (fun Q hQ => ?_)
  refine lv_aload_n hx hb dX11_lookAtBookFor_0 rfl (lv_at hl 0 rfl) ?_
  refine va_get (D := (dC, dI)) (ci := 11) (v := .ref (qV 0)) (C := RX11) (T := TX11) (N := 15) hx hb hts (fun w h => List.mem_cons_of_mem _ (List.mem_append_right _ (List.mem_append_left _ h))) hown hK hP 0 rfl rfl 1 (by decide) (hts (.fieldLink RX11 19 "SagMemory" "told" "LSagMemory$Valley;") (wl_mem 0 rfl)) (fun _ h9 => h9) rfl dX11_lookAtBookFor_1 ?_
  refine lv_iload_n hx hb dX11_lookAtBookFor_4 rfl (lv_at hl 2 rfl) ?_
  have hPc := hP.sub (ws' := (List.flatten [(wValley qV k vV bV cV wV aV eV)])) [5, 6, 7, 8, 9, 10, 11, 12] rfl
  refine vp_callSi (va_Run.run (va_runV (As := [.int p2]) (rest := []) ⟨hx, hb, hml, hown, hts⟩ (c_X10_hasCart l dC dI k qV vV bV cV wV aV eV p2 hbV hcV hwV heV) (cwV 1 hts (gk_V (wl_mem 1 rfl) (wl_mem 2 rfl) (wl_mem 3 rfl) (wl_mem 4 rfl) (fun w h => List.mem_cons_of_mem _ (List.mem_append_right _ (List.mem_append_right _ (List.mem_append_left _ h)))) wkg_c_X10_hasCart) rfl rfl rfl (by decide +kernel) ⟨Nat.le_of_ble_eq_true rfl, Nat.le_of_ble_eq_true rfl⟩) ⟨fun a U g mk q => by obtain ⟨q0, qP, qK⟩ := q; exact ⟨q0, qP, va_K.moved (u := U) (U := U.calling g mk a) (Vm.Alike.refl U.vm) qK⟩, va_recv hK hPc (ci := 10) (q0 := 0) rfl rfl, fun U hU hW => ⟨rfl, by rw [hU]; exact hPc, va_K.moved hW.alike hK⟩⟩ rfl rfl hl.1 rfl (lv_room (Nat.le_of_ble_eq_true rfl)) dX11_lookAtBookFor_5 ⟨Nat.le_of_ble_eq_true rfl, Nat.le_of_ble_eq_true rfl⟩)) (fun rz2 gz1 => ?_)
  clear hPc
  rcases gz1 with ⟨er, cz3⟩ | ⟨er, cz4, cz5⟩ | ⟨er, cz6, cz7⟩
  · obtain rfl := er.symm
    have bz8 := fb_rng p2
    have zz9 : p2.toInt < (0 : Int) := zi_lt.mp cz3
    refine lv_if_eq (tgt := 19) hx hb dX11_lookAtBookFor_8 (by decide) (fun cz10 => ?_) (fun cz10 => ?_)
    · skip
      refine lv_bipush (v := (-2)) hx hb dX11_lookAtBookFor_19 (by decide) ?_
      rw [hQ]
      exact W.iret (v := (-2 : Int32)) hx hb hr (fun t ht hW => ⟨(-2 : Int32), rfl, (by show (-2 : Int) < 0 ∨ (0 ≤ p1.toInt ∧ p1.toInt ≤ 3 ∧ 0 ≤ p2.toInt ∧ p2.toInt ≤ 6); omega), ht⟩) (fun _ h => absurd h List.not_mem_nil) dX11_lookAtBookFor_21
    · skip
      exact absurd cz10 (by decide)
  · obtain rfl := er.symm
    have bz11 := fb_rng p2
    have zz12 : ¬ p2.toInt < (0 : Int) := fun h9 => cz4 (zi_lt.mpr h9)
    have bz13 := hcV 0
    have zz14 : (cV 0).toInt ≤ p2.toInt := zi_le.mp cz5
    refine lv_if_eq (tgt := 19) hx hb dX11_lookAtBookFor_8 (by decide) (fun cz15 => ?_) (fun cz15 => ?_)
    · skip
      refine lv_bipush (v := (-2)) hx hb dX11_lookAtBookFor_19 (by decide) ?_
      rw [hQ]
      exact W.iret (v := (-2 : Int32)) hx hb hr (fun t ht hW => ⟨(-2 : Int32), rfl, (by show (-2 : Int) < 0 ∨ (0 ≤ p1.toInt ∧ p1.toInt ≤ 3 ∧ 0 ≤ p2.toInt ∧ p2.toInt ≤ 6); omega), ht⟩) (fun _ h => absurd h List.not_mem_nil) dX11_lookAtBookFor_21
    · skip
      exact absurd cz15 (by decide)
  · obtain rfl := er.symm
    have bz16 := fb_rng p2
    have zz17 : ¬ p2.toInt < (0 : Int) := fun h9 => cz6 (zi_lt.mpr h9)
    have bz18 := hcV 0
    have zz19 : ¬ (cV 0).toInt ≤ p2.toInt := fun h9 => cz7 (zi_le.mpr h9)
    refine lv_if_eq (tgt := 19) hx hb dX11_lookAtBookFor_8 (by decide) (fun cz20 => ?_) (fun cz20 => ?_)
    · skip
      exact absurd cz20 (by decide)
    · skip
      refine lv_aload_n hx hb dX11_lookAtBookFor_11 rfl (lv_at hl 0 rfl) ?_
      refine lv_iload_n hx hb dX11_lookAtBookFor_12 rfl (lv_at hl 1 rfl) ?_
      have hPc := hP
      refine vp_callSi (va_Run.run (va_runV (As := [.int p1]) (rest := []) ⟨hx, hb, hml, hown, hts⟩ (c_X11_lookAtBook l dC dI k qX tapeX actsX nowX trialX storyX attemptX orderSearchX routeSearchX setSearchX probeX image0X image1X image2X aX qV vV bV cV wV aV eV qL0 vL0 sL0 lL0 qL1 vL1 sL1 lL1 qL2 vL2 sL2 lL2 qL3 vL3 sL3 lL3 p1 hbV hcV hwV heV hsL0 hsL1 hsL2 hsL3) (cwV 1 hts (gk_V (wl_mem 5 rfl) (wl_mem 6 rfl) (wl_mem 7 rfl) (wl_mem 8 rfl) (fun w h => List.mem_cons_of_mem _ (List.mem_append_right _ (List.mem_append_right _ (List.mem_append_right _ (List.mem_append_left _ h))))) wkg_c_X11_lookAtBook) rfl rfl rfl (by decide +kernel) ⟨Nat.le_of_ble_eq_true rfl, Nat.le_of_ble_eq_true rfl⟩) ⟨fun a U g mk q => by obtain ⟨q0, qP, qK⟩ := q; exact ⟨q0, qP, va_K.moved (u := U) (U := U.calling g mk a) (Vm.Alike.refl U.vm) qK⟩, va_recv hK hPc (ci := 11) (q0 := 0) rfl rfl, fun U hU hW => ⟨rfl, by rw [hU]; exact hPc, va_K.moved hW.alike hK⟩⟩ rfl rfl hl.1 rfl (lv_room (Nat.le_of_ble_eq_true rfl)) dX11_lookAtBookFor_13 ⟨Nat.le_of_ble_eq_true rfl, Nat.le_of_ble_eq_true rfl⟩)) (fun rz22 gz21 => ?_)
      clear hPc
      have pz23 := gz21
      have pz23 : rz22.toInt < 0 ∨ (0 ≤ p1.toInt ∧ p1.toInt ≤ 3) := pz23
      refine lv_goto (tgt := 21) hx hb dX11_lookAtBookFor_16 (by decide) ?_
      rw [hQ]
      exact W.iret (v := rz22) hx hb hr (fun t ht hW => ⟨rz22, rfl, (by show rz22.toInt < 0 ∨ (0 ≤ p1.toInt ∧ p1.toInt ≤ 3 ∧ 0 ≤ p2.toInt ∧ p2.toInt ≤ 6); omega), ht⟩) (fun _ h => absurd h List.not_mem_nil) dX11_lookAtBookFor_21
def wk_c_X11_fitsWithLoad : List Cond := .code yX11_fitsWithLoad cX11_fitsWithLoad 4 (some .boolean) :: ([.fieldLink RX11 37 "SagMemory" "trial" "LSagMemory$Plan;", .fieldLink RX11 33 "SagMemory" "now" "LSagMemory$Plan;", .methodLink RX11 425 yX3_take, .instanceMethod yX3_take, .selects RX3 yX3_take yX3_take, .initialized RX3, .fieldLink RX11 444 "SagMemory$Plan" "loads" "[I", .fieldLink RX11 49 "SagMemory" "attempt" "LSagMemory$Story;", .methodLink RX11 412 yX8_tell, .instanceMethod yX8_tell, .selects RX8 yX8_tell yX8_tell, .initialized RX8, .fieldLink RX11 85 "SagMemory" "slots" "[LSagMemory$Slot;", .methodLink RX11 300 yX6_tellsOf, .instanceMethod yX6_tellsOf, .selects RX6 yX6_tellsOf yX6_tellsOf, .initialized RX6] ++ (wsX110 ++ (wk_c_X3_take ++ (wsX30 ++ (wk_c_X8_tell ++ (wk_c_X6_tellsOf ++ []))))))
theorem wkg_c_X11_fitsWithLoad : wk_c_X11_fitsWithLoad.all goodWord = true := by decide +kernel
set_option maxHeartbeats 4000000 in
set_option maxRecDepth 100000 in
theorem c_X11_fitsWithLoad (l : Launch) (dC : Nat → ClassId) (dI : Nat → Nat → Nat) (k : Nat → ClassId) (sz : Nat) (qX : Nat → Nat) (tapeX : Nat) (actsX : Nat) (storyX : Nat) (orderSearchX : Nat) (routeSearchX : Nat) (setSearchX : Nat) (probeX : Nat) (image0X : Nat) (image1X : Nat) (image2X : Nat) (aX : Nat → Nat → Int32) (qV : Nat → Nat) (vV : Nat → Int32) (bV : Nat → Int32) (cV : Nat → Int32) (wV : Nat → Int32) (aV : Nat → Nat → Int32) (eV : Nat → Nat → Int32) (qN : Nat → Nat) (vN : Nat → Int32) (aN : Nat → Nat → Int32) (eN : Nat → Nat → Int32) (qP : Nat → Nat) (vP : Nat → Int32) (aP : Nat → Nat → Int32) (eP : Nat → Nat → Int32) (qZ : Nat → Nat) (sZ : Nat → Nat → Nat) (vZ : Nat → Nat → Int32) (nZ : Nat → Nat → Int32) (aZ : Nat → Nat → Nat → Int32) (qL0 : Nat → Nat) (vL0 : Nat → Int32) (sL0 : Nat → Int32) (lL0 : Nat → Nat → Int64) (qL1 : Nat → Nat) (vL1 : Nat → Int32) (sL1 : Nat → Int32) (lL1 : Nat → Nat → Int64) (qL2 : Nat → Nat) (vL2 : Nat → Int32) (sL2 : Nat → Int32) (lL2 : Nat → Nat → Int64) (qL3 : Nat → Nat) (vL3 : Nat → Int32) (sL3 : Nat → Int32) (lL3 : Nat → Nat → Int64) (p1 : Int32) (p2 : Int32) (p3 : Int32) (hbV : Rg 0 3 bV) (hcV : Rg 0 7 cV) (hwV : Rg 0 5 wV) (heV : RgA 0 99 eV) (heN : RgA 0 99 eN) (heP : RgA 0 99 eP) (hnZ : ∀ t9, Rg 0 8 (nZ t9)) (hsL0 : Rg 0 60 sL0) (hsL1 : Rg 0 60 sL1) (hsL2 : Rg 0 60 sL2) (hsL3 : Rg 0 60 sL3) (hp0 : 0 ≤ p1.toInt ∧ p1.toInt ≤ 3) (hp1 : 0 ≤ p2.toInt ∧ p2.toInt ≤ 6) (hp2 : 0 ≤ p3.toInt ∧ p3.toInt ≤ 99) : Met l yX11_fitsWithLoad wk_c_X11_fitsWithLoad ({ frames := 4, cells := 0, slots := 0, locals := 152 }) (va_Pc [.ref (qX 0), .int p1, .int p2, .int p3] (fun U => U.heap.size = sz ∧ va_P (dC, dI) vwCl (List.flatten [(wPlan qP k vP aP eP), (wState (sZ 0) k (vZ 0) (nZ 0) (aZ 0)), (wState (sZ 1) k (vZ 1) (nZ 1) (aZ 1)), (wState (sZ 2) k (vZ 2) (nZ 2) (aZ 2)), (wState (sZ 3) k (vZ 3) (nZ 3) (aZ 3)), (wState (sZ 4) k (vZ 4) (nZ 4) (aZ 4)), (wState (sZ 5) k (vZ 5) (nZ 5) (aZ 5)), (wState (sZ 6) k (vZ 6) (nZ 6) (aZ 6)), (wState (sZ 7) k (vZ 7) (nZ 7) (aZ 7))] ++ List.flatten [(wSag qX k tapeX (qV 0) actsX (qN 0) (qP 0) storyX (qZ 0) orderSearchX routeSearchX setSearchX probeX (qL0 0) (qL1 0) (qL2 0) (qL3 0) image0X image1X image2X aX), (wValley qV k vV bV cV wV aV eV), (wPlan qN k vN aN eN), (wStoO qZ k (qV 0) (qP 0) (sZ 0 0) (sZ 1 0) (sZ 2 0) (sZ 3 0) (sZ 4 0) (sZ 5 0) (sZ 6 0) (sZ 7 0)), (wSlot qL0 k vL0 sL0 lL0), (wSlot qL1 k vL1 sL1 lL1), (wSlot qL2 k vL2 sL2 lL2), (wSlot qL3 k vL3 sL3 lL3)]) U.heap ∧ va_K (dC, dI) vwCl (tK k) U ∧ va_D (fun _ => True) (List.flatten [(wPlan qP k vP aP eP), (wState (sZ 0) k (vZ 0) (nZ 0) (aZ 0)), (wState (sZ 1) k (vZ 1) (nZ 1) (aZ 1)), (wState (sZ 2) k (vZ 2) (nZ 2) (aZ 2)), (wState (sZ 3) k (vZ 3) (nZ 3) (aZ 3)), (wState (sZ 4) k (vZ 4) (nZ 4) (aZ 4)), (wState (sZ 5) k (vZ 5) (nZ 5) (aZ 5)), (wState (sZ 6) k (vZ 6) (nZ 6) (aZ 6)), (wState (sZ 7) k (vZ 7) (nZ 7) (aZ 7))] ++ List.flatten [(wSag qX k tapeX (qV 0) actsX (qN 0) (qP 0) storyX (qZ 0) orderSearchX routeSearchX setSearchX probeX (qL0 0) (qL1 0) (qL2 0) (qL3 0) image0X image1X image2X aX), (wValley qV k vV bV cV wV aV eV), (wPlan qN k vN aN eN), (wStoO qZ k (qV 0) (qP 0) (sZ 0 0) (sZ 1 0) (sZ 2 0) (sZ 3 0) (sZ 4 0) (sZ 5 0) (sZ 6 0) (sZ 7 0)), (wSlot qL0 k vL0 sL0 lL0), (wSlot qL1 k vL1 sL1 lL1), (wSlot qL2 k vL2 sL2 lL2), (wSlot qL3 k vL3 sL3 lL3)]))) (va_Qi (fun (r : Int32) (_ : Unit) => (r.toInt = 0 ∨ r.toInt = 1)) (fun (_ : Unit) (t : State) => ∃ (vP' : Nat → Int32) (aP' : Nat → Nat → Int32) (eP' : Nat → Nat → Int32) (vZ' : Nat → Nat → Int32) (nZ' : Nat → Nat → Int32) (aZ' : Nat → Nat → Nat → Int32), RgA 0 99 eP' ∧ (∀ t9, Rg 0 8 (nZ' t9)) ∧ va_P (dC, dI) vwCl (List.flatten [(wPlan qP k vP' aP' eP'), (wState (sZ 0) k (vZ' 0) (nZ' 0) (aZ' 0)), (wState (sZ 1) k (vZ' 1) (nZ' 1) (aZ' 1)), (wState (sZ 2) k (vZ' 2) (nZ' 2) (aZ' 2)), (wState (sZ 3) k (vZ' 3) (nZ' 3) (aZ' 3)), (wState (sZ 4) k (vZ' 4) (nZ' 4) (aZ' 4)), (wState (sZ 5) k (vZ' 5) (nZ' 5) (aZ' 5)), (wState (sZ 6) k (vZ' 6) (nZ' 6) (aZ' 6)), (wState (sZ 7) k (vZ' 7) (nZ' 7) (aZ' 7))] ++ List.flatten [(wSag qX k tapeX (qV 0) actsX (qN 0) (qP 0) storyX (qZ 0) orderSearchX routeSearchX setSearchX probeX (qL0 0) (qL1 0) (qL2 0) (qL3 0) image0X image1X image2X aX), (wValley qV k vV bV cV wV aV eV), (wPlan qN k vN aN eN), (wStoO qZ k (qV 0) (qP 0) (sZ 0 0) (sZ 1 0) (sZ 2 0) (sZ 3 0) (sZ 4 0) (sZ 5 0) (sZ 6 0) (sZ 7 0)), (wSlot qL0 k vL0 sL0 lL0), (wSlot qL1 k vL1 sL1 lL1), (wSlot qL2 k vL2 sL2 lL2), (wSlot qL3 k vL3 sL3 lL3)]) t.heap) (va_A (List.flatten [(wPlan qP k vP aP eP), (wState (sZ 0) k (vZ 0) (nZ 0) (aZ 0)), (wState (sZ 1) k (vZ 1) (nZ 1) (aZ 1)), (wState (sZ 2) k (vZ 2) (nZ 2) (aZ 2)), (wState (sZ 3) k (vZ 3) (nZ 3) (aZ 3)), (wState (sZ 4) k (vZ 4) (nZ 4) (aZ 4)), (wState (sZ 5) k (vZ 5) (nZ 5) (aZ 5)), (wState (sZ 6) k (vZ 6) (nZ 6) (aZ 6)), (wState (sZ 7) k (vZ 7) (nZ 7) (aZ 7))] ++ List.flatten [(wSag qX k tapeX (qV 0) actsX (qN 0) (qP 0) storyX (qZ 0) orderSearchX routeSearchX setSearchX probeX (qL0 0) (qL1 0) (qL2 0) (qL3 0) image0X image1X image2X aX), (wValley qV k vV bV cV wV aV eV), (wPlan qN k vN aN eN), (wStoO qZ k (qV 0) (qP 0) (sZ 0 0) (sZ 1 0) (sZ 2 0) (sZ 3 0) (sZ 4 0) (sZ 5 0) (sZ 6 0) (sZ 7 0)), (wSlot qL0 k vL0 sL0 lL0), (wSlot qL1 k vL1 sL1 lL1), (wSlot qL2 k vL2 sL2 lL2), (wSlot qL3 k vL3 sL3 lL3)]) sz)) 0 0 (va_A (List.flatten [(wPlan qP k vP aP eP), (wState (sZ 0) k (vZ 0) (nZ 0) (aZ 0)), (wState (sZ 1) k (vZ 1) (nZ 1) (aZ 1)), (wState (sZ 2) k (vZ 2) (nZ 2) (aZ 2)), (wState (sZ 3) k (vZ 3) (nZ 3) (aZ 3)), (wState (sZ 4) k (vZ 4) (nZ 4) (aZ 4)), (wState (sZ 5) k (vZ 5) (nZ 5) (aZ 5)), (wState (sZ 6) k (vZ 6) (nZ 6) (aZ 6)), (wState (sZ 7) k (vZ 7) (nZ 7) (aZ 7))] ++ List.flatten [(wSag qX k tapeX (qV 0) actsX (qN 0) (qP 0) storyX (qZ 0) orderSearchX routeSearchX setSearchX probeX (qL0 0) (qL1 0) (qL2 0) (qL3 0) image0X image1X image2X aX), (wValley qV k vV bV cV wV aV eV), (wPlan qN k vN aN eN), (wStoO qZ k (qV 0) (qP 0) (sZ 0 0) (sZ 1 0) (sZ 2 0) (sZ 3 0) (sZ 4 0) (sZ 5 0) (sZ 6 0) (sZ 7 0)), (wSlot qL0 k vL0 sL0 lL0), (wSlot qL1 k vL1 sL1 lL1), (wSlot qL2 k vL2 sL2 lL2), (wSlot qL3 k vL3 sL3 lL3)]) sz) := by
  refine Met.ofW (cc := cX11_fitsWithLoad) (maxL := 4) (ret := (some .boolean)) (by decide) rfl ?_
  intro p e s m args below meth c s₁ B hml hv
  obtain ⟨rfl, hsz, hP, hK, hD0⟩ := hv
  have hx := B.exec
  have hb := B.bytes
  have hr := B.returns
  have hts := atoms_spec (ws := wk_c_X11_fitsWithLoad) B.pre
  have hown : s.vm.findClass RX11 = some m.cls := findClass_of_methodNamed B.named
  have hlocks := B.notSynchronized
  subst hsz
  have hD := hD0.self (sz := s.heap.size)
  generalize hAe : va_A (List.flatten [(wPlan qP k vP aP eP), (wState (sZ 0) k (vZ 0) (nZ 0) (aZ 0)), (wState (sZ 1) k (vZ 1) (nZ 1) (aZ 1)), (wState (sZ 2) k (vZ 2) (nZ 2) (aZ 2)), (wState (sZ 3) k (vZ 3) (nZ 3) (aZ 3)), (wState (sZ 4) k (vZ 4) (nZ 4) (aZ 4)), (wState (sZ 5) k (vZ 5) (nZ 5) (aZ 5)), (wState (sZ 6) k (vZ 6) (nZ 6) (aZ 6)), (wState (sZ 7) k (vZ 7) (nZ 7) (aZ 7))] ++ List.flatten [(wSag qX k tapeX (qV 0) actsX (qN 0) (qP 0) storyX (qZ 0) orderSearchX routeSearchX setSearchX probeX (qL0 0) (qL1 0) (qL2 0) (qL3 0) image0X image1X image2X aX), (wValley qV k vV bV cV wV aV eV), (wPlan qN k vN aN eN), (wStoO qZ k (qV 0) (qP 0) (sZ 0 0) (sZ 1 0) (sZ 2 0) (sZ 3 0) (sZ 4 0) (sZ 5 0) (sZ 6 0) (sZ 7 0)), (wSlot qL0 k vL0 sL0 lL0), (wSlot qL1 k vL1 sL1 lL1), (wSlot qL2 k vL2 sL2 lL2), (wSlot qL3 k vL3 sL3 lL3)]) s.heap.size = A at hD ⊢
  have hA : ∀ q : Nat, s.heap.size ≤ q → A q := fun q h => by rw [← hAe]; exact Or.inr h
  have hS : va_S A s.heap s.heap [] := va_S.rf
  have hP : va_P (dC, dI) vwCl (List.flatten [(wPlan qP k vP aP eP), (wState (sZ 0) k (vZ 0) (nZ 0) (aZ 0)), (wState (sZ 1) k (vZ 1) (nZ 1) (aZ 1)), (wState (sZ 2) k (vZ 2) (nZ 2) (aZ 2)), (wState (sZ 3) k (vZ 3) (nZ 3) (aZ 3)), (wState (sZ 4) k (vZ 4) (nZ 4) (aZ 4)), (wState (sZ 5) k (vZ 5) (nZ 5) (aZ 5)), (wState (sZ 6) k (vZ 6) (nZ 6) (aZ 6)), (wState (sZ 7) k (vZ 7) (nZ 7) (aZ 7))] ++ List.flatten [(wSag qX k tapeX (qV 0) actsX (qN 0) (qP 0) storyX (qZ 0) orderSearchX routeSearchX setSearchX probeX (qL0 0) (qL1 0) (qL2 0) (qL3 0) image0X image1X image2X aX), (wValley qV k vV bV cV wV aV eV), (wPlan qN k vN aN eN), (wStoO qZ k (qV 0) (qP 0) (sZ 0 0) (sZ 1 0) (sZ 2 0) (sZ 3 0) (sZ 4 0) (sZ 5 0) (sZ 6 0) (sZ 7 0)), (wSlot qL0 k vL0 sL0 lL0), (wSlot qL1 k vL1 sL1 lL1), (wSlot qL2 k vL2 sL2 lL2), (wSlot qL3 k vL3 sL3 lL3)]) s.heap := hP
  have hl := lv_entry ([.ref (qX 0), .int p1, .int p2, .int p3]) (n := 4) (Nat.le_of_ble_eq_true rfl)
  rw [lg_entry_eq]
  generalize (lg_sl ([.ref (qX 0), .int p1, .int p2, .int p3]) ++ List.replicate (4 - (lg_sl ([.ref (qX 0), .int p1, .int p2, .int p3])).length) Slot.unset).toArray = ls at hl ⊢
  have hl : lv_has ls 4 [(0, .ref (qX 0)), (1, .int p1), (2, .int p2), (3, .int p3)] := hl
  refine w_gen (fun Q hQ => ?_)
  refine lv_aload_n hx hb dX11_fitsWithLoad_0 rfl (lv_at hl 0 rfl) ?_
  refine va_get (D := (dC, dI)) (ci := 11) (v := .ref (qP 0)) (C := RX11) (T := TX11) (N := 15) hx hb hts (fun w h => List.mem_cons_of_mem _ (List.mem_append_right _ (List.mem_append_left _ h))) hown hK hP 91 rfl rfl 4 (by decide) (hts (.fieldLink RX11 37 "SagMemory" "trial" "LSagMemory$Plan;") (wl_mem 0 rfl)) (fun _ h9 => h9) rfl dX11_fitsWithLoad_1 ?_
  refine lv_aload_n hx hb dX11_fitsWithLoad_4 rfl (lv_at hl 0 rfl) ?_
  refine va_get (D := (dC, dI)) (ci := 11) (v := .ref (qN 0)) (C := RX11) (T := TX11) (N := 15) hx hb hts (fun w h => List.mem_cons_of_mem _ (List.mem_append_right _ (List.mem_append_left _ h))) hown hK hP 91 rfl rfl 3 (by decide) (hts (.fieldLink RX11 33 "SagMemory" "now" "LSagMemory$Plan;") (wl_mem 1 rfl)) (fun _ h9 => h9) rfl dX11_fitsWithLoad_5 ?_
  have hPc := hP.sub (ws' := (List.flatten [(wPlan qP k vP aP eP)] ++ List.flatten [(wPlan qN k vN aN eN)])) [0, 1, 2, 104, 105, 106] rfl
  have hC : [0, 1, 2, 104, 105, 106].map (fun i => (List.flatten [(wPlan qP k vP aP eP), (wState (sZ 0) k (vZ 0) (nZ 0) (aZ 0)), (wState (sZ 1) k (vZ 1) (nZ 1) (aZ 1)), (wState (sZ 2) k (vZ 2) (nZ 2) (aZ 2)), (wState (sZ 3) k (vZ 3) (nZ 3) (aZ 3)), (wState (sZ 4) k (vZ 4) (nZ 4) (aZ 4)), (wState (sZ 5) k (vZ 5) (nZ 5) (aZ 5)), (wState (sZ 6) k (vZ 6) (nZ 6) (aZ 6)), (wState (sZ 7) k (vZ 7) (nZ 7) (aZ 7))] ++ List.flatten [(wSag qX k tapeX (qV 0) actsX (qN 0) (qP 0) storyX (qZ 0) orderSearchX routeSearchX setSearchX probeX (qL0 0) (qL1 0) (qL2 0) (qL3 0) image0X image1X image2X aX), (wValley qV k vV bV cV wV aV eV), (wPlan qN k vN aN eN), (wStoO qZ k (qV 0) (qP 0) (sZ 0 0) (sZ 1 0) (sZ 2 0) (sZ 3 0) (sZ 4 0) (sZ 5 0) (sZ 6 0) (sZ 7 0)), (wSlot qL0 k vL0 sL0 lL0), (wSlot qL1 k vL1 sL1 lL1), (wSlot qL2 k vL2 sL2 lL2), (wSlot qL3 k vL3 sL3 lL3)])[i]?) = (List.flatten [(wPlan qP k vP aP eP)] ++ List.flatten [(wPlan qN k vN aN eN)]).map some := rfl
  have hDc := hD.sub [0, 1, 2, 104, 105, 106] (by decide) hC
  have hFc := va_free hD hS hA [0, 1, 2, 104, 105, 106] hC
  refine va_callv (va_runV (As := [.ref (qN 0)]) (rest := []) ⟨hx, hb, hml, hown, hts⟩ (c_X3_take l dC dI k s.heap.size qP vP aP eP qN vN aN eN heP heN) (cwV 1 hts (gk_V (wl_mem 2 rfl) (wl_mem 3 rfl) (wl_mem 4 rfl) (wl_mem 5 rfl) (fun w h => List.mem_cons_of_mem _ (List.mem_append_right _ (List.mem_append_right _ (List.mem_append_left _ h)))) wkg_c_X3_take) rfl rfl rfl (by decide +kernel) ⟨Nat.le_of_ble_eq_true rfl, Nat.le_of_ble_eq_true rfl⟩) ⟨fun a U g mk q => by obtain ⟨q0, q1, qP, qK, qD⟩ := q; exact ⟨q0, q1, qP, va_K.moved (u := U) (U := U.calling g mk a) (Vm.Alike.refl U.vm) qK, qD⟩, va_recv hK hPc (ci := 3) (q0 := 0) rfl rfl, fun U hU hW => ⟨rfl, by rw [hU], by rw [hU]; exact hPc, va_K.moved hW.alike hK, hDc.weaken (fun _ _ _ _ => trivial)⟩⟩ rfl rfl hl.1 rfl (lv_room (Nat.le_of_ble_eq_true rfl)) dX11_fitsWithLoad_8 ⟨Nat.le_of_ble_eq_true rfl, Nat.le_of_ble_eq_true rfl⟩) hS (fun q _ h => hFc q h) hFc (fun u t H1 locs ht hvm gz1 hB hz1 hk1 hS => ?_)
  obtain ⟨vz3, az4, ez5, hez5, hP1⟩ := hB
  rw [ht] at hP1
  obtain ⟨hP, hD⟩ := w_callR hP hD hk1 hP1 [0] rfl rfl (wk_memC [11] rfl) rfl [some 0, none, none, none, none, none, none, none, none] rfl rfl
  clear hPc hC hDc hFc hk1 hP1
  generalize H1 = H at hP hS ⊢
  have hP : va_P (dC, dI) vwCl (List.flatten [(wPlan qP k vz3 az4 ez5), (wState (sZ 0) k (vZ 0) (nZ 0) (aZ 0)), (wState (sZ 1) k (vZ 1) (nZ 1) (aZ 1)), (wState (sZ 2) k (vZ 2) (nZ 2) (aZ 2)), (wState (sZ 3) k (vZ 3) (nZ 3) (aZ 3)), (wState (sZ 4) k (vZ 4) (nZ 4) (aZ 4)), (wState (sZ 5) k (vZ 5) (nZ 5) (aZ 5)), (wState (sZ 6) k (vZ 6) (nZ 6) (aZ 6)), (wState (sZ 7) k (vZ 7) (nZ 7) (aZ 7))] ++ List.flatten [(wSag qX k tapeX (qV 0) actsX (qN 0) (qP 0) storyX (qZ 0) orderSearchX routeSearchX setSearchX probeX (qL0 0) (qL1 0) (qL2 0) (qL3 0) image0X image1X image2X aX), (wValley qV k vV bV cV wV aV eV), (wPlan qN k vN aN eN), (wStoO qZ k (qV 0) (qP 0) (sZ 0 0) (sZ 1 0) (sZ 2 0) (sZ 3 0) (sZ 4 0) (sZ 5 0) (sZ 6 0) (sZ 7 0)), (wSlot qL0 k vL0 sL0 lL0), (wSlot qL1 k vL1 sL1 lL1), (wSlot qL2 k vL2 sL2 lL2), (wSlot qL3 k vL3 sL3 lL3)]) H := hP
  have hD : va_D A (List.flatten [(wPlan qP k vz3 az4 ez5), (wState (sZ 0) k (vZ 0) (nZ 0) (aZ 0)), (wState (sZ 1) k (vZ 1) (nZ 1) (aZ 1)), (wState (sZ 2) k (vZ 2) (nZ 2) (aZ 2)), (wState (sZ 3) k (vZ 3) (nZ 3) (aZ 3)), (wState (sZ 4) k (vZ 4) (nZ 4) (aZ 4)), (wState (sZ 5) k (vZ 5) (nZ 5) (aZ 5)), (wState (sZ 6) k (vZ 6) (nZ 6) (aZ 6)), (wState (sZ 7) k (vZ 7) (nZ 7) (aZ 7))] ++ List.flatten [(wSag qX k tapeX (qV 0) actsX (qN 0) (qP 0) storyX (qZ 0) orderSearchX routeSearchX setSearchX probeX (qL0 0) (qL1 0) (qL2 0) (qL3 0) image0X image1X image2X aX), (wValley qV k vV bV cV wV aV eV), (wPlan qN k vN aN eN), (wStoO qZ k (qV 0) (qP 0) (sZ 0 0) (sZ 1 0) (sZ 2 0) (sZ 3 0) (sZ 4 0) (sZ 5 0) (sZ 6 0) (sZ 7 0)), (wSlot qL0 k vL0 sL0 lL0), (wSlot qL1 k vL1 sL1 lL1), (wSlot qL2 k vL2 sL2 lL2), (wSlot qL3 k vL3 sL3 lL3)]) := hD
  refine W.widen (k := 0) (n := 0) (Nat.le_refl 0) (Nat.le_refl 0) ?_
  refine lv_aload_n hx hb dX11_fitsWithLoad_11 rfl (lv_at hl 0 rfl) ?_
  refine va_get (D := (dC, dI)) (ci := 11) (v := .ref (qP 0)) (C := RX11) (T := TX11) (N := 15) hx hb hts (fun w h => List.mem_cons_of_mem _ (List.mem_append_right _ (List.mem_append_left _ h))) hown hK hP 91 rfl rfl 4 (by decide) (hts (.fieldLink RX11 37 "SagMemory" "trial" "LSagMemory$Plan;") (wl_mem 0 rfl)) (fun _ h9 => h9) rfl dX11_fitsWithLoad_12 ?_
  refine va_get (D := (dC, dI)) (ci := 3) (v := .ref (qP 1)) (C := RX3) (T := TX3) (N := 4) hx hb hts (fun w h => List.mem_cons_of_mem _ (List.mem_append_right _ (List.mem_append_right _ (List.mem_append_right _ (List.mem_append_left _ h))))) hown hK hP 0 rfl rfl 0 (by decide) (hts (.fieldLink RX11 444 "SagMemory$Plan" "loads" "[I") (wl_mem 6 rfl)) (fun _ h9 => h9) rfl dX11_fitsWithLoad_15 ?_
  refine lv_iload_n hx hb dX11_fitsWithLoad_18 rfl (lv_at hl 2 rfl) ?_
  refine lv_iload_n hx hb dX11_fitsWithLoad_19 rfl (lv_at hl 3 rfl) ?_
  refine va_iast hx hb hK hP hD hS 1 0 rfl rfl (vp_in_iff.mpr ⟨by omega, by omega⟩) dX11_fitsWithLoad_20 (fun H locs hP hD hS => ?_)
  obtain ⟨fz6, efz6, hP, hD⟩ : ∃ fz6 : Nat → Int32, fz6 = upd (ez5 0) p2.toNatClampNeg p3 ∧ va_P (dC, dI) vwCl (List.flatten [(wPlan qP k vz3 az4 (va_up ez5 0 fz6)), (wState (sZ 0) k (vZ 0) (nZ 0) (aZ 0)), (wState (sZ 1) k (vZ 1) (nZ 1) (aZ 1)), (wState (sZ 2) k (vZ 2) (nZ 2) (aZ 2)), (wState (sZ 3) k (vZ 3) (nZ 3) (aZ 3)), (wState (sZ 4) k (vZ 4) (nZ 4) (aZ 4)), (wState (sZ 5) k (vZ 5) (nZ 5) (aZ 5)), (wState (sZ 6) k (vZ 6) (nZ 6) (aZ 6)), (wState (sZ 7) k (vZ 7) (nZ 7) (aZ 7))] ++ List.flatten [(wSag qX k tapeX (qV 0) actsX (qN 0) (qP 0) storyX (qZ 0) orderSearchX routeSearchX setSearchX probeX (qL0 0) (qL1 0) (qL2 0) (qL3 0) image0X image1X image2X aX), (wValley qV k vV bV cV wV aV eV), (wPlan qN k vN aN eN), (wStoO qZ k (qV 0) (qP 0) (sZ 0 0) (sZ 1 0) (sZ 2 0) (sZ 3 0) (sZ 4 0) (sZ 5 0) (sZ 6 0) (sZ 7 0)), (wSlot qL0 k vL0 sL0 lL0), (wSlot qL1 k vL1 sL1 lL1), (wSlot qL2 k vL2 sL2 lL2), (wSlot qL3 k vL3 sL3 lL3)]) H ∧ va_D A (List.flatten [(wPlan qP k vz3 az4 (va_up ez5 0 fz6)), (wState (sZ 0) k (vZ 0) (nZ 0) (aZ 0)), (wState (sZ 1) k (vZ 1) (nZ 1) (aZ 1)), (wState (sZ 2) k (vZ 2) (nZ 2) (aZ 2)), (wState (sZ 3) k (vZ 3) (nZ 3) (aZ 3)), (wState (sZ 4) k (vZ 4) (nZ 4) (aZ 4)), (wState (sZ 5) k (vZ 5) (nZ 5) (aZ 5)), (wState (sZ 6) k (vZ 6) (nZ 6) (aZ 6)), (wState (sZ 7) k (vZ 7) (nZ 7) (aZ 7))] ++ List.flatten [(wSag qX k tapeX (qV 0) actsX (qN 0) (qP 0) storyX (qZ 0) orderSearchX routeSearchX setSearchX probeX (qL0 0) (qL1 0) (qL2 0) (qL3 0) image0X image1X image2X aX), (wValley qV k vV bV cV wV aV eV), (wPlan qN k vN aN eN), (wStoO qZ k (qV 0) (qP 0) (sZ 0 0) (sZ 1 0) (sZ 2 0) (sZ 3 0) (sZ 4 0) (sZ 5 0) (sZ 6 0) (sZ 7 0)), (wSlot qL0 k vL0 sL0 lL0), (wSlot qL1 k vL1 sL1 lL1), (wSlot qL2 k vL2 sL2 lL2), (wSlot qL3 k vL3 sL3 lL3)]) := ⟨_, rfl, hP, hD⟩
  have hfz6 : Rg 0 99 fz6 := by rw [efz6]; exact rg_upd (hez5 0) (by show 0 ≤ p3.toInt ∧ p3.toInt ≤ 99; omega)
  have kfz6 : fz6 p2.toNatClampNeg = p3 := by rw [efz6]; exact pk_us
  refine lv_aload_n hx hb dX11_fitsWithLoad_21 rfl (lv_at hl 0 rfl) ?_
  refine va_get (D := (dC, dI)) (ci := 11) (v := .ref (qZ 0)) (C := RX11) (T := TX11) (N := 15) hx hb hts (fun w h => List.mem_cons_of_mem _ (List.mem_append_right _ (List.mem_append_left _ h))) hown hK hP 91 rfl rfl 6 (by decide) (hts (.fieldLink RX11 49 "SagMemory" "attempt" "LSagMemory$Story;") (wl_mem 7 rfl)) (fun _ h9 => h9) rfl dX11_fitsWithLoad_22 ?_
  have hPc : va_P (dC, dI) vwCl (List.flatten [(wState (sZ 0) k (vZ 0) (nZ 0) (aZ 0)), (wState (sZ 1) k (vZ 1) (nZ 1) (aZ 1)), (wState (sZ 2) k (vZ 2) (nZ 2) (aZ 2)), (wState (sZ 3) k (vZ 3) (nZ 3) (aZ 3)), (wState (sZ 4) k (vZ 4) (nZ 4) (aZ 4)), (wState (sZ 5) k (vZ 5) (nZ 5) (aZ 5)), (wState (sZ 6) k (vZ 6) (nZ 6) (aZ 6)), (wState (sZ 7) k (vZ 7) (nZ 7) (aZ 7))] ++ List.flatten [(wStoO qZ k (qV 0) (qP 0) (sZ 0 0) (sZ 1 0) (sZ 2 0) (sZ 3 0) (sZ 4 0) (sZ 5 0) (sZ 6 0) (sZ 7 0)), (wValley qV k vV bV cV wV aV eV), (wPlan qP k vz3 az4 (va_up ez5 0 fz6))]) H := wc_subP hP [1, 2, 3, 4, 5, 6, 7, 8, 12, 10, 0] rfl
  have hDc : va_D A (List.flatten [(wState (sZ 0) k (vZ 0) (nZ 0) (aZ 0)), (wState (sZ 1) k (vZ 1) (nZ 1) (aZ 1)), (wState (sZ 2) k (vZ 2) (nZ 2) (aZ 2)), (wState (sZ 3) k (vZ 3) (nZ 3) (aZ 3)), (wState (sZ 4) k (vZ 4) (nZ 4) (aZ 4)), (wState (sZ 5) k (vZ 5) (nZ 5) (aZ 5)), (wState (sZ 6) k (vZ 6) (nZ 6) (aZ 6)), (wState (sZ 7) k (vZ 7) (nZ 7) (aZ 7))] ++ List.flatten [(wStoO qZ k (qV 0) (qP 0) (sZ 0 0) (sZ 1 0) (sZ 2 0) (sZ 3 0) (sZ 4 0) (sZ 5 0) (sZ 6 0) (sZ 7 0)), (wValley qV k vV bV cV wV aV eV), (wPlan qP k vz3 az4 (va_up ez5 0 fz6))]) := wc_subD hD [1, 2, 3, 4, 5, 6, 7, 8, 12, 10, 0] rfl rfl
  have hFc := wc_free hDc hS hA
  refine va_callv (va_runV (As := []) (rest := []) ⟨hx, hb, hml, hown, hts⟩ (c_X8_tell l dC dI k H.size qZ sZ vZ nZ aZ qV vV bV cV wV aV eV qP vz3 az4 (va_up ez5 0 fz6) hnZ hbV hcV hwV heV (rga_up hez5 hfz6)) (cwV 0 hts (gk_V (wl_mem 8 rfl) (wl_mem 9 rfl) (wl_mem 10 rfl) (wl_mem 11 rfl) (fun w h => List.mem_cons_of_mem _ (List.mem_append_right _ (List.mem_append_right _ (List.mem_append_right _ (List.mem_append_right _ (List.mem_append_left _ h)))))) wkg_c_X8_tell) rfl rfl rfl (by decide +kernel) ⟨Nat.le_of_ble_eq_true rfl, Nat.le_of_ble_eq_true rfl⟩) ⟨fun a U g mk q => by obtain ⟨q0, q1, qP, qK, qD⟩ := q; exact ⟨q0, q1, qP, va_K.moved (u := U) (U := U.calling g mk a) (Vm.Alike.refl U.vm) qK, qD⟩, va_recv hK hPc (ci := 8) (q0 := 88) rfl rfl, fun U hU hW => ⟨rfl, by rw [hU], by rw [hU]; exact hPc, va_K.moved hW.alike hK, hDc.weaken (fun _ _ _ _ => trivial)⟩⟩ rfl rfl hl.1 rfl (lv_room (Nat.le_of_ble_eq_true rfl)) dX11_fitsWithLoad_25 ⟨Nat.le_of_ble_eq_true rfl, Nat.le_of_ble_eq_true rfl⟩) hS (fun q _ h => hFc q h) hFc (fun u t H1 locs ht hvm gz7 hB hz1 hk1 hS => ?_)
  obtain ⟨vz9, nz10, az11, hnz10, hP1⟩ := hB
  rw [ht] at hP1
  obtain ⟨hP, hD⟩ := w_callR hP hD hk1 hP1 [1, 2, 3, 4, 5, 6, 7, 8] rfl rfl (wk_memC [12, 10, 0] rfl) rfl [none, some 0, some 1, some 2, some 3, some 4, some 5, some 6, some 7] rfl rfl
  clear hPc hDc hFc hk1 hP1
  generalize H1 = H at hP hS ⊢
  have hP : va_P (dC, dI) vwCl (List.flatten [(wPlan qP k vz3 az4 (va_up ez5 0 fz6)), (wState (sZ 0) k (vz9 0) (nz10 0) (az11 0)), (wState (sZ 1) k (vz9 1) (nz10 1) (az11 1)), (wState (sZ 2) k (vz9 2) (nz10 2) (az11 2)), (wState (sZ 3) k (vz9 3) (nz10 3) (az11 3)), (wState (sZ 4) k (vz9 4) (nz10 4) (az11 4)), (wState (sZ 5) k (vz9 5) (nz10 5) (az11 5)), (wState (sZ 6) k (vz9 6) (nz10 6) (az11 6)), (wState (sZ 7) k (vz9 7) (nz10 7) (az11 7))] ++ List.flatten [(wSag qX k tapeX (qV 0) actsX (qN 0) (qP 0) storyX (qZ 0) orderSearchX routeSearchX setSearchX probeX (qL0 0) (qL1 0) (qL2 0) (qL3 0) image0X image1X image2X aX), (wValley qV k vV bV cV wV aV eV), (wPlan qN k vN aN eN), (wStoO qZ k (qV 0) (qP 0) (sZ 0 0) (sZ 1 0) (sZ 2 0) (sZ 3 0) (sZ 4 0) (sZ 5 0) (sZ 6 0) (sZ 7 0)), (wSlot qL0 k vL0 sL0 lL0), (wSlot qL1 k vL1 sL1 lL1), (wSlot qL2 k vL2 sL2 lL2), (wSlot qL3 k vL3 sL3 lL3)]) H := hP
  have hD : va_D A (List.flatten [(wPlan qP k vz3 az4 (va_up ez5 0 fz6)), (wState (sZ 0) k (vz9 0) (nz10 0) (az11 0)), (wState (sZ 1) k (vz9 1) (nz10 1) (az11 1)), (wState (sZ 2) k (vz9 2) (nz10 2) (az11 2)), (wState (sZ 3) k (vz9 3) (nz10 3) (az11 3)), (wState (sZ 4) k (vz9 4) (nz10 4) (az11 4)), (wState (sZ 5) k (vz9 5) (nz10 5) (az11 5)), (wState (sZ 6) k (vz9 6) (nz10 6) (az11 6)), (wState (sZ 7) k (vz9 7) (nz10 7) (az11 7))] ++ List.flatten [(wSag qX k tapeX (qV 0) actsX (qN 0) (qP 0) storyX (qZ 0) orderSearchX routeSearchX setSearchX probeX (qL0 0) (qL1 0) (qL2 0) (qL3 0) image0X image1X image2X aX), (wValley qV k vV bV cV wV aV eV), (wPlan qN k vN aN eN), (wStoO qZ k (qV 0) (qP 0) (sZ 0 0) (sZ 1 0) (sZ 2 0) (sZ 3 0) (sZ 4 0) (sZ 5 0) (sZ 6 0) (sZ 7 0)), (wSlot qL0 k vL0 sL0 lL0), (wSlot qL1 k vL1 sL1 lL1), (wSlot qL2 k vL2 sL2 lL2), (wSlot qL3 k vL3 sL3 lL3)]) := hD
  refine W.widen (k := 0) (n := 0) (Nat.le_refl 0) (Nat.le_refl 0) ?_
  refine lv_aload_n hx hb dX11_fitsWithLoad_28 rfl (lv_at hl 0 rfl) ?_
  refine va_get (D := (dC, dI)) (ci := 11) (v := .ref (qX 3)) (C := RX11) (T := TX11) (N := 15) hx hb hts (fun w h => List.mem_cons_of_mem _ (List.mem_append_right _ (List.mem_append_left _ h))) hown hK hP 91 rfl rfl 13 (by decide) (hts (.fieldLink RX11 85 "SagMemory" "slots" "[LSagMemory$Slot;") (wl_mem 12 rfl)) (fun _ h9 => h9) rfl dX11_fitsWithLoad_29 ?_
  refine lv_iload_n hx hb dX11_fitsWithLoad_32 rfl (lv_at hl 1 rfl) ?_
  rcases (show p1 = 0 ∨ p1 = 1 ∨ p1 = 2 ∨ p1 = 3 by simp only [zi_eq]; show p1.toInt = 0 ∨ p1.toInt = 1 ∨ p1.toInt = 2 ∨ p1.toInt = 3; omega) with cz12 | cz12 | cz12 | cz12
  · skip
    have zz13 : p1.toInt = (0 : Int) := zi_eq.mp cz12
    refine W.eq (g2 := F0 m 33 ls [.int 0, .ref (qX 3)]) (by rw [cz12]) ?_
    refine va_aldq hx hb hK hP 94 6 rfl rfl (by unfold vp_in; decide) dX11_fitsWithLoad_33 ?_
    refine W.eq (g2 := F0 m 34 ls [.ref (qL0 0)]) rfl ?_
    refine lv_aload_n hx hb dX11_fitsWithLoad_34 rfl (lv_at hl 0 rfl) ?_
    refine va_get (D := (dC, dI)) (ci := 11) (v := .ref (qZ 0)) (C := RX11) (T := TX11) (N := 15) hx hb hts (fun w h => List.mem_cons_of_mem _ (List.mem_append_right _ (List.mem_append_left _ h))) hown hK hP 91 rfl rfl 6 (by decide) (hts (.fieldLink RX11 49 "SagMemory" "attempt" "LSagMemory$Story;") (wl_mem 7 rfl)) (fun _ h9 => h9) rfl dX11_fitsWithLoad_35 ?_
    have hPc : va_P (dC, dI) vwCl (List.flatten [(wSlot qL0 k vL0 sL0 lL0), (wStoO qZ k (qV 0) (qP 0) (sZ 0 0) (sZ 1 0) (sZ 2 0) (sZ 3 0) (sZ 4 0) (sZ 5 0) (sZ 6 0) (sZ 7 0)), (wState (sZ 0) k (vz9 0) (nz10 0) (az11 0)), (wState (sZ 1) k (vz9 1) (nz10 1) (az11 1)), (wState (sZ 2) k (vz9 2) (nz10 2) (az11 2)), (wState (sZ 3) k (vz9 3) (nz10 3) (az11 3)), (wState (sZ 4) k (vz9 4) (nz10 4) (az11 4)), (wState (sZ 5) k (vz9 5) (nz10 5) (az11 5)), (wState (sZ 6) k (vz9 6) (nz10 6) (az11 6)), (wState (sZ 7) k (vz9 7) (nz10 7) (az11 7)), (wValley qV k vV bV cV wV aV eV)]) H := wc_subP1 hP [13, 12, 1, 2, 3, 4, 5, 6, 7, 8, 10] rfl
    refine vp_callSi (va_Run.run (va_runV (As := [.ref (qZ 0)]) (rest := []) ⟨hx, hb, hml, hown, hts⟩ (c_X6_tellsOf l dC dI k qL0 vL0 sL0 lL0 qZ sZ (qP 0) vz9 nz10 az11 qV vV bV cV wV aV eV hsL0 hnz10 hbV hcV hwV heV) (cwV 1 hts (gk_V (wl_mem 13 rfl) (wl_mem 14 rfl) (wl_mem 15 rfl) (wl_mem 16 rfl) (fun w h => List.mem_cons_of_mem _ (List.mem_append_right _ (List.mem_append_right _ (List.mem_append_right _ (List.mem_append_right _ (List.mem_append_right _ (List.mem_append_left _ h))))))) wkg_c_X6_tellsOf) rfl rfl rfl (by decide +kernel) ⟨Nat.le_of_ble_eq_true rfl, Nat.le_of_ble_eq_true rfl⟩) ⟨fun a U g mk q => by obtain ⟨q0, qP, qK⟩ := q; exact ⟨q0, qP, va_K.moved (u := U) (U := U.calling g mk a) (Vm.Alike.refl U.vm) qK⟩, va_recv hK hPc (ci := 6) (q0 := 0) rfl rfl, fun U hU hW => ⟨rfl, by rw [hU]; exact hPc, va_K.moved hW.alike hK⟩⟩ rfl rfl hl.1 rfl (lv_room (Nat.le_of_ble_eq_true rfl)) dX11_fitsWithLoad_38 ⟨Nat.le_of_ble_eq_true rfl, Nat.le_of_ble_eq_true rfl⟩)) (fun rz15 gz14 => ?_)
    clear hPc
    have pz16 := gz14
    have pz16 : rz15.toInt = 0 ∨ rz15.toInt = 1 := pz16
    rw [hQ]
    exact W.zret (v := rz15) hx hb hr (zb_nar (by show rz15.toInt = 0 ∨ rz15.toInt = 1; omega)) (fun t ht hW => ⟨⟨rz15, (), rfl, (by show rz15.toInt = 0 ∨ rz15.toInt = 1; omega), vz3, az4, (va_up ez5 0 fz6), vz9, nz10, az11, (rga_up hez5 hfz6), hnz10, by rw [ht]; exact hP⟩, hS.F ht⟩) hS.2.2 dX11_fitsWithLoad_41
  · skip
    have zz17 : p1.toInt = (1 : Int) := zi_eq.mp cz12
    refine W.eq (g2 := F0 m 33 ls [.int 1, .ref (qX 3)]) (by rw [cz12]) ?_
    refine va_aldq hx hb hK hP 94 6 rfl rfl (by unfold vp_in; decide) dX11_fitsWithLoad_33 ?_
    refine W.eq (g2 := F0 m 34 ls [.ref (qL1 0)]) rfl ?_
    refine lv_aload_n hx hb dX11_fitsWithLoad_34 rfl (lv_at hl 0 rfl) ?_
    refine va_get (D := (dC, dI)) (ci := 11) (v := .ref (qZ 0)) (C := RX11) (T := TX11) (N := 15) hx hb hts (fun w h => List.mem_cons_of_mem _ (List.mem_append_right _ (List.mem_append_left _ h))) hown hK hP 91 rfl rfl 6 (by decide) (hts (.fieldLink RX11 49 "SagMemory" "attempt" "LSagMemory$Story;") (wl_mem 7 rfl)) (fun _ h9 => h9) rfl dX11_fitsWithLoad_35 ?_
    have hPc : va_P (dC, dI) vwCl (List.flatten [(wSlot qL1 k vL1 sL1 lL1), (wStoO qZ k (qV 0) (qP 0) (sZ 0 0) (sZ 1 0) (sZ 2 0) (sZ 3 0) (sZ 4 0) (sZ 5 0) (sZ 6 0) (sZ 7 0)), (wState (sZ 0) k (vz9 0) (nz10 0) (az11 0)), (wState (sZ 1) k (vz9 1) (nz10 1) (az11 1)), (wState (sZ 2) k (vz9 2) (nz10 2) (az11 2)), (wState (sZ 3) k (vz9 3) (nz10 3) (az11 3)), (wState (sZ 4) k (vz9 4) (nz10 4) (az11 4)), (wState (sZ 5) k (vz9 5) (nz10 5) (az11 5)), (wState (sZ 6) k (vz9 6) (nz10 6) (az11 6)), (wState (sZ 7) k (vz9 7) (nz10 7) (az11 7)), (wValley qV k vV bV cV wV aV eV)]) H := wc_subP1 hP [14, 12, 1, 2, 3, 4, 5, 6, 7, 8, 10] rfl
    refine vp_callSi (va_Run.run (va_runV (As := [.ref (qZ 0)]) (rest := []) ⟨hx, hb, hml, hown, hts⟩ (c_X6_tellsOf l dC dI k qL1 vL1 sL1 lL1 qZ sZ (qP 0) vz9 nz10 az11 qV vV bV cV wV aV eV hsL1 hnz10 hbV hcV hwV heV) (cwV 1 hts (gk_V (wl_mem 13 rfl) (wl_mem 14 rfl) (wl_mem 15 rfl) (wl_mem 16 rfl) (fun w h => List.mem_cons_of_mem _ (List.mem_append_right _ (List.mem_append_right _ (List.mem_append_right _ (List.mem_append_right _ (List.mem_append_right _ (List.mem_append_left _ h))))))) wkg_c_X6_tellsOf) rfl rfl rfl (by decide +kernel) ⟨Nat.le_of_ble_eq_true rfl, Nat.le_of_ble_eq_true rfl⟩) ⟨fun a U g mk q => by obtain ⟨q0, qP, qK⟩ := q; exact ⟨q0, qP, va_K.moved (u := U) (U := U.calling g mk a) (Vm.Alike.refl U.vm) qK⟩, va_recv hK hPc (ci := 6) (q0 := 0) rfl rfl, fun U hU hW => ⟨rfl, by rw [hU]; exact hPc, va_K.moved hW.alike hK⟩⟩ rfl rfl hl.1 rfl (lv_room (Nat.le_of_ble_eq_true rfl)) dX11_fitsWithLoad_38 ⟨Nat.le_of_ble_eq_true rfl, Nat.le_of_ble_eq_true rfl⟩)) (fun rz19 gz18 => ?_)
    clear hPc
    have pz20 := gz18
    have pz20 : rz19.toInt = 0 ∨ rz19.toInt = 1 := pz20
    rw [hQ]
    exact W.zret (v := rz19) hx hb hr (zb_nar (by show rz19.toInt = 0 ∨ rz19.toInt = 1; omega)) (fun t ht hW => ⟨⟨rz19, (), rfl, (by show rz19.toInt = 0 ∨ rz19.toInt = 1; omega), vz3, az4, (va_up ez5 0 fz6), vz9, nz10, az11, (rga_up hez5 hfz6), hnz10, by rw [ht]; exact hP⟩, hS.F ht⟩) hS.2.2 dX11_fitsWithLoad_41
  · skip
    have zz21 : p1.toInt = (2 : Int) := zi_eq.mp cz12
    refine W.eq (g2 := F0 m 33 ls [.int 2, .ref (qX 3)]) (by rw [cz12]) ?_
    refine va_aldq hx hb hK hP 94 6 rfl rfl (by unfold vp_in; decide) dX11_fitsWithLoad_33 ?_
    refine W.eq (g2 := F0 m 34 ls [.ref (qL2 0)]) rfl ?_
    refine lv_aload_n hx hb dX11_fitsWithLoad_34 rfl (lv_at hl 0 rfl) ?_
    refine va_get (D := (dC, dI)) (ci := 11) (v := .ref (qZ 0)) (C := RX11) (T := TX11) (N := 15) hx hb hts (fun w h => List.mem_cons_of_mem _ (List.mem_append_right _ (List.mem_append_left _ h))) hown hK hP 91 rfl rfl 6 (by decide) (hts (.fieldLink RX11 49 "SagMemory" "attempt" "LSagMemory$Story;") (wl_mem 7 rfl)) (fun _ h9 => h9) rfl dX11_fitsWithLoad_35 ?_
    have hPc : va_P (dC, dI) vwCl (List.flatten [(wSlot qL2 k vL2 sL2 lL2), (wStoO qZ k (qV 0) (qP 0) (sZ 0 0) (sZ 1 0) (sZ 2 0) (sZ 3 0) (sZ 4 0) (sZ 5 0) (sZ 6 0) (sZ 7 0)), (wState (sZ 0) k (vz9 0) (nz10 0) (az11 0)), (wState (sZ 1) k (vz9 1) (nz10 1) (az11 1)), (wState (sZ 2) k (vz9 2) (nz10 2) (az11 2)), (wState (sZ 3) k (vz9 3) (nz10 3) (az11 3)), (wState (sZ 4) k (vz9 4) (nz10 4) (az11 4)), (wState (sZ 5) k (vz9 5) (nz10 5) (az11 5)), (wState (sZ 6) k (vz9 6) (nz10 6) (az11 6)), (wState (sZ 7) k (vz9 7) (nz10 7) (az11 7)), (wValley qV k vV bV cV wV aV eV)]) H := wc_subP1 hP [15, 12, 1, 2, 3, 4, 5, 6, 7, 8, 10] rfl
    refine vp_callSi (va_Run.run (va_runV (As := [.ref (qZ 0)]) (rest := []) ⟨hx, hb, hml, hown, hts⟩ (c_X6_tellsOf l dC dI k qL2 vL2 sL2 lL2 qZ sZ (qP 0) vz9 nz10 az11 qV vV bV cV wV aV eV hsL2 hnz10 hbV hcV hwV heV) (cwV 1 hts (gk_V (wl_mem 13 rfl) (wl_mem 14 rfl) (wl_mem 15 rfl) (wl_mem 16 rfl) (fun w h => List.mem_cons_of_mem _ (List.mem_append_right _ (List.mem_append_right _ (List.mem_append_right _ (List.mem_append_right _ (List.mem_append_right _ (List.mem_append_left _ h))))))) wkg_c_X6_tellsOf) rfl rfl rfl (by decide +kernel) ⟨Nat.le_of_ble_eq_true rfl, Nat.le_of_ble_eq_true rfl⟩) ⟨fun a U g mk q => by obtain ⟨q0, qP, qK⟩ := q; exact ⟨q0, qP, va_K.moved (u := U) (U := U.calling g mk a) (Vm.Alike.refl U.vm) qK⟩, va_recv hK hPc (ci := 6) (q0 := 0) rfl rfl, fun U hU hW => ⟨rfl, by rw [hU]; exact hPc, va_K.moved hW.alike hK⟩⟩ rfl rfl hl.1 rfl (lv_room (Nat.le_of_ble_eq_true rfl)) dX11_fitsWithLoad_38 ⟨Nat.le_of_ble_eq_true rfl, Nat.le_of_ble_eq_true rfl⟩)) (fun rz23 gz22 => ?_)
    clear hPc
    have pz24 := gz22
    have pz24 : rz23.toInt = 0 ∨ rz23.toInt = 1 := pz24
    rw [hQ]
    exact W.zret (v := rz23) hx hb hr (zb_nar (by show rz23.toInt = 0 ∨ rz23.toInt = 1; omega)) (fun t ht hW => ⟨⟨rz23, (), rfl, (by show rz23.toInt = 0 ∨ rz23.toInt = 1; omega), vz3, az4, (va_up ez5 0 fz6), vz9, nz10, az11, (rga_up hez5 hfz6), hnz10, by rw [ht]; exact hP⟩, hS.F ht⟩) hS.2.2 dX11_fitsWithLoad_41
  · skip
    have zz25 : p1.toInt = (3 : Int) := zi_eq.mp cz12
    refine W.eq (g2 := F0 m 33 ls [.int 3, .ref (qX 3)]) (by rw [cz12]) ?_
    refine va_aldq hx hb hK hP 94 6 rfl rfl (by unfold vp_in; decide) dX11_fitsWithLoad_33 ?_
    refine W.eq (g2 := F0 m 34 ls [.ref (qL3 0)]) rfl ?_
    refine lv_aload_n hx hb dX11_fitsWithLoad_34 rfl (lv_at hl 0 rfl) ?_
    refine va_get (D := (dC, dI)) (ci := 11) (v := .ref (qZ 0)) (C := RX11) (T := TX11) (N := 15) hx hb hts (fun w h => List.mem_cons_of_mem _ (List.mem_append_right _ (List.mem_append_left _ h))) hown hK hP 91 rfl rfl 6 (by decide) (hts (.fieldLink RX11 49 "SagMemory" "attempt" "LSagMemory$Story;") (wl_mem 7 rfl)) (fun _ h9 => h9) rfl dX11_fitsWithLoad_35 ?_
    have hPc : va_P (dC, dI) vwCl (List.flatten [(wSlot qL3 k vL3 sL3 lL3), (wStoO qZ k (qV 0) (qP 0) (sZ 0 0) (sZ 1 0) (sZ 2 0) (sZ 3 0) (sZ 4 0) (sZ 5 0) (sZ 6 0) (sZ 7 0)), (wState (sZ 0) k (vz9 0) (nz10 0) (az11 0)), (wState (sZ 1) k (vz9 1) (nz10 1) (az11 1)), (wState (sZ 2) k (vz9 2) (nz10 2) (az11 2)), (wState (sZ 3) k (vz9 3) (nz10 3) (az11 3)), (wState (sZ 4) k (vz9 4) (nz10 4) (az11 4)), (wState (sZ 5) k (vz9 5) (nz10 5) (az11 5)), (wState (sZ 6) k (vz9 6) (nz10 6) (az11 6)), (wState (sZ 7) k (vz9 7) (nz10 7) (az11 7)), (wValley qV k vV bV cV wV aV eV)]) H := wc_subP1 hP [16, 12, 1, 2, 3, 4, 5, 6, 7, 8, 10] rfl
    refine vp_callSi (va_Run.run (va_runV (As := [.ref (qZ 0)]) (rest := []) ⟨hx, hb, hml, hown, hts⟩ (c_X6_tellsOf l dC dI k qL3 vL3 sL3 lL3 qZ sZ (qP 0) vz9 nz10 az11 qV vV bV cV wV aV eV hsL3 hnz10 hbV hcV hwV heV) (cwV 1 hts (gk_V (wl_mem 13 rfl) (wl_mem 14 rfl) (wl_mem 15 rfl) (wl_mem 16 rfl) (fun w h => List.mem_cons_of_mem _ (List.mem_append_right _ (List.mem_append_right _ (List.mem_append_right _ (List.mem_append_right _ (List.mem_append_right _ (List.mem_append_left _ h))))))) wkg_c_X6_tellsOf) rfl rfl rfl (by decide +kernel) ⟨Nat.le_of_ble_eq_true rfl, Nat.le_of_ble_eq_true rfl⟩) ⟨fun a U g mk q => by obtain ⟨q0, qP, qK⟩ := q; exact ⟨q0, qP, va_K.moved (u := U) (U := U.calling g mk a) (Vm.Alike.refl U.vm) qK⟩, va_recv hK hPc (ci := 6) (q0 := 0) rfl rfl, fun U hU hW => ⟨rfl, by rw [hU]; exact hPc, va_K.moved hW.alike hK⟩⟩ rfl rfl hl.1 rfl (lv_room (Nat.le_of_ble_eq_true rfl)) dX11_fitsWithLoad_38 ⟨Nat.le_of_ble_eq_true rfl, Nat.le_of_ble_eq_true rfl⟩)) (fun rz27 gz26 => ?_)
    clear hPc
    have pz28 := gz26
    have pz28 : rz27.toInt = 0 ∨ rz27.toInt = 1 := pz28
    rw [hQ]
    exact W.zret (v := rz27) hx hb hr (zb_nar (by show rz27.toInt = 0 ∨ rz27.toInt = 1; omega)) (fun t ht hW => ⟨⟨rz27, (), rfl, (by show rz27.toInt = 0 ∨ rz27.toInt = 1; omega), vz3, az4, (va_up ez5 0 fz6), vz9, nz10, az11, (rga_up hez5 hfz6), hnz10, by rw [ht]; exact hP⟩, hS.F ht⟩) hS.2.2 dX11_fitsWithLoad_41
