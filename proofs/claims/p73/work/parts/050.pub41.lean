def wk_c_X11_back : List Cond := .code yX11_back cX11_back 3 (some .int) :: ([.fieldLink RX11 91 "SagMemory" "images" "[LSagMemory$Image;", .fieldLink RX11 376 "SagMemory$Image" "has" "Z", .fieldLink RX11 19 "SagMemory" "told" "LSagMemory$Valley;", .fieldLink RX11 369 "SagMemory$Image" "valley" "LSagMemory$Valley;", .methodLink RX11 112 yX10_take, .instanceMethod yX10_take, .selects RX10 yX10_take yX10_take, .initialized RX10, .fieldLink RX11 26 "SagMemory" "acts" "LSagMemory$Acts;", .fieldLink RX11 372 "SagMemory$Image" "acts" "LSagMemory$Acts;", .methodLink RX11 373 yX0_take, .instanceMethod yX0_take, .selects RX0 yX0_take yX0_take, .initialized RX0, .methodLink RX11 119 yX11_renew, .instanceMethod yX11_renew, .selects RX11 yX11_renew yX11_renew, .initialized RX11] ++ (wsX110 ++ (wsX10 ++ (wk_c_X10_take ++ (wk_c_X0_take ++ (wk_c_X11_renew ++ []))))))
theorem wkg_c_X11_back : wk_c_X11_back.all goodWord = true := by decide +kernel
set_option maxHeartbeats 4000000 in
set_option maxRecDepth 100000 in
theorem c_X11_back (l : Launch) (dC : Nat → ClassId) (dI : Nat → Nat → Nat) (k : Nat → ClassId) (sz : Nat) (qX : Nat → Nat) (tapeX : Nat) (trialX : Nat) (attemptX : Nat) (setSearchX : Nat) (probeX : Nat) (slot0X : Nat) (slot1X : Nat) (slot2X : Nat) (slot3X : Nat) (aX : Nat → Nat → Int32) (qV : Nat → Nat) (vV : Nat → Int32) (bV : Nat → Int32) (cV : Nat → Int32) (wV : Nat → Int32) (aV : Nat → Nat → Int32) (eV : Nat → Nat → Int32) (qA : Nat → Nat) (dA : Nat → Int32) (aA : Nat → Nat → Int32) (qN : Nat → Nat) (vN : Nat → Int32) (aN : Nat → Nat → Int32) (eN : Nat → Nat → Int32) (qY : Nat → Nat) (sY : Nat → Nat → Nat) (vY : Nat → Nat → Int32) (nY : Nat → Nat → Int32) (aY : Nat → Nat → Nat → Int32) (qR : Nat → Nat) (vR : Nat → Int32) (aR : Nat → Nat → Int32) (qU : Nat → Nat) (vU : Nat → Int32) (aU : Nat → Nat → Int32) (qI0 : Nat → Nat) (vI0 : Nat → Int32) (qI1 : Nat → Nat) (vI1 : Nat → Int32) (qI2 : Nat → Nat) (vI2 : Nat → Int32) (qJ0 : Nat → Nat) (vJ0 : Nat → Int32) (bJ0 : Nat → Int32) (cJ0 : Nat → Int32) (wJ0 : Nat → Int32) (aJ0 : Nat → Nat → Int32) (eJ0 : Nat → Nat → Int32) (qJ1 : Nat → Nat) (vJ1 : Nat → Int32) (bJ1 : Nat → Int32) (cJ1 : Nat → Int32) (wJ1 : Nat → Int32) (aJ1 : Nat → Nat → Int32) (eJ1 : Nat → Nat → Int32) (qJ2 : Nat → Nat) (vJ2 : Nat → Int32) (bJ2 : Nat → Int32) (cJ2 : Nat → Int32) (wJ2 : Nat → Int32) (aJ2 : Nat → Nat → Int32) (eJ2 : Nat → Nat → Int32) (qK0 : Nat → Nat) (dK0 : Nat → Int32) (aK0 : Nat → Nat → Int32) (qK1 : Nat → Nat) (dK1 : Nat → Int32) (aK1 : Nat → Nat → Int32) (qK2 : Nat → Nat) (dK2 : Nat → Int32) (aK2 : Nat → Nat → Int32) (p1 : Int32) (hbV : Rg 0 3 bV) (hcV : Rg 0 7 cV) (hwV : Rg 0 5 wV) (heV : RgA 0 99 eV) (hdA : Rg 0 30 dA) (heN : RgA 0 99 eN) (hnY : ∀ t9, Rg 0 8 (nY t9)) (hbJ0 : Rg 0 3 bJ0) (hcJ0 : Rg 0 7 cJ0) (hwJ0 : Rg 0 5 wJ0) (heJ0 : RgA 0 99 eJ0) (hbJ1 : Rg 0 3 bJ1) (hcJ1 : Rg 0 7 cJ1) (hwJ1 : Rg 0 5 wJ1) (heJ1 : RgA 0 99 eJ1) (hbJ2 : Rg 0 3 bJ2) (hcJ2 : Rg 0 7 cJ2) (hwJ2 : Rg 0 5 wJ2) (heJ2 : RgA 0 99 eJ2) (hdK0 : Rg 0 30 dK0) (hdK1 : Rg 0 30 dK1) (hdK2 : Rg 0 30 dK2) : Met l yX11_back wk_c_X11_back ({ frames := 5, cells := 0, slots := 0, locals := 172 }) (va_Pc [.ref (qX 0), .int p1] (fun U => U.heap.size = sz ∧ va_P (dC, dI) vwCl (List.flatten [(wValley qV k vV bV cV wV aV eV), (wActs qA k dA aA), (wPlan qN k vN aN eN), (wState (sY 0) k (vY 0) (nY 0) (aY 0)), (wState (sY 1) k (vY 1) (nY 1) (aY 1)), (wState (sY 2) k (vY 2) (nY 2) (aY 2)), (wState (sY 3) k (vY 3) (nY 3) (aY 3)), (wState (sY 4) k (vY 4) (nY 4) (aY 4)), (wState (sY 5) k (vY 5) (nY 5) (aY 5)), (wState (sY 6) k (vY 6) (nY 6) (aY 6)), (wState (sY 7) k (vY 7) (nY 7) (aY 7)), (wSearch qR k vR aR), (wSearch qU k vU aU)] ++ List.flatten [(wSag qX k tapeX (qV 0) (qA 0) (qN 0) trialX (qY 0) attemptX (qR 0) (qU 0) setSearchX probeX slot0X slot1X slot2X slot3X (qI0 0) (qI1 0) (qI2 0) aX), (wStoO qY k (qV 0) (qN 0) (sY 0 0) (sY 1 0) (sY 2 0) (sY 3 0) (sY 4 0) (sY 5 0) (sY 6 0) (sY 7 0)), (wImage qI0 k (qJ0 0) (qK0 0) vI0), (wImage qI1 k (qJ1 0) (qK1 0) vI1), (wImage qI2 k (qJ2 0) (qK2 0) vI2), (wValley qJ0 k vJ0 bJ0 cJ0 wJ0 aJ0 eJ0), (wValley qJ1 k vJ1 bJ1 cJ1 wJ1 aJ1 eJ1), (wValley qJ2 k vJ2 bJ2 cJ2 wJ2 aJ2 eJ2), (wActs qK0 k dK0 aK0), (wActs qK1 k dK1 aK1), (wActs qK2 k dK2 aK2)]) U.heap ∧ va_K (dC, dI) vwCl (tK k) U ∧ va_D (fun _ => True) (List.flatten [(wValley qV k vV bV cV wV aV eV), (wActs qA k dA aA), (wPlan qN k vN aN eN), (wState (sY 0) k (vY 0) (nY 0) (aY 0)), (wState (sY 1) k (vY 1) (nY 1) (aY 1)), (wState (sY 2) k (vY 2) (nY 2) (aY 2)), (wState (sY 3) k (vY 3) (nY 3) (aY 3)), (wState (sY 4) k (vY 4) (nY 4) (aY 4)), (wState (sY 5) k (vY 5) (nY 5) (aY 5)), (wState (sY 6) k (vY 6) (nY 6) (aY 6)), (wState (sY 7) k (vY 7) (nY 7) (aY 7)), (wSearch qR k vR aR), (wSearch qU k vU aU)] ++ List.flatten [(wSag qX k tapeX (qV 0) (qA 0) (qN 0) trialX (qY 0) attemptX (qR 0) (qU 0) setSearchX probeX slot0X slot1X slot2X slot3X (qI0 0) (qI1 0) (qI2 0) aX), (wStoO qY k (qV 0) (qN 0) (sY 0 0) (sY 1 0) (sY 2 0) (sY 3 0) (sY 4 0) (sY 5 0) (sY 6 0) (sY 7 0)), (wImage qI0 k (qJ0 0) (qK0 0) vI0), (wImage qI1 k (qJ1 0) (qK1 0) vI1), (wImage qI2 k (qJ2 0) (qK2 0) vI2), (wValley qJ0 k vJ0 bJ0 cJ0 wJ0 aJ0 eJ0), (wValley qJ1 k vJ1 bJ1 cJ1 wJ1 aJ1 eJ1), (wValley qJ2 k vJ2 bJ2 cJ2 wJ2 aJ2 eJ2), (wActs qK0 k dK0 aK0), (wActs qK1 k dK1 aK1), (wActs qK2 k dK2 aK2)]))) (va_Qi (fun (r : Int32) (_ : Unit) => True) (fun (_ : Unit) (t : State) => ∃ (vV' : Nat → Int32) (bV' : Nat → Int32) (cV' : Nat → Int32) (wV' : Nat → Int32) (aV' : Nat → Nat → Int32) (eV' : Nat → Nat → Int32) (dA' : Nat → Int32) (aA' : Nat → Nat → Int32) (vN' : Nat → Int32) (aN' : Nat → Nat → Int32) (eN' : Nat → Nat → Int32) (vY' : Nat → Nat → Int32) (nY' : Nat → Nat → Int32) (aY' : Nat → Nat → Nat → Int32) (vR' : Nat → Int32) (aR' : Nat → Nat → Int32) (vU' : Nat → Int32) (aU' : Nat → Nat → Int32), Rg 0 3 bV' ∧ Rg 0 7 cV' ∧ Rg 0 5 wV' ∧ RgA 0 99 eV' ∧ Rg 0 30 dA' ∧ RgA 0 99 eN' ∧ (∀ t9, Rg 0 8 (nY' t9)) ∧ va_P (dC, dI) vwCl (List.flatten [(wValley qV k vV' bV' cV' wV' aV' eV'), (wActs qA k dA' aA'), (wPlan qN k vN' aN' eN'), (wState (sY 0) k (vY' 0) (nY' 0) (aY' 0)), (wState (sY 1) k (vY' 1) (nY' 1) (aY' 1)), (wState (sY 2) k (vY' 2) (nY' 2) (aY' 2)), (wState (sY 3) k (vY' 3) (nY' 3) (aY' 3)), (wState (sY 4) k (vY' 4) (nY' 4) (aY' 4)), (wState (sY 5) k (vY' 5) (nY' 5) (aY' 5)), (wState (sY 6) k (vY' 6) (nY' 6) (aY' 6)), (wState (sY 7) k (vY' 7) (nY' 7) (aY' 7)), (wSearch qR k vR' aR'), (wSearch qU k vU' aU')] ++ List.flatten [(wSag qX k tapeX (qV 0) (qA 0) (qN 0) trialX (qY 0) attemptX (qR 0) (qU 0) setSearchX probeX slot0X slot1X slot2X slot3X (qI0 0) (qI1 0) (qI2 0) aX), (wStoO qY k (qV 0) (qN 0) (sY 0 0) (sY 1 0) (sY 2 0) (sY 3 0) (sY 4 0) (sY 5 0) (sY 6 0) (sY 7 0)), (wImage qI0 k (qJ0 0) (qK0 0) vI0), (wImage qI1 k (qJ1 0) (qK1 0) vI1), (wImage qI2 k (qJ2 0) (qK2 0) vI2), (wValley qJ0 k vJ0 bJ0 cJ0 wJ0 aJ0 eJ0), (wValley qJ1 k vJ1 bJ1 cJ1 wJ1 aJ1 eJ1), (wValley qJ2 k vJ2 bJ2 cJ2 wJ2 aJ2 eJ2), (wActs qK0 k dK0 aK0), (wActs qK1 k dK1 aK1), (wActs qK2 k dK2 aK2)]) t.heap) (va_A (List.flatten [(wValley qV k vV bV cV wV aV eV), (wActs qA k dA aA), (wPlan qN k vN aN eN), (wState (sY 0) k (vY 0) (nY 0) (aY 0)), (wState (sY 1) k (vY 1) (nY 1) (aY 1)), (wState (sY 2) k (vY 2) (nY 2) (aY 2)), (wState (sY 3) k (vY 3) (nY 3) (aY 3)), (wState (sY 4) k (vY 4) (nY 4) (aY 4)), (wState (sY 5) k (vY 5) (nY 5) (aY 5)), (wState (sY 6) k (vY 6) (nY 6) (aY 6)), (wState (sY 7) k (vY 7) (nY 7) (aY 7)), (wSearch qR k vR aR), (wSearch qU k vU aU)] ++ List.flatten [(wSag qX k tapeX (qV 0) (qA 0) (qN 0) trialX (qY 0) attemptX (qR 0) (qU 0) setSearchX probeX slot0X slot1X slot2X slot3X (qI0 0) (qI1 0) (qI2 0) aX), (wStoO qY k (qV 0) (qN 0) (sY 0 0) (sY 1 0) (sY 2 0) (sY 3 0) (sY 4 0) (sY 5 0) (sY 6 0) (sY 7 0)), (wImage qI0 k (qJ0 0) (qK0 0) vI0), (wImage qI1 k (qJ1 0) (qK1 0) vI1), (wImage qI2 k (qJ2 0) (qK2 0) vI2), (wValley qJ0 k vJ0 bJ0 cJ0 wJ0 aJ0 eJ0), (wValley qJ1 k vJ1 bJ1 cJ1 wJ1 aJ1 eJ1), (wValley qJ2 k vJ2 bJ2 cJ2 wJ2 aJ2 eJ2), (wActs qK0 k dK0 aK0), (wActs qK1 k dK1 aK1), (wActs qK2 k dK2 aK2)]) sz)) 0 0 (va_A (List.flatten [(wValley qV k vV bV cV wV aV eV), (wActs qA k dA aA), (wPlan qN k vN aN eN), (wState (sY 0) k (vY 0) (nY 0) (aY 0)), (wState (sY 1) k (vY 1) (nY 1) (aY 1)), (wState (sY 2) k (vY 2) (nY 2) (aY 2)), (wState (sY 3) k (vY 3) (nY 3) (aY 3)), (wState (sY 4) k (vY 4) (nY 4) (aY 4)), (wState (sY 5) k (vY 5) (nY 5) (aY 5)), (wState (sY 6) k (vY 6) (nY 6) (aY 6)), (wState (sY 7) k (vY 7) (nY 7) (aY 7)), (wSearch qR k vR aR), (wSearch qU k vU aU)] ++ List.flatten [(wSag qX k tapeX (qV 0) (qA 0) (qN 0) trialX (qY 0) attemptX (qR 0) (qU 0) setSearchX probeX slot0X slot1X slot2X slot3X (qI0 0) (qI1 0) (qI2 0) aX), (wStoO qY k (qV 0) (qN 0) (sY 0 0) (sY 1 0) (sY 2 0) (sY 3 0) (sY 4 0) (sY 5 0) (sY 6 0) (sY 7 0)), (wImage qI0 k (qJ0 0) (qK0 0) vI0), (wImage qI1 k (qJ1 0) (qK1 0) vI1), (wImage qI2 k (qJ2 0) (qK2 0) vI2), (wValley qJ0 k vJ0 bJ0 cJ0 wJ0 aJ0 eJ0), (wValley qJ1 k vJ1 bJ1 cJ1 wJ1 aJ1 eJ1), (wValley qJ2 k vJ2 bJ2 cJ2 wJ2 aJ2 eJ2), (wActs qK0 k dK0 aK0), (wActs qK1 k dK1 aK1), (wActs qK2 k dK2 aK2)]) sz) := by
  refine Met.ofW (cc := cX11_back) (maxL := 3) (ret := (some .int)) (by decide) rfl ?_
  intro p e s m args below meth c s₁ B hml hv
  obtain ⟨rfl, hsz, hP, hK, hD0⟩ := hv
  have hx := B.exec
  have hb := B.bytes
  have hr := B.returns
  have hts := atoms_spec (ws := wk_c_X11_back) B.pre
  have hown : s.vm.findClass RX11 = some m.cls := findClass_of_methodNamed B.named
  have hlocks := B.notSynchronized
  subst hsz
  have hD := hD0.self (sz := s.heap.size)
  generalize hAe : va_A (List.flatten [(wValley qV k vV bV cV wV aV eV), (wActs qA k dA aA), (wPlan qN k vN aN eN), (wState (sY 0) k (vY 0) (nY 0) (aY 0)), (wState (sY 1) k (vY 1) (nY 1) (aY 1)), (wState (sY 2) k (vY 2) (nY 2) (aY 2)), (wState (sY 3) k (vY 3) (nY 3) (aY 3)), (wState (sY 4) k (vY 4) (nY 4) (aY 4)), (wState (sY 5) k (vY 5) (nY 5) (aY 5)), (wState (sY 6) k (vY 6) (nY 6) (aY 6)), (wState (sY 7) k (vY 7) (nY 7) (aY 7)), (wSearch qR k vR aR), (wSearch qU k vU aU)] ++ List.flatten [(wSag qX k tapeX (qV 0) (qA 0) (qN 0) trialX (qY 0) attemptX (qR 0) (qU 0) setSearchX probeX slot0X slot1X slot2X slot3X (qI0 0) (qI1 0) (qI2 0) aX), (wStoO qY k (qV 0) (qN 0) (sY 0 0) (sY 1 0) (sY 2 0) (sY 3 0) (sY 4 0) (sY 5 0) (sY 6 0) (sY 7 0)), (wImage qI0 k (qJ0 0) (qK0 0) vI0), (wImage qI1 k (qJ1 0) (qK1 0) vI1), (wImage qI2 k (qJ2 0) (qK2 0) vI2), (wValley qJ0 k vJ0 bJ0 cJ0 wJ0 aJ0 eJ0), (wValley qJ1 k vJ1 bJ1 cJ1 wJ1 aJ1 eJ1), (wValley qJ2 k vJ2 bJ2 cJ2 wJ2 aJ2 eJ2), (wActs qK0 k dK0 aK0), (wActs qK1 k dK1 aK1), (wActs qK2 k dK2 aK2)]) s.heap.size = A at hD ⊢
  have hA : ∀ q : Nat, s.heap.size ≤ q → A q := fun q h => by rw [← hAe]; exact Or.inr h
  have hS : va_S A s.heap s.heap [] := va_S.rf
  have hP : va_P (dC, dI) vwCl (List.flatten [(wValley qV k vV bV cV wV aV eV), (wActs qA k dA aA), (wPlan qN k vN aN eN), (wState (sY 0) k (vY 0) (nY 0) (aY 0)), (wState (sY 1) k (vY 1) (nY 1) (aY 1)), (wState (sY 2) k (vY 2) (nY 2) (aY 2)), (wState (sY 3) k (vY 3) (nY 3) (aY 3)), (wState (sY 4) k (vY 4) (nY 4) (aY 4)), (wState (sY 5) k (vY 5) (nY 5) (aY 5)), (wState (sY 6) k (vY 6) (nY 6) (aY 6)), (wState (sY 7) k (vY 7) (nY 7) (aY 7)), (wSearch qR k vR aR), (wSearch qU k vU aU)] ++ List.flatten [(wSag qX k tapeX (qV 0) (qA 0) (qN 0) trialX (qY 0) attemptX (qR 0) (qU 0) setSearchX probeX slot0X slot1X slot2X slot3X (qI0 0) (qI1 0) (qI2 0) aX), (wStoO qY k (qV 0) (qN 0) (sY 0 0) (sY 1 0) (sY 2 0) (sY 3 0) (sY 4 0) (sY 5 0) (sY 6 0) (sY 7 0)), (wImage qI0 k (qJ0 0) (qK0 0) vI0), (wImage qI1 k (qJ1 0) (qK1 0) vI1), (wImage qI2 k (qJ2 0) (qK2 0) vI2), (wValley qJ0 k vJ0 bJ0 cJ0 wJ0 aJ0 eJ0), (wValley qJ1 k vJ1 bJ1 cJ1 wJ1 aJ1 eJ1), (wValley qJ2 k vJ2 bJ2 cJ2 wJ2 aJ2 eJ2), (wActs qK0 k dK0 aK0), (wActs qK1 k dK1 aK1), (wActs qK2 k dK2 aK2)]) s.heap := hP
  have hl := lv_entry ([.ref (qX 0), .int p1]) (n := 3) (Nat.le_of_ble_eq_true rfl)
  rw [lg_entry_eq]
  generalize (lg_sl ([.ref (qX 0), .int p1]) ++ List.replicate (3 - (lg_sl ([.ref (qX 0), .int p1])).length) Slot.unset).toArray = ls at hl ⊢
  have hl : lv_has ls 3 [(0, .ref (qX 0)), (1, .int p1)] := hl
  refine w_gen (fun Q hQ => ?_)
  refine lv_iload_n hx hb dX11_back_0 rfl (lv_at hl 1 rfl) ?_
  refine lv_if_lt (tgt := 9) hx hb dX11_back_1 (by decide) (fun cz1 => ?_) (fun cz1 => ?_)
  · skip
    have bz2 := fb_rng p1
    have zz3 : p1.toInt < (0 : Int) := zi_lt.mp cz1
    refine lv_bipush (v := (-2)) hx hb dX11_back_9 (by decide) ?_
    rw [hQ]
    exact W.iret (v := (-2 : Int32)) hx hb hr (fun t ht hW => ⟨⟨(-2 : Int32), (), rfl, trivial, vV, bV, cV, wV, aV, eV, dA, aA, vN, aN, eN, vY, nY, aY, vR, aR, vU, aU, hbV, hcV, hwV, heV, hdA, heN, hnY, by rw [ht]; exact hP⟩, hS.F ht⟩) hS.2.2 dX11_back_11
  · skip
    have bz4 := fb_rng p1
    have zz5 : ¬ p1.toInt < (0 : Int) := fun h9 => cz1 (zi_lt.mpr h9)
    refine lv_iload_n hx hb dX11_back_4 rfl (lv_at hl 1 rfl) ?_
    refine lv_iconst (v := 3) hx hb dX11_back_5 (by decide) ?_
    refine lv_icmp_lt (tgt := 12) hx hb dX11_back_6 (by decide) (fun cz6 => ?_) (fun cz6 => ?_)
    · skip
      have zz7 : p1.toInt < (3 : Int) := zi_lt.mp cz6
      refine lv_aload_n hx hb dX11_back_12 rfl (lv_at hl 0 rfl) ?_
      refine va_get (D := (dC, dI)) (ci := 11) (v := .ref (qX 4)) (C := RX11) (T := TX11) (N := 15) hx hb hts (fun w h => List.mem_cons_of_mem _ (List.mem_append_right _ (List.mem_append_left _ h))) hown hK hP 109 rfl rfl 14 (by decide) (hts (.fieldLink RX11 91 "SagMemory" "images" "[LSagMemory$Image;") (wl_mem 0 rfl)) (fun _ h9 => h9) rfl dX11_back_13 ?_
      refine lv_iload_n hx hb dX11_back_16 rfl (lv_at hl 1 rfl) ?_
      rcases (show p1 = 0 ∨ p1 = 1 ∨ p1 = 2 by simp only [zi_eq]; show p1.toInt = 0 ∨ p1.toInt = 1 ∨ p1.toInt = 2; omega) with cz8 | cz8 | cz8
      · skip
        have zz9 : p1.toInt = (0 : Int) := zi_eq.mp cz8
        refine W.eq (g2 := F0 m 17 ls [.int 0, .ref (qX 4)]) (by rw [cz8]) ?_
        refine va_aldq hx hb hK hP 113 7 rfl rfl (by unfold vp_in; decide) dX11_back_17 ?_
        refine W.eq (g2 := F0 m 18 ls [.ref (qI0 0)]) rfl ?_
        refine lv_astore_n (lv' := [(2, .ref (qI0 0)), (0, .ref (qX 0)), (1, .int p1)]) hx hb dX11_back_18 rfl hl (by decide) rfl (fun ls hl => ?_)
        refine lv_aload_n hx hb dX11_back_19 rfl (lv_at hl 0 rfl) ?_
        refine va_get (D := (dC, dI)) (ci := 1) (v := .int (vI0 0)) (C := RX1) (T := TX1) (N := 3) hx hb hts (fun w h => List.mem_cons_of_mem _ (List.mem_append_right _ (List.mem_append_right _ (List.mem_append_left _ h)))) hown hK hP 116 rfl rfl 2 (by decide) (hts (.fieldLink RX11 376 "SagMemory$Image" "has" "Z") (wl_mem 1 rfl)) (fun _ h9 => h9) rfl dX11_back_20 ?_
        refine lv_if_ne (tgt := 29) hx hb dX11_back_23 (by decide) (fun cz10 => ?_) (fun cz10 => ?_)
        · skip
          have zz11 : ¬ (vI0 0).toInt = (0 : Int) := fun h9 => cz10 (zi_eq.mpr h9)
          refine lv_aload_n hx hb dX11_back_29 rfl (lv_at hl 1 rfl) ?_
          refine va_get (D := (dC, dI)) (ci := 11) (v := .ref (qV 0)) (C := RX11) (T := TX11) (N := 15) hx hb hts (fun w h => List.mem_cons_of_mem _ (List.mem_append_right _ (List.mem_append_left _ h))) hown hK hP 109 rfl rfl 1 (by decide) (hts (.fieldLink RX11 19 "SagMemory" "told" "LSagMemory$Valley;") (wl_mem 2 rfl)) (fun _ h9 => h9) rfl dX11_back_30 ?_
          refine lv_aload_n hx hb dX11_back_33 rfl (lv_at hl 0 rfl) ?_
          refine va_get (D := (dC, dI)) (ci := 1) (v := .ref (qJ0 0)) (C := RX1) (T := TX1) (N := 3) hx hb hts (fun w h => List.mem_cons_of_mem _ (List.mem_append_right _ (List.mem_append_right _ (List.mem_append_left _ h)))) hown hK hP 116 rfl rfl 0 (by decide) (hts (.fieldLink RX11 369 "SagMemory$Image" "valley" "LSagMemory$Valley;") (wl_mem 3 rfl)) (fun _ h9 => h9) rfl dX11_back_34 ?_
          have hPc := hP.sub (ws' := (List.flatten [(wValley qV k vV bV cV wV aV eV)] ++ List.flatten [(wValley qJ0 k vJ0 bJ0 cJ0 wJ0 aJ0 eJ0)])) [0, 1, 2, 3, 4, 5, 6, 7, 119, 120, 121, 122, 123, 124, 125, 126] rfl
          have hC : [0, 1, 2, 3, 4, 5, 6, 7, 119, 120, 121, 122, 123, 124, 125, 126].map (fun i => (List.flatten [(wValley qV k vV bV cV wV aV eV), (wActs qA k dA aA), (wPlan qN k vN aN eN), (wState (sY 0) k (vY 0) (nY 0) (aY 0)), (wState (sY 1) k (vY 1) (nY 1) (aY 1)), (wState (sY 2) k (vY 2) (nY 2) (aY 2)), (wState (sY 3) k (vY 3) (nY 3) (aY 3)), (wState (sY 4) k (vY 4) (nY 4) (aY 4)), (wState (sY 5) k (vY 5) (nY 5) (aY 5)), (wState (sY 6) k (vY 6) (nY 6) (aY 6)), (wState (sY 7) k (vY 7) (nY 7) (aY 7)), (wSearch qR k vR aR), (wSearch qU k vU aU)] ++ List.flatten [(wSag qX k tapeX (qV 0) (qA 0) (qN 0) trialX (qY 0) attemptX (qR 0) (qU 0) setSearchX probeX slot0X slot1X slot2X slot3X (qI0 0) (qI1 0) (qI2 0) aX), (wStoO qY k (qV 0) (qN 0) (sY 0 0) (sY 1 0) (sY 2 0) (sY 3 0) (sY 4 0) (sY 5 0) (sY 6 0) (sY 7 0)), (wImage qI0 k (qJ0 0) (qK0 0) vI0), (wImage qI1 k (qJ1 0) (qK1 0) vI1), (wImage qI2 k (qJ2 0) (qK2 0) vI2), (wValley qJ0 k vJ0 bJ0 cJ0 wJ0 aJ0 eJ0), (wValley qJ1 k vJ1 bJ1 cJ1 wJ1 aJ1 eJ1), (wValley qJ2 k vJ2 bJ2 cJ2 wJ2 aJ2 eJ2), (wActs qK0 k dK0 aK0), (wActs qK1 k dK1 aK1), (wActs qK2 k dK2 aK2)])[i]?) = (List.flatten [(wValley qV k vV bV cV wV aV eV)] ++ List.flatten [(wValley qJ0 k vJ0 bJ0 cJ0 wJ0 aJ0 eJ0)]).map some := rfl
          have hDc := hD.sub [0, 1, 2, 3, 4, 5, 6, 7, 119, 120, 121, 122, 123, 124, 125, 126] (by decide) hC
          have hFc := va_free hD hS hA [0, 1, 2, 3, 4, 5, 6, 7, 119, 120, 121, 122, 123, 124, 125, 126] hC
          refine va_callv (va_runV (As := [.ref (qJ0 0)]) (rest := []) ⟨hx, hb, hml, hown, hts⟩ (c_X10_take l dC dI k s.heap.size qV vV bV cV wV aV eV qJ0 vJ0 bJ0 cJ0 wJ0 aJ0 eJ0 hbV hcV hwV heV hbJ0 hcJ0 hwJ0 heJ0) (cwV 1 hts (gk_V (wl_mem 4 rfl) (wl_mem 5 rfl) (wl_mem 6 rfl) (wl_mem 7 rfl) (fun w h => List.mem_cons_of_mem _ (List.mem_append_right _ (List.mem_append_right _ (List.mem_append_right _ (List.mem_append_left _ h))))) wkg_c_X10_take) rfl rfl rfl (by decide +kernel) ⟨Nat.le_of_ble_eq_true rfl, Nat.le_of_ble_eq_true rfl⟩) ⟨fun a U g mk q => by obtain ⟨q0, q1, qP, qK, qD⟩ := q; exact ⟨q0, q1, qP, va_K.moved (u := U) (U := U.calling g mk a) (Vm.Alike.refl U.vm) qK, qD⟩, va_recv hK hPc (ci := 10) (q0 := 0) rfl rfl, fun U hU hW => ⟨rfl, by rw [hU], by rw [hU]; exact hPc, va_K.moved hW.alike hK, hDc.weaken (fun _ _ _ _ => trivial)⟩⟩ rfl rfl hl.1 rfl (lv_room (Nat.le_of_ble_eq_true rfl)) dX11_back_37 ⟨Nat.le_of_ble_eq_true rfl, Nat.le_of_ble_eq_true rfl⟩) hS (fun q _ h => hFc q h) hFc (fun u t H1 locs ht hvm gz12 hB hz1 hk1 hS => ?_)
          obtain ⟨vz14, bz15, cz16, wz17, az18, ez19, hbz15, hcz16, hwz17, hez19, hP1⟩ := hB
          rw [ht] at hP1
          obtain ⟨hP, hD⟩ := w_callR hP hD hk1 hP1 [0] rfl rfl (wk_memC [18] rfl) rfl [some 0, none, none, none, none, none, none, none, none, none, none, none, none] rfl rfl
          clear hPc hC hDc hFc hk1 hP1
          generalize H1 = H at hP hS ⊢
          have hP : va_P (dC, dI) vwCl (List.flatten [(wValley qV k vz14 bz15 cz16 wz17 az18 ez19), (wActs qA k dA aA), (wPlan qN k vN aN eN), (wState (sY 0) k (vY 0) (nY 0) (aY 0)), (wState (sY 1) k (vY 1) (nY 1) (aY 1)), (wState (sY 2) k (vY 2) (nY 2) (aY 2)), (wState (sY 3) k (vY 3) (nY 3) (aY 3)), (wState (sY 4) k (vY 4) (nY 4) (aY 4)), (wState (sY 5) k (vY 5) (nY 5) (aY 5)), (wState (sY 6) k (vY 6) (nY 6) (aY 6)), (wState (sY 7) k (vY 7) (nY 7) (aY 7)), (wSearch qR k vR aR), (wSearch qU k vU aU)] ++ List.flatten [(wSag qX k tapeX (qV 0) (qA 0) (qN 0) trialX (qY 0) attemptX (qR 0) (qU 0) setSearchX probeX slot0X slot1X slot2X slot3X (qI0 0) (qI1 0) (qI2 0) aX), (wStoO qY k (qV 0) (qN 0) (sY 0 0) (sY 1 0) (sY 2 0) (sY 3 0) (sY 4 0) (sY 5 0) (sY 6 0) (sY 7 0)), (wImage qI0 k (qJ0 0) (qK0 0) vI0), (wImage qI1 k (qJ1 0) (qK1 0) vI1), (wImage qI2 k (qJ2 0) (qK2 0) vI2), (wValley qJ0 k vJ0 bJ0 cJ0 wJ0 aJ0 eJ0), (wValley qJ1 k vJ1 bJ1 cJ1 wJ1 aJ1 eJ1), (wValley qJ2 k vJ2 bJ2 cJ2 wJ2 aJ2 eJ2), (wActs qK0 k dK0 aK0), (wActs qK1 k dK1 aK1), (wActs qK2 k dK2 aK2)]) H := hP
          have hD : va_D A (List.flatten [(wValley qV k vz14 bz15 cz16 wz17 az18 ez19), (wActs qA k dA aA), (wPlan qN k vN aN eN), (wState (sY 0) k (vY 0) (nY 0) (aY 0)), (wState (sY 1) k (vY 1) (nY 1) (aY 1)), (wState (sY 2) k (vY 2) (nY 2) (aY 2)), (wState (sY 3) k (vY 3) (nY 3) (aY 3)), (wState (sY 4) k (vY 4) (nY 4) (aY 4)), (wState (sY 5) k (vY 5) (nY 5) (aY 5)), (wState (sY 6) k (vY 6) (nY 6) (aY 6)), (wState (sY 7) k (vY 7) (nY 7) (aY 7)), (wSearch qR k vR aR), (wSearch qU k vU aU)] ++ List.flatten [(wSag qX k tapeX (qV 0) (qA 0) (qN 0) trialX (qY 0) attemptX (qR 0) (qU 0) setSearchX probeX slot0X slot1X slot2X slot3X (qI0 0) (qI1 0) (qI2 0) aX), (wStoO qY k (qV 0) (qN 0) (sY 0 0) (sY 1 0) (sY 2 0) (sY 3 0) (sY 4 0) (sY 5 0) (sY 6 0) (sY 7 0)), (wImage qI0 k (qJ0 0) (qK0 0) vI0), (wImage qI1 k (qJ1 0) (qK1 0) vI1), (wImage qI2 k (qJ2 0) (qK2 0) vI2), (wValley qJ0 k vJ0 bJ0 cJ0 wJ0 aJ0 eJ0), (wValley qJ1 k vJ1 bJ1 cJ1 wJ1 aJ1 eJ1), (wValley qJ2 k vJ2 bJ2 cJ2 wJ2 aJ2 eJ2), (wActs qK0 k dK0 aK0), (wActs qK1 k dK1 aK1), (wActs qK2 k dK2 aK2)]) := hD
          refine W.widen (k := 0) (n := 0) (Nat.le_refl 0) (Nat.le_refl 0) ?_
          refine lv_aload_n hx hb dX11_back_40 rfl (lv_at hl 1 rfl) ?_
          refine va_get (D := (dC, dI)) (ci := 11) (v := .ref (qA 0)) (C := RX11) (T := TX11) (N := 15) hx hb hts (fun w h => List.mem_cons_of_mem _ (List.mem_append_right _ (List.mem_append_left _ h))) hown hK hP 109 rfl rfl 2 (by decide) (hts (.fieldLink RX11 26 "SagMemory" "acts" "LSagMemory$Acts;") (wl_mem 8 rfl)) (fun _ h9 => h9) rfl dX11_back_41 ?_
          refine lv_aload_n hx hb dX11_back_44 rfl (lv_at hl 0 rfl) ?_
          refine va_get (D := (dC, dI)) (ci := 1) (v := .ref (qK0 0)) (C := RX1) (T := TX1) (N := 3) hx hb hts (fun w h => List.mem_cons_of_mem _ (List.mem_append_right _ (List.mem_append_right _ (List.mem_append_left _ h)))) hown hK hP 116 rfl rfl 1 (by decide) (hts (.fieldLink RX11 372 "SagMemory$Image" "acts" "LSagMemory$Acts;") (wl_mem 9 rfl)) (fun _ h9 => h9) rfl dX11_back_45 ?_
          have hPc := hP.sub (ws' := (List.flatten [(wActs qA k dA aA)] ++ List.flatten [(wActs qK0 k dK0 aK0)])) [8, 9, 10, 11, 143, 144, 145, 146] rfl
          have hC : [8, 9, 10, 11, 143, 144, 145, 146].map (fun i => (List.flatten [(wValley qV k vz14 bz15 cz16 wz17 az18 ez19), (wActs qA k dA aA), (wPlan qN k vN aN eN), (wState (sY 0) k (vY 0) (nY 0) (aY 0)), (wState (sY 1) k (vY 1) (nY 1) (aY 1)), (wState (sY 2) k (vY 2) (nY 2) (aY 2)), (wState (sY 3) k (vY 3) (nY 3) (aY 3)), (wState (sY 4) k (vY 4) (nY 4) (aY 4)), (wState (sY 5) k (vY 5) (nY 5) (aY 5)), (wState (sY 6) k (vY 6) (nY 6) (aY 6)), (wState (sY 7) k (vY 7) (nY 7) (aY 7)), (wSearch qR k vR aR), (wSearch qU k vU aU)] ++ List.flatten [(wSag qX k tapeX (qV 0) (qA 0) (qN 0) trialX (qY 0) attemptX (qR 0) (qU 0) setSearchX probeX slot0X slot1X slot2X slot3X (qI0 0) (qI1 0) (qI2 0) aX), (wStoO qY k (qV 0) (qN 0) (sY 0 0) (sY 1 0) (sY 2 0) (sY 3 0) (sY 4 0) (sY 5 0) (sY 6 0) (sY 7 0)), (wImage qI0 k (qJ0 0) (qK0 0) vI0), (wImage qI1 k (qJ1 0) (qK1 0) vI1), (wImage qI2 k (qJ2 0) (qK2 0) vI2), (wValley qJ0 k vJ0 bJ0 cJ0 wJ0 aJ0 eJ0), (wValley qJ1 k vJ1 bJ1 cJ1 wJ1 aJ1 eJ1), (wValley qJ2 k vJ2 bJ2 cJ2 wJ2 aJ2 eJ2), (wActs qK0 k dK0 aK0), (wActs qK1 k dK1 aK1), (wActs qK2 k dK2 aK2)])[i]?) = (List.flatten [(wActs qA k dA aA)] ++ List.flatten [(wActs qK0 k dK0 aK0)]).map some := rfl
          have hDc := hD.sub [8, 9, 10, 11, 143, 144, 145, 146] (by decide) hC
          have hFc := va_free hD hS hA [8, 9, 10, 11, 143, 144, 145, 146] hC
          refine va_callv (va_runV (As := [.ref (qK0 0)]) (rest := []) ⟨hx, hb, hml, hown, hts⟩ (c_X0_take l dC dI k H.size qA dA aA qK0 dK0 aK0 hdA hdK0) (cwV 1 hts (gk_V (wl_mem 10 rfl) (wl_mem 11 rfl) (wl_mem 12 rfl) (wl_mem 13 rfl) (fun w h => List.mem_cons_of_mem _ (List.mem_append_right _ (List.mem_append_right _ (List.mem_append_right _ (List.mem_append_right _ (List.mem_append_left _ h)))))) wkg_c_X0_take) rfl rfl rfl (by decide +kernel) ⟨Nat.le_of_ble_eq_true rfl, Nat.le_of_ble_eq_true rfl⟩) ⟨fun a U g mk q => by obtain ⟨q0, q1, qP, qK, qD⟩ := q; exact ⟨q0, q1, qP, va_K.moved (u := U) (U := U.calling g mk a) (Vm.Alike.refl U.vm) qK, qD⟩, va_recv hK hPc (ci := 0) (q0 := 0) rfl rfl, fun U hU hW => ⟨rfl, by rw [hU], by rw [hU]; exact hPc, va_K.moved hW.alike hK, hDc.weaken (fun _ _ _ _ => trivial)⟩⟩ rfl rfl hl.1 rfl (lv_room (Nat.le_of_ble_eq_true rfl)) dX11_back_48 ⟨Nat.le_of_ble_eq_true rfl, Nat.le_of_ble_eq_true rfl⟩) hS (fun q _ h => hFc q h) hFc (fun u t H1 locs ht hvm gz20 hB hz1 hk1 hS => ?_)
          obtain ⟨dz22, az23, hdz22, hP1⟩ := hB
          rw [ht] at hP1
          obtain ⟨hP, hD⟩ := w_callR hP hD hk1 hP1 [1] rfl rfl (wk_memC [21] rfl) rfl [none, some 0, none, none, none, none, none, none, none, none, none, none, none] rfl rfl
          clear hPc hC hDc hFc hk1 hP1
          generalize H1 = H at hP hS ⊢
          have hP : va_P (dC, dI) vwCl (List.flatten [(wValley qV k vz14 bz15 cz16 wz17 az18 ez19), (wActs qA k dz22 az23), (wPlan qN k vN aN eN), (wState (sY 0) k (vY 0) (nY 0) (aY 0)), (wState (sY 1) k (vY 1) (nY 1) (aY 1)), (wState (sY 2) k (vY 2) (nY 2) (aY 2)), (wState (sY 3) k (vY 3) (nY 3) (aY 3)), (wState (sY 4) k (vY 4) (nY 4) (aY 4)), (wState (sY 5) k (vY 5) (nY 5) (aY 5)), (wState (sY 6) k (vY 6) (nY 6) (aY 6)), (wState (sY 7) k (vY 7) (nY 7) (aY 7)), (wSearch qR k vR aR), (wSearch qU k vU aU)] ++ List.flatten [(wSag qX k tapeX (qV 0) (qA 0) (qN 0) trialX (qY 0) attemptX (qR 0) (qU 0) setSearchX probeX slot0X slot1X slot2X slot3X (qI0 0) (qI1 0) (qI2 0) aX), (wStoO qY k (qV 0) (qN 0) (sY 0 0) (sY 1 0) (sY 2 0) (sY 3 0) (sY 4 0) (sY 5 0) (sY 6 0) (sY 7 0)), (wImage qI0 k (qJ0 0) (qK0 0) vI0), (wImage qI1 k (qJ1 0) (qK1 0) vI1), (wImage qI2 k (qJ2 0) (qK2 0) vI2), (wValley qJ0 k vJ0 bJ0 cJ0 wJ0 aJ0 eJ0), (wValley qJ1 k vJ1 bJ1 cJ1 wJ1 aJ1 eJ1), (wValley qJ2 k vJ2 bJ2 cJ2 wJ2 aJ2 eJ2), (wActs qK0 k dK0 aK0), (wActs qK1 k dK1 aK1), (wActs qK2 k dK2 aK2)]) H := hP
          have hD : va_D A (List.flatten [(wValley qV k vz14 bz15 cz16 wz17 az18 ez19), (wActs qA k dz22 az23), (wPlan qN k vN aN eN), (wState (sY 0) k (vY 0) (nY 0) (aY 0)), (wState (sY 1) k (vY 1) (nY 1) (aY 1)), (wState (sY 2) k (vY 2) (nY 2) (aY 2)), (wState (sY 3) k (vY 3) (nY 3) (aY 3)), (wState (sY 4) k (vY 4) (nY 4) (aY 4)), (wState (sY 5) k (vY 5) (nY 5) (aY 5)), (wState (sY 6) k (vY 6) (nY 6) (aY 6)), (wState (sY 7) k (vY 7) (nY 7) (aY 7)), (wSearch qR k vR aR), (wSearch qU k vU aU)] ++ List.flatten [(wSag qX k tapeX (qV 0) (qA 0) (qN 0) trialX (qY 0) attemptX (qR 0) (qU 0) setSearchX probeX slot0X slot1X slot2X slot3X (qI0 0) (qI1 0) (qI2 0) aX), (wStoO qY k (qV 0) (qN 0) (sY 0 0) (sY 1 0) (sY 2 0) (sY 3 0) (sY 4 0) (sY 5 0) (sY 6 0) (sY 7 0)), (wImage qI0 k (qJ0 0) (qK0 0) vI0), (wImage qI1 k (qJ1 0) (qK1 0) vI1), (wImage qI2 k (qJ2 0) (qK2 0) vI2), (wValley qJ0 k vJ0 bJ0 cJ0 wJ0 aJ0 eJ0), (wValley qJ1 k vJ1 bJ1 cJ1 wJ1 aJ1 eJ1), (wValley qJ2 k vJ2 bJ2 cJ2 wJ2 aJ2 eJ2), (wActs qK0 k dK0 aK0), (wActs qK1 k dK1 aK1), (wActs qK2 k dK2 aK2)]) := hD
          refine W.widen (k := 0) (n := 0) (Nat.le_refl 0) (Nat.le_refl 0) ?_
          refine lv_aload_n hx hb dX11_back_51 rfl (lv_at hl 1 rfl) ?_
          have hPc : va_P (dC, dI) vwCl (List.flatten [(wPlan qN k vN aN eN), (wState (sY 0) k (vY 0) (nY 0) (aY 0)), (wState (sY 1) k (vY 1) (nY 1) (aY 1)), (wState (sY 2) k (vY 2) (nY 2) (aY 2)), (wState (sY 3) k (vY 3) (nY 3) (aY 3)), (wState (sY 4) k (vY 4) (nY 4) (aY 4)), (wState (sY 5) k (vY 5) (nY 5) (aY 5)), (wState (sY 6) k (vY 6) (nY 6) (aY 6)), (wState (sY 7) k (vY 7) (nY 7) (aY 7)), (wSearch qR k vR aR), (wSearch qU k vU aU)] ++ List.flatten [(wSag qX k tapeX (qV 0) (qA 0) (qN 0) trialX (qY 0) attemptX (qR 0) (qU 0) setSearchX probeX slot0X slot1X slot2X slot3X (qI0 0) (qI1 0) (qI2 0) aX), (wValley qV k vz14 bz15 cz16 wz17 az18 ez19), (wActs qA k dz22 az23), (wStoO qY k (qV 0) (qN 0) (sY 0 0) (sY 1 0) (sY 2 0) (sY 3 0) (sY 4 0) (sY 5 0) (sY 6 0) (sY 7 0))]) H := wc_subP hP [2, 3, 4, 5, 6, 7, 8, 9, 10, 11, 12, 13, 0, 1, 14] rfl
          have hDc : va_D A (List.flatten [(wPlan qN k vN aN eN), (wState (sY 0) k (vY 0) (nY 0) (aY 0)), (wState (sY 1) k (vY 1) (nY 1) (aY 1)), (wState (sY 2) k (vY 2) (nY 2) (aY 2)), (wState (sY 3) k (vY 3) (nY 3) (aY 3)), (wState (sY 4) k (vY 4) (nY 4) (aY 4)), (wState (sY 5) k (vY 5) (nY 5) (aY 5)), (wState (sY 6) k (vY 6) (nY 6) (aY 6)), (wState (sY 7) k (vY 7) (nY 7) (aY 7)), (wSearch qR k vR aR), (wSearch qU k vU aU)] ++ List.flatten [(wSag qX k tapeX (qV 0) (qA 0) (qN 0) trialX (qY 0) attemptX (qR 0) (qU 0) setSearchX probeX slot0X slot1X slot2X slot3X (qI0 0) (qI1 0) (qI2 0) aX), (wValley qV k vz14 bz15 cz16 wz17 az18 ez19), (wActs qA k dz22 az23), (wStoO qY k (qV 0) (qN 0) (sY 0 0) (sY 1 0) (sY 2 0) (sY 3 0) (sY 4 0) (sY 5 0) (sY 6 0) (sY 7 0))]) := wc_subD hD [2, 3, 4, 5, 6, 7, 8, 9, 10, 11, 12, 13, 0, 1, 14] rfl rfl
          have hFc := wc_free hDc hS hA
          refine va_callv (va_runV (As := []) (rest := []) ⟨hx, hb, hml, hown, hts⟩ (c_X11_renew l dC dI k H.size qX tapeX trialX attemptX setSearchX probeX slot0X slot1X slot2X slot3X (qI0 0) (qI1 0) (qI2 0) aX qV vz14 bz15 cz16 wz17 az18 ez19 qA dz22 az23 qN vN aN eN qY sY vY nY aY qR vR aR qU vU aU hbz15 hcz16 hwz17 hez19 hdz22 heN hnY) (cwV 0 hts (gk_V (wl_mem 14 rfl) (wl_mem 15 rfl) (wl_mem 16 rfl) (wl_mem 17 rfl) (fun w h => List.mem_cons_of_mem _ (List.mem_append_right _ (List.mem_append_right _ (List.mem_append_right _ (List.mem_append_right _ (List.mem_append_right _ (List.mem_append_left _ h))))))) wkg_c_X11_renew) rfl rfl rfl (by decide +kernel) ⟨Nat.le_of_ble_eq_true rfl, Nat.le_of_ble_eq_true rfl⟩) ⟨fun a U g mk q => by obtain ⟨q0, q1, qP, qK, qD⟩ := q; exact ⟨q0, q1, qP, va_K.moved (u := U) (U := U.calling g mk a) (Vm.Alike.refl U.vm) qK, qD⟩, va_recv hK hPc (ci := 11) (q0 := 97) rfl rfl, fun U hU hW => ⟨rfl, by rw [hU], by rw [hU]; exact hPc, va_K.moved hW.alike hK, hDc.weaken (fun _ _ _ _ => trivial)⟩⟩ rfl rfl hl.1 rfl (lv_room (Nat.le_of_ble_eq_true rfl)) dX11_back_52 ⟨Nat.le_of_ble_eq_true rfl, Nat.le_of_ble_eq_true rfl⟩) hS (fun q _ h => hFc q h) hFc (fun u t H1 locs ht hvm gz24 hB hz1 hk1 hS => ?_)
          obtain ⟨vz26, az27, ez28, vz29, nz30, az31, vz32, az33, vz34, az35, hez28, hnz30, hP1⟩ := hB
          rw [ht] at hP1
          obtain ⟨hP, hD⟩ := w_callR hP hD hk1 hP1 [2, 3, 4, 5, 6, 7, 8, 9, 10, 11, 12] rfl rfl (wk_memC [13, 0, 1, 14] rfl) rfl [none, none, some 0, some 1, some 2, some 3, some 4, some 5, some 6, some 7, some 8, some 9, some 10] rfl rfl
          clear hPc hDc hFc hk1 hP1
          generalize H1 = H at hP hS ⊢
          have hP : va_P (dC, dI) vwCl (List.flatten [(wValley qV k vz14 bz15 cz16 wz17 az18 ez19), (wActs qA k dz22 az23), (wPlan qN k vz26 az27 ez28), (wState (sY 0) k (vz29 0) (nz30 0) (az31 0)), (wState (sY 1) k (vz29 1) (nz30 1) (az31 1)), (wState (sY 2) k (vz29 2) (nz30 2) (az31 2)), (wState (sY 3) k (vz29 3) (nz30 3) (az31 3)), (wState (sY 4) k (vz29 4) (nz30 4) (az31 4)), (wState (sY 5) k (vz29 5) (nz30 5) (az31 5)), (wState (sY 6) k (vz29 6) (nz30 6) (az31 6)), (wState (sY 7) k (vz29 7) (nz30 7) (az31 7)), (wSearch qR k vz32 az33), (wSearch qU k vz34 az35)] ++ List.flatten [(wSag qX k tapeX (qV 0) (qA 0) (qN 0) trialX (qY 0) attemptX (qR 0) (qU 0) setSearchX probeX slot0X slot1X slot2X slot3X (qI0 0) (qI1 0) (qI2 0) aX), (wStoO qY k (qV 0) (qN 0) (sY 0 0) (sY 1 0) (sY 2 0) (sY 3 0) (sY 4 0) (sY 5 0) (sY 6 0) (sY 7 0)), (wImage qI0 k (qJ0 0) (qK0 0) vI0), (wImage qI1 k (qJ1 0) (qK1 0) vI1), (wImage qI2 k (qJ2 0) (qK2 0) vI2), (wValley qJ0 k vJ0 bJ0 cJ0 wJ0 aJ0 eJ0), (wValley qJ1 k vJ1 bJ1 cJ1 wJ1 aJ1 eJ1), (wValley qJ2 k vJ2 bJ2 cJ2 wJ2 aJ2 eJ2), (wActs qK0 k dK0 aK0), (wActs qK1 k dK1 aK1), (wActs qK2 k dK2 aK2)]) H := hP
          have hD : va_D A (List.flatten [(wValley qV k vz14 bz15 cz16 wz17 az18 ez19), (wActs qA k dz22 az23), (wPlan qN k vz26 az27 ez28), (wState (sY 0) k (vz29 0) (nz30 0) (az31 0)), (wState (sY 1) k (vz29 1) (nz30 1) (az31 1)), (wState (sY 2) k (vz29 2) (nz30 2) (az31 2)), (wState (sY 3) k (vz29 3) (nz30 3) (az31 3)), (wState (sY 4) k (vz29 4) (nz30 4) (az31 4)), (wState (sY 5) k (vz29 5) (nz30 5) (az31 5)), (wState (sY 6) k (vz29 6) (nz30 6) (az31 6)), (wState (sY 7) k (vz29 7) (nz30 7) (az31 7)), (wSearch qR k vz32 az33), (wSearch qU k vz34 az35)] ++ List.flatten [(wSag qX k tapeX (qV 0) (qA 0) (qN 0) trialX (qY 0) attemptX (qR 0) (qU 0) setSearchX probeX slot0X slot1X slot2X slot3X (qI0 0) (qI1 0) (qI2 0) aX), (wStoO qY k (qV 0) (qN 0) (sY 0 0) (sY 1 0) (sY 2 0) (sY 3 0) (sY 4 0) (sY 5 0) (sY 6 0) (sY 7 0)), (wImage qI0 k (qJ0 0) (qK0 0) vI0), (wImage qI1 k (qJ1 0) (qK1 0) vI1), (wImage qI2 k (qJ2 0) (qK2 0) vI2), (wValley qJ0 k vJ0 bJ0 cJ0 wJ0 aJ0 eJ0), (wValley qJ1 k vJ1 bJ1 cJ1 wJ1 aJ1 eJ1), (wValley qJ2 k vJ2 bJ2 cJ2 wJ2 aJ2 eJ2), (wActs qK0 k dK0 aK0), (wActs qK1 k dK1 aK1), (wActs qK2 k dK2 aK2)]) := hD
          refine W.widen (k := 0) (n := 0) (Nat.le_refl 0) (Nat.le_refl 0) ?_
          refine lv_iconst (v := 0) hx hb dX11_back_55 (by decide) ?_
          rw [hQ]
          exact W.iret (v := (0 : Int32)) hx hb hr (fun t ht hW => ⟨⟨(0 : Int32), (), rfl, trivial, vz14, bz15, cz16, wz17, az18, ez19, dz22, az23, vz26, az27, ez28, vz29, nz30, az31, vz32, az33, vz34, az35, hbz15, hcz16, hwz17, hez19, hdz22, hez28, hnz30, by rw [ht]; exact hP⟩, hS.F ht⟩) hS.2.2 dX11_back_56
        · skip
          have zz36 : (vI0 0).toInt = (0 : Int) := zi_eq.mp cz10
          refine lv_bipush (v := (-6)) hx hb dX11_back_26 (by decide) ?_
          rw [hQ]
          exact W.iret (v := (-6 : Int32)) hx hb hr (fun t ht hW => ⟨⟨(-6 : Int32), (), rfl, trivial, vV, bV, cV, wV, aV, eV, dA, aA, vN, aN, eN, vY, nY, aY, vR, aR, vU, aU, hbV, hcV, hwV, heV, hdA, heN, hnY, by rw [ht]; exact hP⟩, hS.F ht⟩) hS.2.2 dX11_back_28
      · skip
        have zz37 : p1.toInt = (1 : Int) := zi_eq.mp cz8
        refine W.eq (g2 := F0 m 17 ls [.int 1, .ref (qX 4)]) (by rw [cz8]) ?_
        refine va_aldq hx hb hK hP 113 7 rfl rfl (by unfold vp_in; decide) dX11_back_17 ?_
        refine W.eq (g2 := F0 m 18 ls [.ref (qI1 0)]) rfl ?_
        refine lv_astore_n (lv' := [(2, .ref (qI1 0)), (0, .ref (qX 0)), (1, .int p1)]) hx hb dX11_back_18 rfl hl (by decide) rfl (fun ls hl => ?_)
        refine lv_aload_n hx hb dX11_back_19 rfl (lv_at hl 0 rfl) ?_
        refine va_get (D := (dC, dI)) (ci := 1) (v := .int (vI1 0)) (C := RX1) (T := TX1) (N := 3) hx hb hts (fun w h => List.mem_cons_of_mem _ (List.mem_append_right _ (List.mem_append_right _ (List.mem_append_left _ h)))) hown hK hP 117 rfl rfl 2 (by decide) (hts (.fieldLink RX11 376 "SagMemory$Image" "has" "Z") (wl_mem 1 rfl)) (fun _ h9 => h9) rfl dX11_back_20 ?_
        refine lv_if_ne (tgt := 29) hx hb dX11_back_23 (by decide) (fun cz38 => ?_) (fun cz38 => ?_)
        · skip
          have zz39 : ¬ (vI1 0).toInt = (0 : Int) := fun h9 => cz38 (zi_eq.mpr h9)
          refine lv_aload_n hx hb dX11_back_29 rfl (lv_at hl 1 rfl) ?_
          refine va_get (D := (dC, dI)) (ci := 11) (v := .ref (qV 0)) (C := RX11) (T := TX11) (N := 15) hx hb hts (fun w h => List.mem_cons_of_mem _ (List.mem_append_right _ (List.mem_append_left _ h))) hown hK hP 109 rfl rfl 1 (by decide) (hts (.fieldLink RX11 19 "SagMemory" "told" "LSagMemory$Valley;") (wl_mem 2 rfl)) (fun _ h9 => h9) rfl dX11_back_30 ?_
          refine lv_aload_n hx hb dX11_back_33 rfl (lv_at hl 0 rfl) ?_
          refine va_get (D := (dC, dI)) (ci := 1) (v := .ref (qJ1 0)) (C := RX1) (T := TX1) (N := 3) hx hb hts (fun w h => List.mem_cons_of_mem _ (List.mem_append_right _ (List.mem_append_right _ (List.mem_append_left _ h)))) hown hK hP 117 rfl rfl 0 (by decide) (hts (.fieldLink RX11 369 "SagMemory$Image" "valley" "LSagMemory$Valley;") (wl_mem 3 rfl)) (fun _ h9 => h9) rfl dX11_back_34 ?_
          have hPc := hP.sub (ws' := (List.flatten [(wValley qV k vV bV cV wV aV eV)] ++ List.flatten [(wValley qJ1 k vJ1 bJ1 cJ1 wJ1 aJ1 eJ1)])) [0, 1, 2, 3, 4, 5, 6, 7, 127, 128, 129, 130, 131, 132, 133, 134] rfl
          have hC : [0, 1, 2, 3, 4, 5, 6, 7, 127, 128, 129, 130, 131, 132, 133, 134].map (fun i => (List.flatten [(wValley qV k vV bV cV wV aV eV), (wActs qA k dA aA), (wPlan qN k vN aN eN), (wState (sY 0) k (vY 0) (nY 0) (aY 0)), (wState (sY 1) k (vY 1) (nY 1) (aY 1)), (wState (sY 2) k (vY 2) (nY 2) (aY 2)), (wState (sY 3) k (vY 3) (nY 3) (aY 3)), (wState (sY 4) k (vY 4) (nY 4) (aY 4)), (wState (sY 5) k (vY 5) (nY 5) (aY 5)), (wState (sY 6) k (vY 6) (nY 6) (aY 6)), (wState (sY 7) k (vY 7) (nY 7) (aY 7)), (wSearch qR k vR aR), (wSearch qU k vU aU)] ++ List.flatten [(wSag qX k tapeX (qV 0) (qA 0) (qN 0) trialX (qY 0) attemptX (qR 0) (qU 0) setSearchX probeX slot0X slot1X slot2X slot3X (qI0 0) (qI1 0) (qI2 0) aX), (wStoO qY k (qV 0) (qN 0) (sY 0 0) (sY 1 0) (sY 2 0) (sY 3 0) (sY 4 0) (sY 5 0) (sY 6 0) (sY 7 0)), (wImage qI0 k (qJ0 0) (qK0 0) vI0), (wImage qI1 k (qJ1 0) (qK1 0) vI1), (wImage qI2 k (qJ2 0) (qK2 0) vI2), (wValley qJ0 k vJ0 bJ0 cJ0 wJ0 aJ0 eJ0), (wValley qJ1 k vJ1 bJ1 cJ1 wJ1 aJ1 eJ1), (wValley qJ2 k vJ2 bJ2 cJ2 wJ2 aJ2 eJ2), (wActs qK0 k dK0 aK0), (wActs qK1 k dK1 aK1), (wActs qK2 k dK2 aK2)])[i]?) = (List.flatten [(wValley qV k vV bV cV wV aV eV)] ++ List.flatten [(wValley qJ1 k vJ1 bJ1 cJ1 wJ1 aJ1 eJ1)]).map some := rfl
          have hDc := hD.sub [0, 1, 2, 3, 4, 5, 6, 7, 127, 128, 129, 130, 131, 132, 133, 134] (by decide) hC
          have hFc := va_free hD hS hA [0, 1, 2, 3, 4, 5, 6, 7, 127, 128, 129, 130, 131, 132, 133, 134] hC
          refine va_callv (va_runV (As := [.ref (qJ1 0)]) (rest := []) ⟨hx, hb, hml, hown, hts⟩ (c_X10_take l dC dI k s.heap.size qV vV bV cV wV aV eV qJ1 vJ1 bJ1 cJ1 wJ1 aJ1 eJ1 hbV hcV hwV heV hbJ1 hcJ1 hwJ1 heJ1) (cwV 1 hts (gk_V (wl_mem 4 rfl) (wl_mem 5 rfl) (wl_mem 6 rfl) (wl_mem 7 rfl) (fun w h => List.mem_cons_of_mem _ (List.mem_append_right _ (List.mem_append_right _ (List.mem_append_right _ (List.mem_append_left _ h))))) wkg_c_X10_take) rfl rfl rfl (by decide +kernel) ⟨Nat.le_of_ble_eq_true rfl, Nat.le_of_ble_eq_true rfl⟩) ⟨fun a U g mk q => by obtain ⟨q0, q1, qP, qK, qD⟩ := q; exact ⟨q0, q1, qP, va_K.moved (u := U) (U := U.calling g mk a) (Vm.Alike.refl U.vm) qK, qD⟩, va_recv hK hPc (ci := 10) (q0 := 0) rfl rfl, fun U hU hW => ⟨rfl, by rw [hU], by rw [hU]; exact hPc, va_K.moved hW.alike hK, hDc.weaken (fun _ _ _ _ => trivial)⟩⟩ rfl rfl hl.1 rfl (lv_room (Nat.le_of_ble_eq_true rfl)) dX11_back_37 ⟨Nat.le_of_ble_eq_true rfl, Nat.le_of_ble_eq_true rfl⟩) hS (fun q _ h => hFc q h) hFc (fun u t H1 locs ht hvm gz40 hB hz1 hk1 hS => ?_)
          obtain ⟨vz42, bz43, cz44, wz45, az46, ez47, hbz43, hcz44, hwz45, hez47, hP1⟩ := hB
          rw [ht] at hP1
          obtain ⟨hP, hD⟩ := w_callR hP hD hk1 hP1 [0] rfl rfl (wk_memC [19] rfl) rfl [some 0, none, none, none, none, none, none, none, none, none, none, none, none] rfl rfl
          clear hPc hC hDc hFc hk1 hP1
          generalize H1 = H at hP hS ⊢
          have hP : va_P (dC, dI) vwCl (List.flatten [(wValley qV k vz42 bz43 cz44 wz45 az46 ez47), (wActs qA k dA aA), (wPlan qN k vN aN eN), (wState (sY 0) k (vY 0) (nY 0) (aY 0)), (wState (sY 1) k (vY 1) (nY 1) (aY 1)), (wState (sY 2) k (vY 2) (nY 2) (aY 2)), (wState (sY 3) k (vY 3) (nY 3) (aY 3)), (wState (sY 4) k (vY 4) (nY 4) (aY 4)), (wState (sY 5) k (vY 5) (nY 5) (aY 5)), (wState (sY 6) k (vY 6) (nY 6) (aY 6)), (wState (sY 7) k (vY 7) (nY 7) (aY 7)), (wSearch qR k vR aR), (wSearch qU k vU aU)] ++ List.flatten [(wSag qX k tapeX (qV 0) (qA 0) (qN 0) trialX (qY 0) attemptX (qR 0) (qU 0) setSearchX probeX slot0X slot1X slot2X slot3X (qI0 0) (qI1 0) (qI2 0) aX), (wStoO qY k (qV 0) (qN 0) (sY 0 0) (sY 1 0) (sY 2 0) (sY 3 0) (sY 4 0) (sY 5 0) (sY 6 0) (sY 7 0)), (wImage qI0 k (qJ0 0) (qK0 0) vI0), (wImage qI1 k (qJ1 0) (qK1 0) vI1), (wImage qI2 k (qJ2 0) (qK2 0) vI2), (wValley qJ0 k vJ0 bJ0 cJ0 wJ0 aJ0 eJ0), (wValley qJ1 k vJ1 bJ1 cJ1 wJ1 aJ1 eJ1), (wValley qJ2 k vJ2 bJ2 cJ2 wJ2 aJ2 eJ2), (wActs qK0 k dK0 aK0), (wActs qK1 k dK1 aK1), (wActs qK2 k dK2 aK2)]) H := hP
          have hD : va_D A (List.flatten [(wValley qV k vz42 bz43 cz44 wz45 az46 ez47), (wActs qA k dA aA), (wPlan qN k vN aN eN), (wState (sY 0) k (vY 0) (nY 0) (aY 0)), (wState (sY 1) k (vY 1) (nY 1) (aY 1)), (wState (sY 2) k (vY 2) (nY 2) (aY 2)), (wState (sY 3) k (vY 3) (nY 3) (aY 3)), (wState (sY 4) k (vY 4) (nY 4) (aY 4)), (wState (sY 5) k (vY 5) (nY 5) (aY 5)), (wState (sY 6) k (vY 6) (nY 6) (aY 6)), (wState (sY 7) k (vY 7) (nY 7) (aY 7)), (wSearch qR k vR aR), (wSearch qU k vU aU)] ++ List.flatten [(wSag qX k tapeX (qV 0) (qA 0) (qN 0) trialX (qY 0) attemptX (qR 0) (qU 0) setSearchX probeX slot0X slot1X slot2X slot3X (qI0 0) (qI1 0) (qI2 0) aX), (wStoO qY k (qV 0) (qN 0) (sY 0 0) (sY 1 0) (sY 2 0) (sY 3 0) (sY 4 0) (sY 5 0) (sY 6 0) (sY 7 0)), (wImage qI0 k (qJ0 0) (qK0 0) vI0), (wImage qI1 k (qJ1 0) (qK1 0) vI1), (wImage qI2 k (qJ2 0) (qK2 0) vI2), (wValley qJ0 k vJ0 bJ0 cJ0 wJ0 aJ0 eJ0), (wValley qJ1 k vJ1 bJ1 cJ1 wJ1 aJ1 eJ1), (wValley qJ2 k vJ2 bJ2 cJ2 wJ2 aJ2 eJ2), (wActs qK0 k dK0 aK0), (wActs qK1 k dK1 aK1), (wActs qK2 k dK2 aK2)]) := hD
          refine W.widen (k := 0) (n := 0) (Nat.le_refl 0) (Nat.le_refl 0) ?_
          refine lv_aload_n hx hb dX11_back_40 rfl (lv_at hl 1 rfl) ?_
          refine va_get (D := (dC, dI)) (ci := 11) (v := .ref (qA 0)) (C := RX11) (T := TX11) (N := 15) hx hb hts (fun w h => List.mem_cons_of_mem _ (List.mem_append_right _ (List.mem_append_left _ h))) hown hK hP 109 rfl rfl 2 (by decide) (hts (.fieldLink RX11 26 "SagMemory" "acts" "LSagMemory$Acts;") (wl_mem 8 rfl)) (fun _ h9 => h9) rfl dX11_back_41 ?_
          refine lv_aload_n hx hb dX11_back_44 rfl (lv_at hl 0 rfl) ?_
          refine va_get (D := (dC, dI)) (ci := 1) (v := .ref (qK1 0)) (C := RX1) (T := TX1) (N := 3) hx hb hts (fun w h => List.mem_cons_of_mem _ (List.mem_append_right _ (List.mem_append_right _ (List.mem_append_left _ h)))) hown hK hP 117 rfl rfl 1 (by decide) (hts (.fieldLink RX11 372 "SagMemory$Image" "acts" "LSagMemory$Acts;") (wl_mem 9 rfl)) (fun _ h9 => h9) rfl dX11_back_45 ?_
          have hPc := hP.sub (ws' := (List.flatten [(wActs qA k dA aA)] ++ List.flatten [(wActs qK1 k dK1 aK1)])) [8, 9, 10, 11, 147, 148, 149, 150] rfl
          have hC : [8, 9, 10, 11, 147, 148, 149, 150].map (fun i => (List.flatten [(wValley qV k vz42 bz43 cz44 wz45 az46 ez47), (wActs qA k dA aA), (wPlan qN k vN aN eN), (wState (sY 0) k (vY 0) (nY 0) (aY 0)), (wState (sY 1) k (vY 1) (nY 1) (aY 1)), (wState (sY 2) k (vY 2) (nY 2) (aY 2)), (wState (sY 3) k (vY 3) (nY 3) (aY 3)), (wState (sY 4) k (vY 4) (nY 4) (aY 4)), (wState (sY 5) k (vY 5) (nY 5) (aY 5)), (wState (sY 6) k (vY 6) (nY 6) (aY 6)), (wState (sY 7) k (vY 7) (nY 7) (aY 7)), (wSearch qR k vR aR), (wSearch qU k vU aU)] ++ List.flatten [(wSag qX k tapeX (qV 0) (qA 0) (qN 0) trialX (qY 0) attemptX (qR 0) (qU 0) setSearchX probeX slot0X slot1X slot2X slot3X (qI0 0) (qI1 0) (qI2 0) aX), (wStoO qY k (qV 0) (qN 0) (sY 0 0) (sY 1 0) (sY 2 0) (sY 3 0) (sY 4 0) (sY 5 0) (sY 6 0) (sY 7 0)), (wImage qI0 k (qJ0 0) (qK0 0) vI0), (wImage qI1 k (qJ1 0) (qK1 0) vI1), (wImage qI2 k (qJ2 0) (qK2 0) vI2), (wValley qJ0 k vJ0 bJ0 cJ0 wJ0 aJ0 eJ0), (wValley qJ1 k vJ1 bJ1 cJ1 wJ1 aJ1 eJ1), (wValley qJ2 k vJ2 bJ2 cJ2 wJ2 aJ2 eJ2), (wActs qK0 k dK0 aK0), (wActs qK1 k dK1 aK1), (wActs qK2 k dK2 aK2)])[i]?) = (List.flatten [(wActs qA k dA aA)] ++ List.flatten [(wActs qK1 k dK1 aK1)]).map some := rfl
          have hDc := hD.sub [8, 9, 10, 11, 147, 148, 149, 150] (by decide) hC
          have hFc := va_free hD hS hA [8, 9, 10, 11, 147, 148, 149, 150] hC
          refine va_callv (va_runV (As := [.ref (qK1 0)]) (rest := []) ⟨hx, hb, hml, hown, hts⟩ (c_X0_take l dC dI k H.size qA dA aA qK1 dK1 aK1 hdA hdK1) (cwV 1 hts (gk_V (wl_mem 10 rfl) (wl_mem 11 rfl) (wl_mem 12 rfl) (wl_mem 13 rfl) (fun w h => List.mem_cons_of_mem _ (List.mem_append_right _ (List.mem_append_right _ (List.mem_append_right _ (List.mem_append_right _ (List.mem_append_left _ h)))))) wkg_c_X0_take) rfl rfl rfl (by decide +kernel) ⟨Nat.le_of_ble_eq_true rfl, Nat.le_of_ble_eq_true rfl⟩) ⟨fun a U g mk q => by obtain ⟨q0, q1, qP, qK, qD⟩ := q; exact ⟨q0, q1, qP, va_K.moved (u := U) (U := U.calling g mk a) (Vm.Alike.refl U.vm) qK, qD⟩, va_recv hK hPc (ci := 0) (q0 := 0) rfl rfl, fun U hU hW => ⟨rfl, by rw [hU], by rw [hU]; exact hPc, va_K.moved hW.alike hK, hDc.weaken (fun _ _ _ _ => trivial)⟩⟩ rfl rfl hl.1 rfl (lv_room (Nat.le_of_ble_eq_true rfl)) dX11_back_48 ⟨Nat.le_of_ble_eq_true rfl, Nat.le_of_ble_eq_true rfl⟩) hS (fun q _ h => hFc q h) hFc (fun u t H1 locs ht hvm gz48 hB hz1 hk1 hS => ?_)
          obtain ⟨dz50, az51, hdz50, hP1⟩ := hB
          rw [ht] at hP1
          obtain ⟨hP, hD⟩ := w_callR hP hD hk1 hP1 [1] rfl rfl (wk_memC [22] rfl) rfl [none, some 0, none, none, none, none, none, none, none, none, none, none, none] rfl rfl
          clear hPc hC hDc hFc hk1 hP1
          generalize H1 = H at hP hS ⊢
          have hP : va_P (dC, dI) vwCl (List.flatten [(wValley qV k vz42 bz43 cz44 wz45 az46 ez47), (wActs qA k dz50 az51), (wPlan qN k vN aN eN), (wState (sY 0) k (vY 0) (nY 0) (aY 0)), (wState (sY 1) k (vY 1) (nY 1) (aY 1)), (wState (sY 2) k (vY 2) (nY 2) (aY 2)), (wState (sY 3) k (vY 3) (nY 3) (aY 3)), (wState (sY 4) k (vY 4) (nY 4) (aY 4)), (wState (sY 5) k (vY 5) (nY 5) (aY 5)), (wState (sY 6) k (vY 6) (nY 6) (aY 6)), (wState (sY 7) k (vY 7) (nY 7) (aY 7)), (wSearch qR k vR aR), (wSearch qU k vU aU)] ++ List.flatten [(wSag qX k tapeX (qV 0) (qA 0) (qN 0) trialX (qY 0) attemptX (qR 0) (qU 0) setSearchX probeX slot0X slot1X slot2X slot3X (qI0 0) (qI1 0) (qI2 0) aX), (wStoO qY k (qV 0) (qN 0) (sY 0 0) (sY 1 0) (sY 2 0) (sY 3 0) (sY 4 0) (sY 5 0) (sY 6 0) (sY 7 0)), (wImage qI0 k (qJ0 0) (qK0 0) vI0), (wImage qI1 k (qJ1 0) (qK1 0) vI1), (wImage qI2 k (qJ2 0) (qK2 0) vI2), (wValley qJ0 k vJ0 bJ0 cJ0 wJ0 aJ0 eJ0), (wValley qJ1 k vJ1 bJ1 cJ1 wJ1 aJ1 eJ1), (wValley qJ2 k vJ2 bJ2 cJ2 wJ2 aJ2 eJ2), (wActs qK0 k dK0 aK0), (wActs qK1 k dK1 aK1), (wActs qK2 k dK2 aK2)]) H := hP
          have hD : va_D A (List.flatten [(wValley qV k vz42 bz43 cz44 wz45 az46 ez47), (wActs qA k dz50 az51), (wPlan qN k vN aN eN), (wState (sY 0) k (vY 0) (nY 0) (aY 0)), (wState (sY 1) k (vY 1) (nY 1) (aY 1)), (wState (sY 2) k (vY 2) (nY 2) (aY 2)), (wState (sY 3) k (vY 3) (nY 3) (aY 3)), (wState (sY 4) k (vY 4) (nY 4) (aY 4)), (wState (sY 5) k (vY 5) (nY 5) (aY 5)), (wState (sY 6) k (vY 6) (nY 6) (aY 6)), (wState (sY 7) k (vY 7) (nY 7) (aY 7)), (wSearch qR k vR aR), (wSearch qU k vU aU)] ++ List.flatten [(wSag qX k tapeX (qV 0) (qA 0) (qN 0) trialX (qY 0) attemptX (qR 0) (qU 0) setSearchX probeX slot0X slot1X slot2X slot3X (qI0 0) (qI1 0) (qI2 0) aX), (wStoO qY k (qV 0) (qN 0) (sY 0 0) (sY 1 0) (sY 2 0) (sY 3 0) (sY 4 0) (sY 5 0) (sY 6 0) (sY 7 0)), (wImage qI0 k (qJ0 0) (qK0 0) vI0), (wImage qI1 k (qJ1 0) (qK1 0) vI1), (wImage qI2 k (qJ2 0) (qK2 0) vI2), (wValley qJ0 k vJ0 bJ0 cJ0 wJ0 aJ0 eJ0), (wValley qJ1 k vJ1 bJ1 cJ1 wJ1 aJ1 eJ1), (wValley qJ2 k vJ2 bJ2 cJ2 wJ2 aJ2 eJ2), (wActs qK0 k dK0 aK0), (wActs qK1 k dK1 aK1), (wActs qK2 k dK2 aK2)]) := hD
          refine W.widen (k := 0) (n := 0) (Nat.le_refl 0) (Nat.le_refl 0) ?_
          refine lv_aload_n hx hb dX11_back_51 rfl (lv_at hl 1 rfl) ?_
          have hPc : va_P (dC, dI) vwCl (List.flatten [(wPlan qN k vN aN eN), (wState (sY 0) k (vY 0) (nY 0) (aY 0)), (wState (sY 1) k (vY 1) (nY 1) (aY 1)), (wState (sY 2) k (vY 2) (nY 2) (aY 2)), (wState (sY 3) k (vY 3) (nY 3) (aY 3)), (wState (sY 4) k (vY 4) (nY 4) (aY 4)), (wState (sY 5) k (vY 5) (nY 5) (aY 5)), (wState (sY 6) k (vY 6) (nY 6) (aY 6)), (wState (sY 7) k (vY 7) (nY 7) (aY 7)), (wSearch qR k vR aR), (wSearch qU k vU aU)] ++ List.flatten [(wSag qX k tapeX (qV 0) (qA 0) (qN 0) trialX (qY 0) attemptX (qR 0) (qU 0) setSearchX probeX slot0X slot1X slot2X slot3X (qI0 0) (qI1 0) (qI2 0) aX), (wValley qV k vz42 bz43 cz44 wz45 az46 ez47), (wActs qA k dz50 az51), (wStoO qY k (qV 0) (qN 0) (sY 0 0) (sY 1 0) (sY 2 0) (sY 3 0) (sY 4 0) (sY 5 0) (sY 6 0) (sY 7 0))]) H := wc_subP hP [2, 3, 4, 5, 6, 7, 8, 9, 10, 11, 12, 13, 0, 1, 14] rfl
          have hDc : va_D A (List.flatten [(wPlan qN k vN aN eN), (wState (sY 0) k (vY 0) (nY 0) (aY 0)), (wState (sY 1) k (vY 1) (nY 1) (aY 1)), (wState (sY 2) k (vY 2) (nY 2) (aY 2)), (wState (sY 3) k (vY 3) (nY 3) (aY 3)), (wState (sY 4) k (vY 4) (nY 4) (aY 4)), (wState (sY 5) k (vY 5) (nY 5) (aY 5)), (wState (sY 6) k (vY 6) (nY 6) (aY 6)), (wState (sY 7) k (vY 7) (nY 7) (aY 7)), (wSearch qR k vR aR), (wSearch qU k vU aU)] ++ List.flatten [(wSag qX k tapeX (qV 0) (qA 0) (qN 0) trialX (qY 0) attemptX (qR 0) (qU 0) setSearchX probeX slot0X slot1X slot2X slot3X (qI0 0) (qI1 0) (qI2 0) aX), (wValley qV k vz42 bz43 cz44 wz45 az46 ez47), (wActs qA k dz50 az51), (wStoO qY k (qV 0) (qN 0) (sY 0 0) (sY 1 0) (sY 2 0) (sY 3 0) (sY 4 0) (sY 5 0) (sY 6 0) (sY 7 0))]) := wc_subD hD [2, 3, 4, 5, 6, 7, 8, 9, 10, 11, 12, 13, 0, 1, 14] rfl rfl
          have hFc := wc_free hDc hS hA
          refine va_callv (va_runV (As := []) (rest := []) ⟨hx, hb, hml, hown, hts⟩ (c_X11_renew l dC dI k H.size qX tapeX trialX attemptX setSearchX probeX slot0X slot1X slot2X slot3X (qI0 0) (qI1 0) (qI2 0) aX qV vz42 bz43 cz44 wz45 az46 ez47 qA dz50 az51 qN vN aN eN qY sY vY nY aY qR vR aR qU vU aU hbz43 hcz44 hwz45 hez47 hdz50 heN hnY) (cwV 0 hts (gk_V (wl_mem 14 rfl) (wl_mem 15 rfl) (wl_mem 16 rfl) (wl_mem 17 rfl) (fun w h => List.mem_cons_of_mem _ (List.mem_append_right _ (List.mem_append_right _ (List.mem_append_right _ (List.mem_append_right _ (List.mem_append_right _ (List.mem_append_left _ h))))))) wkg_c_X11_renew) rfl rfl rfl (by decide +kernel) ⟨Nat.le_of_ble_eq_true rfl, Nat.le_of_ble_eq_true rfl⟩) ⟨fun a U g mk q => by obtain ⟨q0, q1, qP, qK, qD⟩ := q; exact ⟨q0, q1, qP, va_K.moved (u := U) (U := U.calling g mk a) (Vm.Alike.refl U.vm) qK, qD⟩, va_recv hK hPc (ci := 11) (q0 := 97) rfl rfl, fun U hU hW => ⟨rfl, by rw [hU], by rw [hU]; exact hPc, va_K.moved hW.alike hK, hDc.weaken (fun _ _ _ _ => trivial)⟩⟩ rfl rfl hl.1 rfl (lv_room (Nat.le_of_ble_eq_true rfl)) dX11_back_52 ⟨Nat.le_of_ble_eq_true rfl, Nat.le_of_ble_eq_true rfl⟩) hS (fun q _ h => hFc q h) hFc (fun u t H1 locs ht hvm gz52 hB hz1 hk1 hS => ?_)
          obtain ⟨vz54, az55, ez56, vz57, nz58, az59, vz60, az61, vz62, az63, hez56, hnz58, hP1⟩ := hB
          rw [ht] at hP1
          obtain ⟨hP, hD⟩ := w_callR hP hD hk1 hP1 [2, 3, 4, 5, 6, 7, 8, 9, 10, 11, 12] rfl rfl (wk_memC [13, 0, 1, 14] rfl) rfl [none, none, some 0, some 1, some 2, some 3, some 4, some 5, some 6, some 7, some 8, some 9, some 10] rfl rfl
          clear hPc hDc hFc hk1 hP1
          generalize H1 = H at hP hS ⊢
          have hP : va_P (dC, dI) vwCl (List.flatten [(wValley qV k vz42 bz43 cz44 wz45 az46 ez47), (wActs qA k dz50 az51), (wPlan qN k vz54 az55 ez56), (wState (sY 0) k (vz57 0) (nz58 0) (az59 0)), (wState (sY 1) k (vz57 1) (nz58 1) (az59 1)), (wState (sY 2) k (vz57 2) (nz58 2) (az59 2)), (wState (sY 3) k (vz57 3) (nz58 3) (az59 3)), (wState (sY 4) k (vz57 4) (nz58 4) (az59 4)), (wState (sY 5) k (vz57 5) (nz58 5) (az59 5)), (wState (sY 6) k (vz57 6) (nz58 6) (az59 6)), (wState (sY 7) k (vz57 7) (nz58 7) (az59 7)), (wSearch qR k vz60 az61), (wSearch qU k vz62 az63)] ++ List.flatten [(wSag qX k tapeX (qV 0) (qA 0) (qN 0) trialX (qY 0) attemptX (qR 0) (qU 0) setSearchX probeX slot0X slot1X slot2X slot3X (qI0 0) (qI1 0) (qI2 0) aX), (wStoO qY k (qV 0) (qN 0) (sY 0 0) (sY 1 0) (sY 2 0) (sY 3 0) (sY 4 0) (sY 5 0) (sY 6 0) (sY 7 0)), (wImage qI0 k (qJ0 0) (qK0 0) vI0), (wImage qI1 k (qJ1 0) (qK1 0) vI1), (wImage qI2 k (qJ2 0) (qK2 0) vI2), (wValley qJ0 k vJ0 bJ0 cJ0 wJ0 aJ0 eJ0), (wValley qJ1 k vJ1 bJ1 cJ1 wJ1 aJ1 eJ1), (wValley qJ2 k vJ2 bJ2 cJ2 wJ2 aJ2 eJ2), (wActs qK0 k dK0 aK0), (wActs qK1 k dK1 aK1), (wActs qK2 k dK2 aK2)]) H := hP
          have hD : va_D A (List.flatten [(wValley qV k vz42 bz43 cz44 wz45 az46 ez47), (wActs qA k dz50 az51), (wPlan qN k vz54 az55 ez56), (wState (sY 0) k (vz57 0) (nz58 0) (az59 0)), (wState (sY 1) k (vz57 1) (nz58 1) (az59 1)), (wState (sY 2) k (vz57 2) (nz58 2) (az59 2)), (wState (sY 3) k (vz57 3) (nz58 3) (az59 3)), (wState (sY 4) k (vz57 4) (nz58 4) (az59 4)), (wState (sY 5) k (vz57 5) (nz58 5) (az59 5)), (wState (sY 6) k (vz57 6) (nz58 6) (az59 6)), (wState (sY 7) k (vz57 7) (nz58 7) (az59 7)), (wSearch qR k vz60 az61), (wSearch qU k vz62 az63)] ++ List.flatten [(wSag qX k tapeX (qV 0) (qA 0) (qN 0) trialX (qY 0) attemptX (qR 0) (qU 0) setSearchX probeX slot0X slot1X slot2X slot3X (qI0 0) (qI1 0) (qI2 0) aX), (wStoO qY k (qV 0) (qN 0) (sY 0 0) (sY 1 0) (sY 2 0) (sY 3 0) (sY 4 0) (sY 5 0) (sY 6 0) (sY 7 0)), (wImage qI0 k (qJ0 0) (qK0 0) vI0), (wImage qI1 k (qJ1 0) (qK1 0) vI1), (wImage qI2 k (qJ2 0) (qK2 0) vI2), (wValley qJ0 k vJ0 bJ0 cJ0 wJ0 aJ0 eJ0), (wValley qJ1 k vJ1 bJ1 cJ1 wJ1 aJ1 eJ1), (wValley qJ2 k vJ2 bJ2 cJ2 wJ2 aJ2 eJ2), (wActs qK0 k dK0 aK0), (wActs qK1 k dK1 aK1), (wActs qK2 k dK2 aK2)]) := hD
          refine W.widen (k := 0) (n := 0) (Nat.le_refl 0) (Nat.le_refl 0) ?_
          refine lv_iconst (v := 0) hx hb dX11_back_55 (by decide) ?_
          rw [hQ]
          exact W.iret (v := (0 : Int32)) hx hb hr (fun t ht hW => ⟨⟨(0 : Int32), (), rfl, trivial, vz42, bz43, cz44, wz45, az46, ez47, dz50, az51, vz54, az55, ez56, vz57, nz58, az59, vz60, az61, vz62, az63, hbz43, hcz44, hwz45, hez47, hdz50, hez56, hnz58, by rw [ht]; exact hP⟩, hS.F ht⟩) hS.2.2 dX11_back_56
        · skip
          have zz64 : (vI1 0).toInt = (0 : Int) := zi_eq.mp cz38
          refine lv_bipush (v := (-6)) hx hb dX11_back_26 (by decide) ?_
          rw [hQ]
          exact W.iret (v := (-6 : Int32)) hx hb hr (fun t ht hW => ⟨⟨(-6 : Int32), (), rfl, trivial, vV, bV, cV, wV, aV, eV, dA, aA, vN, aN, eN, vY, nY, aY, vR, aR, vU, aU, hbV, hcV, hwV, heV, hdA, heN, hnY, by rw [ht]; exact hP⟩, hS.F ht⟩) hS.2.2 dX11_back_28
      · skip
        have zz65 : p1.toInt = (2 : Int) := zi_eq.mp cz8
        refine W.eq (g2 := F0 m 17 ls [.int 2, .ref (qX 4)]) (by rw [cz8]) ?_
        refine va_aldq hx hb hK hP 113 7 rfl rfl (by unfold vp_in; decide) dX11_back_17 ?_
        refine W.eq (g2 := F0 m 18 ls [.ref (qI2 0)]) rfl ?_
        refine lv_astore_n (lv' := [(2, .ref (qI2 0)), (0, .ref (qX 0)), (1, .int p1)]) hx hb dX11_back_18 rfl hl (by decide) rfl (fun ls hl => ?_)
        refine lv_aload_n hx hb dX11_back_19 rfl (lv_at hl 0 rfl) ?_
        refine va_get (D := (dC, dI)) (ci := 1) (v := .int (vI2 0)) (C := RX1) (T := TX1) (N := 3) hx hb hts (fun w h => List.mem_cons_of_mem _ (List.mem_append_right _ (List.mem_append_right _ (List.mem_append_left _ h)))) hown hK hP 118 rfl rfl 2 (by decide) (hts (.fieldLink RX11 376 "SagMemory$Image" "has" "Z") (wl_mem 1 rfl)) (fun _ h9 => h9) rfl dX11_back_20 ?_
        refine lv_if_ne (tgt := 29) hx hb dX11_back_23 (by decide) (fun cz66 => ?_) (fun cz66 => ?_)
        · skip
          have zz67 : ¬ (vI2 0).toInt = (0 : Int) := fun h9 => cz66 (zi_eq.mpr h9)
          refine lv_aload_n hx hb dX11_back_29 rfl (lv_at hl 1 rfl) ?_
          refine va_get (D := (dC, dI)) (ci := 11) (v := .ref (qV 0)) (C := RX11) (T := TX11) (N := 15) hx hb hts (fun w h => List.mem_cons_of_mem _ (List.mem_append_right _ (List.mem_append_left _ h))) hown hK hP 109 rfl rfl 1 (by decide) (hts (.fieldLink RX11 19 "SagMemory" "told" "LSagMemory$Valley;") (wl_mem 2 rfl)) (fun _ h9 => h9) rfl dX11_back_30 ?_
          refine lv_aload_n hx hb dX11_back_33 rfl (lv_at hl 0 rfl) ?_
          refine va_get (D := (dC, dI)) (ci := 1) (v := .ref (qJ2 0)) (C := RX1) (T := TX1) (N := 3) hx hb hts (fun w h => List.mem_cons_of_mem _ (List.mem_append_right _ (List.mem_append_right _ (List.mem_append_left _ h)))) hown hK hP 118 rfl rfl 0 (by decide) (hts (.fieldLink RX11 369 "SagMemory$Image" "valley" "LSagMemory$Valley;") (wl_mem 3 rfl)) (fun _ h9 => h9) rfl dX11_back_34 ?_
          have hPc := hP.sub (ws' := (List.flatten [(wValley qV k vV bV cV wV aV eV)] ++ List.flatten [(wValley qJ2 k vJ2 bJ2 cJ2 wJ2 aJ2 eJ2)])) [0, 1, 2, 3, 4, 5, 6, 7, 135, 136, 137, 138, 139, 140, 141, 142] rfl
          have hC : [0, 1, 2, 3, 4, 5, 6, 7, 135, 136, 137, 138, 139, 140, 141, 142].map (fun i => (List.flatten [(wValley qV k vV bV cV wV aV eV), (wActs qA k dA aA), (wPlan qN k vN aN eN), (wState (sY 0) k (vY 0) (nY 0) (aY 0)), (wState (sY 1) k (vY 1) (nY 1) (aY 1)), (wState (sY 2) k (vY 2) (nY 2) (aY 2)), (wState (sY 3) k (vY 3) (nY 3) (aY 3)), (wState (sY 4) k (vY 4) (nY 4) (aY 4)), (wState (sY 5) k (vY 5) (nY 5) (aY 5)), (wState (sY 6) k (vY 6) (nY 6) (aY 6)), (wState (sY 7) k (vY 7) (nY 7) (aY 7)), (wSearch qR k vR aR), (wSearch qU k vU aU)] ++ List.flatten [(wSag qX k tapeX (qV 0) (qA 0) (qN 0) trialX (qY 0) attemptX (qR 0) (qU 0) setSearchX probeX slot0X slot1X slot2X slot3X (qI0 0) (qI1 0) (qI2 0) aX), (wStoO qY k (qV 0) (qN 0) (sY 0 0) (sY 1 0) (sY 2 0) (sY 3 0) (sY 4 0) (sY 5 0) (sY 6 0) (sY 7 0)), (wImage qI0 k (qJ0 0) (qK0 0) vI0), (wImage qI1 k (qJ1 0) (qK1 0) vI1), (wImage qI2 k (qJ2 0) (qK2 0) vI2), (wValley qJ0 k vJ0 bJ0 cJ0 wJ0 aJ0 eJ0), (wValley qJ1 k vJ1 bJ1 cJ1 wJ1 aJ1 eJ1), (wValley qJ2 k vJ2 bJ2 cJ2 wJ2 aJ2 eJ2), (wActs qK0 k dK0 aK0), (wActs qK1 k dK1 aK1), (wActs qK2 k dK2 aK2)])[i]?) = (List.flatten [(wValley qV k vV bV cV wV aV eV)] ++ List.flatten [(wValley qJ2 k vJ2 bJ2 cJ2 wJ2 aJ2 eJ2)]).map some := rfl
          have hDc := hD.sub [0, 1, 2, 3, 4, 5, 6, 7, 135, 136, 137, 138, 139, 140, 141, 142] (by decide) hC
          have hFc := va_free hD hS hA [0, 1, 2, 3, 4, 5, 6, 7, 135, 136, 137, 138, 139, 140, 141, 142] hC
          refine va_callv (va_runV (As := [.ref (qJ2 0)]) (rest := []) ⟨hx, hb, hml, hown, hts⟩ (c_X10_take l dC dI k s.heap.size qV vV bV cV wV aV eV qJ2 vJ2 bJ2 cJ2 wJ2 aJ2 eJ2 hbV hcV hwV heV hbJ2 hcJ2 hwJ2 heJ2) (cwV 1 hts (gk_V (wl_mem 4 rfl) (wl_mem 5 rfl) (wl_mem 6 rfl) (wl_mem 7 rfl) (fun w h => List.mem_cons_of_mem _ (List.mem_append_right _ (List.mem_append_right _ (List.mem_append_right _ (List.mem_append_left _ h))))) wkg_c_X10_take) rfl rfl rfl (by decide +kernel) ⟨Nat.le_of_ble_eq_true rfl, Nat.le_of_ble_eq_true rfl⟩) ⟨fun a U g mk q => by obtain ⟨q0, q1, qP, qK, qD⟩ := q; exact ⟨q0, q1, qP, va_K.moved (u := U) (U := U.calling g mk a) (Vm.Alike.refl U.vm) qK, qD⟩, va_recv hK hPc (ci := 10) (q0 := 0) rfl rfl, fun U hU hW => ⟨rfl, by rw [hU], by rw [hU]; exact hPc, va_K.moved hW.alike hK, hDc.weaken (fun _ _ _ _ => trivial)⟩⟩ rfl rfl hl.1 rfl (lv_room (Nat.le_of_ble_eq_true rfl)) dX11_back_37 ⟨Nat.le_of_ble_eq_true rfl, Nat.le_of_ble_eq_true rfl⟩) hS (fun q _ h => hFc q h) hFc (fun u t H1 locs ht hvm gz68 hB hz1 hk1 hS => ?_)
          obtain ⟨vz70, bz71, cz72, wz73, az74, ez75, hbz71, hcz72, hwz73, hez75, hP1⟩ := hB
          rw [ht] at hP1
          obtain ⟨hP, hD⟩ := w_callR hP hD hk1 hP1 [0] rfl rfl (wk_memC [20] rfl) rfl [some 0, none, none, none, none, none, none, none, none, none, none, none, none] rfl rfl
          clear hPc hC hDc hFc hk1 hP1
          generalize H1 = H at hP hS ⊢
          have hP : va_P (dC, dI) vwCl (List.flatten [(wValley qV k vz70 bz71 cz72 wz73 az74 ez75), (wActs qA k dA aA), (wPlan qN k vN aN eN), (wState (sY 0) k (vY 0) (nY 0) (aY 0)), (wState (sY 1) k (vY 1) (nY 1) (aY 1)), (wState (sY 2) k (vY 2) (nY 2) (aY 2)), (wState (sY 3) k (vY 3) (nY 3) (aY 3)), (wState (sY 4) k (vY 4) (nY 4) (aY 4)), (wState (sY 5) k (vY 5) (nY 5) (aY 5)), (wState (sY 6) k (vY 6) (nY 6) (aY 6)), (wState (sY 7) k (vY 7) (nY 7) (aY 7)), (wSearch qR k vR aR), (wSearch qU k vU aU)] ++ List.flatten [(wSag qX k tapeX (qV 0) (qA 0) (qN 0) trialX (qY 0) attemptX (qR 0) (qU 0) setSearchX probeX slot0X slot1X slot2X slot3X (qI0 0) (qI1 0) (qI2 0) aX), (wStoO qY k (qV 0) (qN 0) (sY 0 0) (sY 1 0) (sY 2 0) (sY 3 0) (sY 4 0) (sY 5 0) (sY 6 0) (sY 7 0)), (wImage qI0 k (qJ0 0) (qK0 0) vI0), (wImage qI1 k (qJ1 0) (qK1 0) vI1), (wImage qI2 k (qJ2 0) (qK2 0) vI2), (wValley qJ0 k vJ0 bJ0 cJ0 wJ0 aJ0 eJ0), (wValley qJ1 k vJ1 bJ1 cJ1 wJ1 aJ1 eJ1), (wValley qJ2 k vJ2 bJ2 cJ2 wJ2 aJ2 eJ2), (wActs qK0 k dK0 aK0), (wActs qK1 k dK1 aK1), (wActs qK2 k dK2 aK2)]) H := hP
          have hD : va_D A (List.flatten [(wValley qV k vz70 bz71 cz72 wz73 az74 ez75), (wActs qA k dA aA), (wPlan qN k vN aN eN), (wState (sY 0) k (vY 0) (nY 0) (aY 0)), (wState (sY 1) k (vY 1) (nY 1) (aY 1)), (wState (sY 2) k (vY 2) (nY 2) (aY 2)), (wState (sY 3) k (vY 3) (nY 3) (aY 3)), (wState (sY 4) k (vY 4) (nY 4) (aY 4)), (wState (sY 5) k (vY 5) (nY 5) (aY 5)), (wState (sY 6) k (vY 6) (nY 6) (aY 6)), (wState (sY 7) k (vY 7) (nY 7) (aY 7)), (wSearch qR k vR aR), (wSearch qU k vU aU)] ++ List.flatten [(wSag qX k tapeX (qV 0) (qA 0) (qN 0) trialX (qY 0) attemptX (qR 0) (qU 0) setSearchX probeX slot0X slot1X slot2X slot3X (qI0 0) (qI1 0) (qI2 0) aX), (wStoO qY k (qV 0) (qN 0) (sY 0 0) (sY 1 0) (sY 2 0) (sY 3 0) (sY 4 0) (sY 5 0) (sY 6 0) (sY 7 0)), (wImage qI0 k (qJ0 0) (qK0 0) vI0), (wImage qI1 k (qJ1 0) (qK1 0) vI1), (wImage qI2 k (qJ2 0) (qK2 0) vI2), (wValley qJ0 k vJ0 bJ0 cJ0 wJ0 aJ0 eJ0), (wValley qJ1 k vJ1 bJ1 cJ1 wJ1 aJ1 eJ1), (wValley qJ2 k vJ2 bJ2 cJ2 wJ2 aJ2 eJ2), (wActs qK0 k dK0 aK0), (wActs qK1 k dK1 aK1), (wActs qK2 k dK2 aK2)]) := hD
          refine W.widen (k := 0) (n := 0) (Nat.le_refl 0) (Nat.le_refl 0) ?_
          refine lv_aload_n hx hb dX11_back_40 rfl (lv_at hl 1 rfl) ?_
          refine va_get (D := (dC, dI)) (ci := 11) (v := .ref (qA 0)) (C := RX11) (T := TX11) (N := 15) hx hb hts (fun w h => List.mem_cons_of_mem _ (List.mem_append_right _ (List.mem_append_left _ h))) hown hK hP 109 rfl rfl 2 (by decide) (hts (.fieldLink RX11 26 "SagMemory" "acts" "LSagMemory$Acts;") (wl_mem 8 rfl)) (fun _ h9 => h9) rfl dX11_back_41 ?_
          refine lv_aload_n hx hb dX11_back_44 rfl (lv_at hl 0 rfl) ?_
          refine va_get (D := (dC, dI)) (ci := 1) (v := .ref (qK2 0)) (C := RX1) (T := TX1) (N := 3) hx hb hts (fun w h => List.mem_cons_of_mem _ (List.mem_append_right _ (List.mem_append_right _ (List.mem_append_left _ h)))) hown hK hP 118 rfl rfl 1 (by decide) (hts (.fieldLink RX11 372 "SagMemory$Image" "acts" "LSagMemory$Acts;") (wl_mem 9 rfl)) (fun _ h9 => h9) rfl dX11_back_45 ?_
          have hPc := hP.sub (ws' := (List.flatten [(wActs qA k dA aA)] ++ List.flatten [(wActs qK2 k dK2 aK2)])) [8, 9, 10, 11, 151, 152, 153, 154] rfl
          have hC : [8, 9, 10, 11, 151, 152, 153, 154].map (fun i => (List.flatten [(wValley qV k vz70 bz71 cz72 wz73 az74 ez75), (wActs qA k dA aA), (wPlan qN k vN aN eN), (wState (sY 0) k (vY 0) (nY 0) (aY 0)), (wState (sY 1) k (vY 1) (nY 1) (aY 1)), (wState (sY 2) k (vY 2) (nY 2) (aY 2)), (wState (sY 3) k (vY 3) (nY 3) (aY 3)), (wState (sY 4) k (vY 4) (nY 4) (aY 4)), (wState (sY 5) k (vY 5) (nY 5) (aY 5)), (wState (sY 6) k (vY 6) (nY 6) (aY 6)), (wState (sY 7) k (vY 7) (nY 7) (aY 7)), (wSearch qR k vR aR), (wSearch qU k vU aU)] ++ List.flatten [(wSag qX k tapeX (qV 0) (qA 0) (qN 0) trialX (qY 0) attemptX (qR 0) (qU 0) setSearchX probeX slot0X slot1X slot2X slot3X (qI0 0) (qI1 0) (qI2 0) aX), (wStoO qY k (qV 0) (qN 0) (sY 0 0) (sY 1 0) (sY 2 0) (sY 3 0) (sY 4 0) (sY 5 0) (sY 6 0) (sY 7 0)), (wImage qI0 k (qJ0 0) (qK0 0) vI0), (wImage qI1 k (qJ1 0) (qK1 0) vI1), (wImage qI2 k (qJ2 0) (qK2 0) vI2), (wValley qJ0 k vJ0 bJ0 cJ0 wJ0 aJ0 eJ0), (wValley qJ1 k vJ1 bJ1 cJ1 wJ1 aJ1 eJ1), (wValley qJ2 k vJ2 bJ2 cJ2 wJ2 aJ2 eJ2), (wActs qK0 k dK0 aK0), (wActs qK1 k dK1 aK1), (wActs qK2 k dK2 aK2)])[i]?) = (List.flatten [(wActs qA k dA aA)] ++ List.flatten [(wActs qK2 k dK2 aK2)]).map some := rfl
          have hDc := hD.sub [8, 9, 10, 11, 151, 152, 153, 154] (by decide) hC
          have hFc := va_free hD hS hA [8, 9, 10, 11, 151, 152, 153, 154] hC
          refine va_callv (va_runV (As := [.ref (qK2 0)]) (rest := []) ⟨hx, hb, hml, hown, hts⟩ (c_X0_take l dC dI k H.size qA dA aA qK2 dK2 aK2 hdA hdK2) (cwV 1 hts (gk_V (wl_mem 10 rfl) (wl_mem 11 rfl) (wl_mem 12 rfl) (wl_mem 13 rfl) (fun w h => List.mem_cons_of_mem _ (List.mem_append_right _ (List.mem_append_right _ (List.mem_append_right _ (List.mem_append_right _ (List.mem_append_left _ h)))))) wkg_c_X0_take) rfl rfl rfl (by decide +kernel) ⟨Nat.le_of_ble_eq_true rfl, Nat.le_of_ble_eq_true rfl⟩) ⟨fun a U g mk q => by obtain ⟨q0, q1, qP, qK, qD⟩ := q; exact ⟨q0, q1, qP, va_K.moved (u := U) (U := U.calling g mk a) (Vm.Alike.refl U.vm) qK, qD⟩, va_recv hK hPc (ci := 0) (q0 := 0) rfl rfl, fun U hU hW => ⟨rfl, by rw [hU], by rw [hU]; exact hPc, va_K.moved hW.alike hK, hDc.weaken (fun _ _ _ _ => trivial)⟩⟩ rfl rfl hl.1 rfl (lv_room (Nat.le_of_ble_eq_true rfl)) dX11_back_48 ⟨Nat.le_of_ble_eq_true rfl, Nat.le_of_ble_eq_true rfl⟩) hS (fun q _ h => hFc q h) hFc (fun u t H1 locs ht hvm gz76 hB hz1 hk1 hS => ?_)
          obtain ⟨dz78, az79, hdz78, hP1⟩ := hB
          rw [ht] at hP1
          obtain ⟨hP, hD⟩ := w_callR hP hD hk1 hP1 [1] rfl rfl (wk_memC [23] rfl) rfl [none, some 0, none, none, none, none, none, none, none, none, none, none, none] rfl rfl
          clear hPc hC hDc hFc hk1 hP1
          generalize H1 = H at hP hS ⊢
          have hP : va_P (dC, dI) vwCl (List.flatten [(wValley qV k vz70 bz71 cz72 wz73 az74 ez75), (wActs qA k dz78 az79), (wPlan qN k vN aN eN), (wState (sY 0) k (vY 0) (nY 0) (aY 0)), (wState (sY 1) k (vY 1) (nY 1) (aY 1)), (wState (sY 2) k (vY 2) (nY 2) (aY 2)), (wState (sY 3) k (vY 3) (nY 3) (aY 3)), (wState (sY 4) k (vY 4) (nY 4) (aY 4)), (wState (sY 5) k (vY 5) (nY 5) (aY 5)), (wState (sY 6) k (vY 6) (nY 6) (aY 6)), (wState (sY 7) k (vY 7) (nY 7) (aY 7)), (wSearch qR k vR aR), (wSearch qU k vU aU)] ++ List.flatten [(wSag qX k tapeX (qV 0) (qA 0) (qN 0) trialX (qY 0) attemptX (qR 0) (qU 0) setSearchX probeX slot0X slot1X slot2X slot3X (qI0 0) (qI1 0) (qI2 0) aX), (wStoO qY k (qV 0) (qN 0) (sY 0 0) (sY 1 0) (sY 2 0) (sY 3 0) (sY 4 0) (sY 5 0) (sY 6 0) (sY 7 0)), (wImage qI0 k (qJ0 0) (qK0 0) vI0), (wImage qI1 k (qJ1 0) (qK1 0) vI1), (wImage qI2 k (qJ2 0) (qK2 0) vI2), (wValley qJ0 k vJ0 bJ0 cJ0 wJ0 aJ0 eJ0), (wValley qJ1 k vJ1 bJ1 cJ1 wJ1 aJ1 eJ1), (wValley qJ2 k vJ2 bJ2 cJ2 wJ2 aJ2 eJ2), (wActs qK0 k dK0 aK0), (wActs qK1 k dK1 aK1), (wActs qK2 k dK2 aK2)]) H := hP
          have hD : va_D A (List.flatten [(wValley qV k vz70 bz71 cz72 wz73 az74 ez75), (wActs qA k dz78 az79), (wPlan qN k vN aN eN), (wState (sY 0) k (vY 0) (nY 0) (aY 0)), (wState (sY 1) k (vY 1) (nY 1) (aY 1)), (wState (sY 2) k (vY 2) (nY 2) (aY 2)), (wState (sY 3) k (vY 3) (nY 3) (aY 3)), (wState (sY 4) k (vY 4) (nY 4) (aY 4)), (wState (sY 5) k (vY 5) (nY 5) (aY 5)), (wState (sY 6) k (vY 6) (nY 6) (aY 6)), (wState (sY 7) k (vY 7) (nY 7) (aY 7)), (wSearch qR k vR aR), (wSearch qU k vU aU)] ++ List.flatten [(wSag qX k tapeX (qV 0) (qA 0) (qN 0) trialX (qY 0) attemptX (qR 0) (qU 0) setSearchX probeX slot0X slot1X slot2X slot3X (qI0 0) (qI1 0) (qI2 0) aX), (wStoO qY k (qV 0) (qN 0) (sY 0 0) (sY 1 0) (sY 2 0) (sY 3 0) (sY 4 0) (sY 5 0) (sY 6 0) (sY 7 0)), (wImage qI0 k (qJ0 0) (qK0 0) vI0), (wImage qI1 k (qJ1 0) (qK1 0) vI1), (wImage qI2 k (qJ2 0) (qK2 0) vI2), (wValley qJ0 k vJ0 bJ0 cJ0 wJ0 aJ0 eJ0), (wValley qJ1 k vJ1 bJ1 cJ1 wJ1 aJ1 eJ1), (wValley qJ2 k vJ2 bJ2 cJ2 wJ2 aJ2 eJ2), (wActs qK0 k dK0 aK0), (wActs qK1 k dK1 aK1), (wActs qK2 k dK2 aK2)]) := hD
          refine W.widen (k := 0) (n := 0) (Nat.le_refl 0) (Nat.le_refl 0) ?_
          refine lv_aload_n hx hb dX11_back_51 rfl (lv_at hl 1 rfl) ?_
          have hPc : va_P (dC, dI) vwCl (List.flatten [(wPlan qN k vN aN eN), (wState (sY 0) k (vY 0) (nY 0) (aY 0)), (wState (sY 1) k (vY 1) (nY 1) (aY 1)), (wState (sY 2) k (vY 2) (nY 2) (aY 2)), (wState (sY 3) k (vY 3) (nY 3) (aY 3)), (wState (sY 4) k (vY 4) (nY 4) (aY 4)), (wState (sY 5) k (vY 5) (nY 5) (aY 5)), (wState (sY 6) k (vY 6) (nY 6) (aY 6)), (wState (sY 7) k (vY 7) (nY 7) (aY 7)), (wSearch qR k vR aR), (wSearch qU k vU aU)] ++ List.flatten [(wSag qX k tapeX (qV 0) (qA 0) (qN 0) trialX (qY 0) attemptX (qR 0) (qU 0) setSearchX probeX slot0X slot1X slot2X slot3X (qI0 0) (qI1 0) (qI2 0) aX), (wValley qV k vz70 bz71 cz72 wz73 az74 ez75), (wActs qA k dz78 az79), (wStoO qY k (qV 0) (qN 0) (sY 0 0) (sY 1 0) (sY 2 0) (sY 3 0) (sY 4 0) (sY 5 0) (sY 6 0) (sY 7 0))]) H := wc_subP hP [2, 3, 4, 5, 6, 7, 8, 9, 10, 11, 12, 13, 0, 1, 14] rfl
          have hDc : va_D A (List.flatten [(wPlan qN k vN aN eN), (wState (sY 0) k (vY 0) (nY 0) (aY 0)), (wState (sY 1) k (vY 1) (nY 1) (aY 1)), (wState (sY 2) k (vY 2) (nY 2) (aY 2)), (wState (sY 3) k (vY 3) (nY 3) (aY 3)), (wState (sY 4) k (vY 4) (nY 4) (aY 4)), (wState (sY 5) k (vY 5) (nY 5) (aY 5)), (wState (sY 6) k (vY 6) (nY 6) (aY 6)), (wState (sY 7) k (vY 7) (nY 7) (aY 7)), (wSearch qR k vR aR), (wSearch qU k vU aU)] ++ List.flatten [(wSag qX k tapeX (qV 0) (qA 0) (qN 0) trialX (qY 0) attemptX (qR 0) (qU 0) setSearchX probeX slot0X slot1X slot2X slot3X (qI0 0) (qI1 0) (qI2 0) aX), (wValley qV k vz70 bz71 cz72 wz73 az74 ez75), (wActs qA k dz78 az79), (wStoO qY k (qV 0) (qN 0) (sY 0 0) (sY 1 0) (sY 2 0) (sY 3 0) (sY 4 0) (sY 5 0) (sY 6 0) (sY 7 0))]) := wc_subD hD [2, 3, 4, 5, 6, 7, 8, 9, 10, 11, 12, 13, 0, 1, 14] rfl rfl
          have hFc := wc_free hDc hS hA
          refine va_callv (va_runV (As := []) (rest := []) ⟨hx, hb, hml, hown, hts⟩ (c_X11_renew l dC dI k H.size qX tapeX trialX attemptX setSearchX probeX slot0X slot1X slot2X slot3X (qI0 0) (qI1 0) (qI2 0) aX qV vz70 bz71 cz72 wz73 az74 ez75 qA dz78 az79 qN vN aN eN qY sY vY nY aY qR vR aR qU vU aU hbz71 hcz72 hwz73 hez75 hdz78 heN hnY) (cwV 0 hts (gk_V (wl_mem 14 rfl) (wl_mem 15 rfl) (wl_mem 16 rfl) (wl_mem 17 rfl) (fun w h => List.mem_cons_of_mem _ (List.mem_append_right _ (List.mem_append_right _ (List.mem_append_right _ (List.mem_append_right _ (List.mem_append_right _ (List.mem_append_left _ h))))))) wkg_c_X11_renew) rfl rfl rfl (by decide +kernel) ⟨Nat.le_of_ble_eq_true rfl, Nat.le_of_ble_eq_true rfl⟩) ⟨fun a U g mk q => by obtain ⟨q0, q1, qP, qK, qD⟩ := q; exact ⟨q0, q1, qP, va_K.moved (u := U) (U := U.calling g mk a) (Vm.Alike.refl U.vm) qK, qD⟩, va_recv hK hPc (ci := 11) (q0 := 97) rfl rfl, fun U hU hW => ⟨rfl, by rw [hU], by rw [hU]; exact hPc, va_K.moved hW.alike hK, hDc.weaken (fun _ _ _ _ => trivial)⟩⟩ rfl rfl hl.1 rfl (lv_room (Nat.le_of_ble_eq_true rfl)) dX11_back_52 ⟨Nat.le_of_ble_eq_true rfl, Nat.le_of_ble_eq_true rfl⟩) hS (fun q _ h => hFc q h) hFc (fun u t H1 locs ht hvm gz80 hB hz1 hk1 hS => ?_)
          obtain ⟨vz82, az83, ez84, vz85, nz86, az87, vz88, az89, vz90, az91, hez84, hnz86, hP1⟩ := hB
          rw [ht] at hP1
          obtain ⟨hP, hD⟩ := w_callR hP hD hk1 hP1 [2, 3, 4, 5, 6, 7, 8, 9, 10, 11, 12] rfl rfl (wk_memC [13, 0, 1, 14] rfl) rfl [none, none, some 0, some 1, some 2, some 3, some 4, some 5, some 6, some 7, some 8, some 9, some 10] rfl rfl
          clear hPc hDc hFc hk1 hP1
          generalize H1 = H at hP hS ⊢
          have hP : va_P (dC, dI) vwCl (List.flatten [(wValley qV k vz70 bz71 cz72 wz73 az74 ez75), (wActs qA k dz78 az79), (wPlan qN k vz82 az83 ez84), (wState (sY 0) k (vz85 0) (nz86 0) (az87 0)), (wState (sY 1) k (vz85 1) (nz86 1) (az87 1)), (wState (sY 2) k (vz85 2) (nz86 2) (az87 2)), (wState (sY 3) k (vz85 3) (nz86 3) (az87 3)), (wState (sY 4) k (vz85 4) (nz86 4) (az87 4)), (wState (sY 5) k (vz85 5) (nz86 5) (az87 5)), (wState (sY 6) k (vz85 6) (nz86 6) (az87 6)), (wState (sY 7) k (vz85 7) (nz86 7) (az87 7)), (wSearch qR k vz88 az89), (wSearch qU k vz90 az91)] ++ List.flatten [(wSag qX k tapeX (qV 0) (qA 0) (qN 0) trialX (qY 0) attemptX (qR 0) (qU 0) setSearchX probeX slot0X slot1X slot2X slot3X (qI0 0) (qI1 0) (qI2 0) aX), (wStoO qY k (qV 0) (qN 0) (sY 0 0) (sY 1 0) (sY 2 0) (sY 3 0) (sY 4 0) (sY 5 0) (sY 6 0) (sY 7 0)), (wImage qI0 k (qJ0 0) (qK0 0) vI0), (wImage qI1 k (qJ1 0) (qK1 0) vI1), (wImage qI2 k (qJ2 0) (qK2 0) vI2), (wValley qJ0 k vJ0 bJ0 cJ0 wJ0 aJ0 eJ0), (wValley qJ1 k vJ1 bJ1 cJ1 wJ1 aJ1 eJ1), (wValley qJ2 k vJ2 bJ2 cJ2 wJ2 aJ2 eJ2), (wActs qK0 k dK0 aK0), (wActs qK1 k dK1 aK1), (wActs qK2 k dK2 aK2)]) H := hP
          have hD : va_D A (List.flatten [(wValley qV k vz70 bz71 cz72 wz73 az74 ez75), (wActs qA k dz78 az79), (wPlan qN k vz82 az83 ez84), (wState (sY 0) k (vz85 0) (nz86 0) (az87 0)), (wState (sY 1) k (vz85 1) (nz86 1) (az87 1)), (wState (sY 2) k (vz85 2) (nz86 2) (az87 2)), (wState (sY 3) k (vz85 3) (nz86 3) (az87 3)), (wState (sY 4) k (vz85 4) (nz86 4) (az87 4)), (wState (sY 5) k (vz85 5) (nz86 5) (az87 5)), (wState (sY 6) k (vz85 6) (nz86 6) (az87 6)), (wState (sY 7) k (vz85 7) (nz86 7) (az87 7)), (wSearch qR k vz88 az89), (wSearch qU k vz90 az91)] ++ List.flatten [(wSag qX k tapeX (qV 0) (qA 0) (qN 0) trialX (qY 0) attemptX (qR 0) (qU 0) setSearchX probeX slot0X slot1X slot2X slot3X (qI0 0) (qI1 0) (qI2 0) aX), (wStoO qY k (qV 0) (qN 0) (sY 0 0) (sY 1 0) (sY 2 0) (sY 3 0) (sY 4 0) (sY 5 0) (sY 6 0) (sY 7 0)), (wImage qI0 k (qJ0 0) (qK0 0) vI0), (wImage qI1 k (qJ1 0) (qK1 0) vI1), (wImage qI2 k (qJ2 0) (qK2 0) vI2), (wValley qJ0 k vJ0 bJ0 cJ0 wJ0 aJ0 eJ0), (wValley qJ1 k vJ1 bJ1 cJ1 wJ1 aJ1 eJ1), (wValley qJ2 k vJ2 bJ2 cJ2 wJ2 aJ2 eJ2), (wActs qK0 k dK0 aK0), (wActs qK1 k dK1 aK1), (wActs qK2 k dK2 aK2)]) := hD
          refine W.widen (k := 0) (n := 0) (Nat.le_refl 0) (Nat.le_refl 0) ?_
          refine lv_iconst (v := 0) hx hb dX11_back_55 (by decide) ?_
          rw [hQ]
          exact W.iret (v := (0 : Int32)) hx hb hr (fun t ht hW => ⟨⟨(0 : Int32), (), rfl, trivial, vz70, bz71, cz72, wz73, az74, ez75, dz78, az79, vz82, az83, ez84, vz85, nz86, az87, vz88, az89, vz90, az91, hbz71, hcz72, hwz73, hez75, hdz78, hez84, hnz86, by rw [ht]; exact hP⟩, hS.F ht⟩) hS.2.2 dX11_back_56
        · skip
          have zz92 : (vI2 0).toInt = (0 : Int) := zi_eq.mp cz66
          refine lv_bipush (v := (-6)) hx hb dX11_back_26 (by decide) ?_
          rw [hQ]
          exact W.iret (v := (-6 : Int32)) hx hb hr (fun t ht hW => ⟨⟨(-6 : Int32), (), rfl, trivial, vV, bV, cV, wV, aV, eV, dA, aA, vN, aN, eN, vY, nY, aY, vR, aR, vU, aU, hbV, hcV, hwV, heV, hdA, heN, hnY, by rw [ht]; exact hP⟩, hS.F ht⟩) hS.2.2 dX11_back_28
    · skip
      have zz93 : ¬ p1.toInt < (3 : Int) := fun h9 => cz6 (zi_lt.mpr h9)
      refine lv_bipush (v := (-2)) hx hb dX11_back_9 (by decide) ?_
      rw [hQ]
      exact W.iret (v := (-2 : Int32)) hx hb hr (fun t ht hW => ⟨⟨(-2 : Int32), (), rfl, trivial, vV, bV, cV, wV, aV, eV, dA, aA, vN, aN, eN, vY, nY, aY, vR, aR, vU, aU, hbV, hcV, hwV, heV, hdA, heN, hnY, by rw [ht]; exact hP⟩, hS.F ht⟩) hS.2.2 dX11_back_11
def wk_c_X11_row : List Cond := .code yX11_row cX11_row 4 (some .int) :: ([.methodLink RX11 380 yX11_hasSlot, .static yX11_hasSlot, .initialized RX11, .fieldLink RX11 85 "SagMemory" "slots" "[LSagMemory$Slot;", .methodLink RX11 383 yX6_begin, .instanceMethod yX6_begin, .selects RX6 yX6_begin yX6_begin, .initialized RX6] ++ (wk_c_X11_hasSlot ++ (wsX110 ++ (wk_c_X6_begin ++ []))))
theorem wkg_c_X11_row : wk_c_X11_row.all goodWord = true := by decide +kernel
set_option maxHeartbeats 4000000 in
set_option maxRecDepth 100000 in
theorem c_X11_row (l : Launch) (dC : Nat → ClassId) (dI : Nat → Nat → Nat) (k : Nat → ClassId) (sz : Nat) (qX : Nat → Nat) (tapeX : Nat) (toldX : Nat) (actsX : Nat) (nowX : Nat) (trialX : Nat) (storyX : Nat) (attemptX : Nat) (orderSearchX : Nat) (routeSearchX : Nat) (setSearchX : Nat) (probeX : Nat) (image0X : Nat) (image1X : Nat) (image2X : Nat) (aX : Nat → Nat → Int32) (qL0 : Nat → Nat) (vL0 : Nat → Int32) (sL0 : Nat → Int32) (lL0 : Nat → Nat → Int64) (qL1 : Nat → Nat) (vL1 : Nat → Int32) (sL1 : Nat → Int32) (lL1 : Nat → Nat → Int64) (qL2 : Nat → Nat) (vL2 : Nat → Int32) (sL2 : Nat → Int32) (lL2 : Nat → Nat → Int64) (qL3 : Nat → Nat) (vL3 : Nat → Int32) (sL3 : Nat → Int32) (lL3 : Nat → Nat → Int64) (p1 : Int32) (p2 : Int32) (p3 : Int32) (hsL0 : Rg 0 60 sL0) (hsL1 : Rg 0 60 sL1) (hsL2 : Rg 0 60 sL2) (hsL3 : Rg 0 60 sL3) : Met l yX11_row wk_c_X11_row ({ frames := 1, cells := 0, slots := 0, locals := 23 }) (va_Pc [.ref (qX 0), .int p1, .int p2, .int p3] (fun U => U.heap.size = sz ∧ va_P (dC, dI) vwCl (List.flatten [(wSlot qL0 k vL0 sL0 lL0), (wSlot qL1 k vL1 sL1 lL1), (wSlot qL2 k vL2 sL2 lL2), (wSlot qL3 k vL3 sL3 lL3)] ++ List.flatten [(wSag qX k tapeX toldX actsX nowX trialX storyX attemptX orderSearchX routeSearchX setSearchX probeX (qL0 0) (qL1 0) (qL2 0) (qL3 0) image0X image1X image2X aX)]) U.heap ∧ va_K (dC, dI) vwCl (tK k) U ∧ va_D (fun _ => True) (List.flatten [(wSlot qL0 k vL0 sL0 lL0), (wSlot qL1 k vL1 sL1 lL1), (wSlot qL2 k vL2 sL2 lL2), (wSlot qL3 k vL3 sL3 lL3)] ++ List.flatten [(wSag qX k tapeX toldX actsX nowX trialX storyX attemptX orderSearchX routeSearchX setSearchX probeX (qL0 0) (qL1 0) (qL2 0) (qL3 0) image0X image1X image2X aX)]))) (va_Qi (fun (r : Int32) (_ : Unit) => True) (fun (_ : Unit) (t : State) => ∃ (vL0' : Nat → Int32) (sL0' : Nat → Int32) (lL0' : Nat → Nat → Int64) (vL1' : Nat → Int32) (sL1' : Nat → Int32) (lL1' : Nat → Nat → Int64) (vL2' : Nat → Int32) (sL2' : Nat → Int32) (lL2' : Nat → Nat → Int64) (vL3' : Nat → Int32) (sL3' : Nat → Int32) (lL3' : Nat → Nat → Int64), Rg 0 60 sL0' ∧ Rg 0 60 sL1' ∧ Rg 0 60 sL2' ∧ Rg 0 60 sL3' ∧ va_P (dC, dI) vwCl (List.flatten [(wSlot qL0 k vL0' sL0' lL0'), (wSlot qL1 k vL1' sL1' lL1'), (wSlot qL2 k vL2' sL2' lL2'), (wSlot qL3 k vL3' sL3' lL3')] ++ List.flatten [(wSag qX k tapeX toldX actsX nowX trialX storyX attemptX orderSearchX routeSearchX setSearchX probeX (qL0 0) (qL1 0) (qL2 0) (qL3 0) image0X image1X image2X aX)]) t.heap) (va_A (List.flatten [(wSlot qL0 k vL0 sL0 lL0), (wSlot qL1 k vL1 sL1 lL1), (wSlot qL2 k vL2 sL2 lL2), (wSlot qL3 k vL3 sL3 lL3)] ++ List.flatten [(wSag qX k tapeX toldX actsX nowX trialX storyX attemptX orderSearchX routeSearchX setSearchX probeX (qL0 0) (qL1 0) (qL2 0) (qL3 0) image0X image1X image2X aX)]) sz)) 0 0 (va_A (List.flatten [(wSlot qL0 k vL0 sL0 lL0), (wSlot qL1 k vL1 sL1 lL1), (wSlot qL2 k vL2 sL2 lL2), (wSlot qL3 k vL3 sL3 lL3)] ++ List.flatten [(wSag qX k tapeX toldX actsX nowX trialX storyX attemptX orderSearchX routeSearchX setSearchX probeX (qL0 0) (qL1 0) (qL2 0) (qL3 0) image0X image1X image2X aX)]) sz) := by
  refine Met.ofW (cc := cX11_row) (maxL := 4) (ret := (some .int)) (by decide) rfl ?_
  intro p e s m args below meth c s₁ B hml hv
  obtain ⟨rfl, hsz, hP, hK, hD0⟩ := hv
  have hx := B.exec
  have hb := B.bytes
  have hr := B.returns
  have hts := atoms_spec (ws := wk_c_X11_row) B.pre
  have hown : s.vm.findClass RX11 = some m.cls := findClass_of_methodNamed B.named
  have hlocks := B.notSynchronized
  subst hsz
  have hD := hD0.self (sz := s.heap.size)
  generalize hAe : va_A (List.flatten [(wSlot qL0 k vL0 sL0 lL0), (wSlot qL1 k vL1 sL1 lL1), (wSlot qL2 k vL2 sL2 lL2), (wSlot qL3 k vL3 sL3 lL3)] ++ List.flatten [(wSag qX k tapeX toldX actsX nowX trialX storyX attemptX orderSearchX routeSearchX setSearchX probeX (qL0 0) (qL1 0) (qL2 0) (qL3 0) image0X image1X image2X aX)]) s.heap.size = A at hD ⊢
  have hA : ∀ q : Nat, s.heap.size ≤ q → A q := fun q h => by rw [← hAe]; exact Or.inr h
  have hS : va_S A s.heap s.heap [] := va_S.rf
  have hP : va_P (dC, dI) vwCl (List.flatten [(wSlot qL0 k vL0 sL0 lL0), (wSlot qL1 k vL1 sL1 lL1), (wSlot qL2 k vL2 sL2 lL2), (wSlot qL3 k vL3 sL3 lL3)] ++ List.flatten [(wSag qX k tapeX toldX actsX nowX trialX storyX attemptX orderSearchX routeSearchX setSearchX probeX (qL0 0) (qL1 0) (qL2 0) (qL3 0) image0X image1X image2X aX)]) s.heap := hP
  have hl := lv_entry ([.ref (qX 0), .int p1, .int p2, .int p3]) (n := 4) (Nat.le_of_ble_eq_true rfl)
  rw [lg_entry_eq]
  generalize (lg_sl ([.ref (qX 0), .int p1, .int p2, .int p3]) ++ List.replicate (4 - (lg_sl ([.ref (qX 0), .int p1, .int p2, .int p3])).length) Slot.unset).toArray = ls at hl ⊢
  have hl : lv_has ls 4 [(0, .ref (qX 0)), (1, .int p1), (2, .int p2), (3, .int p3)] := hl
  refine w_gen (fun Q hQ => ?_)
  refine lv_iload_n hx hb dX11_row_0 rfl (lv_at hl 1 rfl) ?_
  have hPc : va_P (dC, dI) vwCl (List.flatten ([] : List va_W)) s.heap := fun k q h => by simp at h
  refine vp_callSi (va_Run.run (va_runS (As := [.int p1]) (rest := []) ⟨hx, hb, hml, hown, hts⟩ (c_X11_hasSlot l dC dI k p1) (va_cwS 1 hts (gk_S (wl_mem 0 rfl) (wl_mem 1 rfl) (wl_mem 2 rfl) (fun w h => List.mem_cons_of_mem _ (List.mem_append_right _ (List.mem_append_left _ h))) wkg_c_X11_hasSlot) rfl rfl rfl (by decide +kernel) ⟨Nat.le_of_ble_eq_true rfl, Nat.le_of_ble_eq_true rfl⟩) ⟨fun a U g mk q => by obtain ⟨q0, qP, qK⟩ := q; exact ⟨q0, qP, va_K.moved (u := U) (U := U.calling g mk a) (Vm.Alike.refl U.vm) qK⟩, fun U hU hW => ⟨rfl, by rw [hU]; exact hPc, va_K.moved hW.alike hK⟩⟩ rfl rfl hl.1 rfl (lv_room (Nat.le_of_ble_eq_true rfl)) dX11_row_1 ⟨Nat.le_of_ble_eq_true rfl, Nat.le_of_ble_eq_true rfl⟩)) (fun rz2 gz1 => ?_)
  clear hPc
  rcases gz1 with ⟨er, cz3⟩ | ⟨er, cz4, cz5⟩ | ⟨er, cz6, cz7⟩
  · obtain rfl := er.symm
    have bz8 := fb_rng p1
    have zz9 : p1.toInt < (0 : Int) := zi_lt.mp cz3
    refine lv_if_eq (tgt := 22) hx hb dX11_row_4 (by decide) (fun cz10 => ?_) (fun cz10 => ?_)
    · skip
      refine lv_bipush (v := (-2)) hx hb dX11_row_22 (by decide) ?_
      rw [hQ]
      exact W.iret (v := (-2 : Int32)) hx hb hr (fun t ht hW => ⟨⟨(-2 : Int32), (), rfl, trivial, vL0, sL0, lL0, vL1, sL1, lL1, vL2, sL2, lL2, vL3, sL3, lL3, hsL0, hsL1, hsL2, hsL3, by rw [ht]; exact hP⟩, hS.F ht⟩) hS.2.2 dX11_row_24
    · skip
      exact absurd cz10 (by decide)
  · obtain rfl := er.symm
    have bz11 := fb_rng p1
    have zz12 : ¬ p1.toInt < (0 : Int) := fun h9 => cz4 (zi_lt.mpr h9)
    have zz13 : (4 : Int) ≤ p1.toInt := zi_le.mp cz5
    refine lv_if_eq (tgt := 22) hx hb dX11_row_4 (by decide) (fun cz14 => ?_) (fun cz14 => ?_)
    · skip
      refine lv_bipush (v := (-2)) hx hb dX11_row_22 (by decide) ?_
      rw [hQ]
      exact W.iret (v := (-2 : Int32)) hx hb hr (fun t ht hW => ⟨⟨(-2 : Int32), (), rfl, trivial, vL0, sL0, lL0, vL1, sL1, lL1, vL2, sL2, lL2, vL3, sL3, lL3, hsL0, hsL1, hsL2, hsL3, by rw [ht]; exact hP⟩, hS.F ht⟩) hS.2.2 dX11_row_24
    · skip
      exact absurd cz14 (by decide)
  · obtain rfl := er.symm
    have bz15 := fb_rng p1
    have zz16 : ¬ p1.toInt < (0 : Int) := fun h9 => cz6 (zi_lt.mpr h9)
    have zz17 : ¬ (4 : Int) ≤ p1.toInt := fun h9 => cz7 (zi_le.mpr h9)
    refine lv_if_eq (tgt := 22) hx hb dX11_row_4 (by decide) (fun cz18 => ?_) (fun cz18 => ?_)
    · skip
      exact absurd cz18 (by decide)
    · skip
      refine lv_iload_n hx hb dX11_row_7 rfl (lv_at hl 2 rfl) ?_
      refine lv_if_lt (tgt := 22) hx hb dX11_row_8 (by decide) (fun cz19 => ?_) (fun cz19 => ?_)
      · skip
        have bz20 := fb_rng p2
        have zz21 : p2.toInt < (0 : Int) := zi_lt.mp cz19
        refine lv_bipush (v := (-2)) hx hb dX11_row_22 (by decide) ?_
        rw [hQ]
        exact W.iret (v := (-2 : Int32)) hx hb hr (fun t ht hW => ⟨⟨(-2 : Int32), (), rfl, trivial, vL0, sL0, lL0, vL1, sL1, lL1, vL2, sL2, lL2, vL3, sL3, lL3, hsL0, hsL1, hsL2, hsL3, by rw [ht]; exact hP⟩, hS.F ht⟩) hS.2.2 dX11_row_24
      · skip
        have bz22 := fb_rng p2
        have zz23 : ¬ p2.toInt < (0 : Int) := fun h9 => cz19 (zi_lt.mpr h9)
        refine lv_iload_n hx hb dX11_row_11 rfl (lv_at hl 2 rfl) ?_
        refine lv_iconst (v := 4) hx hb dX11_row_12 (by decide) ?_
        refine lv_icmp_ge (tgt := 22) hx hb dX11_row_13 (by decide) (fun cz24 => ?_) (fun cz24 => ?_)
        · skip
          have zz25 : (4 : Int) ≤ p2.toInt := zi_le.mp cz24
          refine lv_bipush (v := (-2)) hx hb dX11_row_22 (by decide) ?_
          rw [hQ]
          exact W.iret (v := (-2 : Int32)) hx hb hr (fun t ht hW => ⟨⟨(-2 : Int32), (), rfl, trivial, vL0, sL0, lL0, vL1, sL1, lL1, vL2, sL2, lL2, vL3, sL3, lL3, hsL0, hsL1, hsL2, hsL3, by rw [ht]; exact hP⟩, hS.F ht⟩) hS.2.2 dX11_row_24
        · skip
          have zz26 : ¬ (4 : Int) ≤ p2.toInt := fun h9 => cz24 (zi_le.mpr h9)
          refine lv_iload_n hx hb dX11_row_16 rfl (lv_at hl 3 rfl) ?_
          refine lv_bipush (v := 60) hx hb dX11_row_17 (by decide) ?_
          refine lv_icmp_le (tgt := 25) hx hb dX11_row_19 (by decide) (fun cz27 => ?_) (fun cz27 => ?_)
          · skip
            have bz28 := fb_rng p3
            have zz29 : p3.toInt ≤ (60 : Int) := zi_le.mp cz27
            refine lv_iload_n hx hb dX11_row_25 rfl (lv_at hl 3 rfl) ?_
            refine lv_if_ge (tgt := 32) hx hb dX11_row_26 (by decide) (fun cz30 => ?_) (fun cz30 => ?_)
            · skip
              have zz31 : (0 : Int) ≤ p3.toInt := zi_le.mp cz30
              refine lv_aload_n hx hb dX11_row_32 rfl (lv_at hl 0 rfl) ?_
              refine va_get (D := (dC, dI)) (ci := 11) (v := .ref (qX 3)) (C := RX11) (T := TX11) (N := 15) hx hb hts (fun w h => List.mem_cons_of_mem _ (List.mem_append_right _ (List.mem_append_right _ (List.mem_append_left _ h)))) hown hK hP 8 rfl rfl 13 (by decide) (hts (.fieldLink RX11 85 "SagMemory" "slots" "[LSagMemory$Slot;") (wl_mem 3 rfl)) (fun _ h9 => h9) rfl dX11_row_33 ?_
              refine lv_iload_n hx hb dX11_row_36 rfl (lv_at hl 1 rfl) ?_
              rcases (show p1 = 0 ∨ p1 = 1 ∨ p1 = 2 ∨ p1 = 3 by simp only [zi_eq]; show p1.toInt = 0 ∨ p1.toInt = 1 ∨ p1.toInt = 2 ∨ p1.toInt = 3; omega) with cz32 | cz32 | cz32 | cz32
              · skip
                have zz33 : p1.toInt = (0 : Int) := zi_eq.mp cz32
                refine W.eq (g2 := F0 m 37 ls [.int 0, .ref (qX 3)]) (by rw [cz32]) ?_
                refine va_aldq hx hb hK hP 11 6 rfl rfl (by unfold vp_in; decide) dX11_row_37 ?_
                refine W.eq (g2 := F0 m 38 ls [.ref (qL0 0)]) rfl ?_
                refine lv_iload_n hx hb dX11_row_38 rfl (lv_at hl 2 rfl) ?_
                refine lv_iload_n hx hb dX11_row_39 rfl (lv_at hl 3 rfl) ?_
                have hPc := hP.sub (ws' := (List.flatten [(wSlot qL0 k vL0 sL0 lL0)] ++ List.flatten ([] : List va_W))) [0, 1] rfl
                have hC : [0, 1].map (fun i => (List.flatten [(wSlot qL0 k vL0 sL0 lL0), (wSlot qL1 k vL1 sL1 lL1), (wSlot qL2 k vL2 sL2 lL2), (wSlot qL3 k vL3 sL3 lL3)] ++ List.flatten [(wSag qX k tapeX toldX actsX nowX trialX storyX attemptX orderSearchX routeSearchX setSearchX probeX (qL0 0) (qL1 0) (qL2 0) (qL3 0) image0X image1X image2X aX)])[i]?) = (List.flatten [(wSlot qL0 k vL0 sL0 lL0)] ++ List.flatten ([] : List va_W)).map some := rfl
                have hDc := hD.sub [0, 1] (by decide) hC
                have hFc := va_free hD hS hA [0, 1] hC
                refine va_callv (va_runV (As := [.int p2, .int p3]) (rest := []) ⟨hx, hb, hml, hown, hts⟩ (c_X6_begin l dC dI k s.heap.size qL0 vL0 sL0 lL0 p2 p3 hsL0 (by show 0 ≤ p3.toInt ∧ p3.toInt ≤ 60; omega)) (cwV 2 hts (gk_V (wl_mem 4 rfl) (wl_mem 5 rfl) (wl_mem 6 rfl) (wl_mem 7 rfl) (fun w h => List.mem_cons_of_mem _ (List.mem_append_right _ (List.mem_append_right _ (List.mem_append_right _ (List.mem_append_left _ h))))) wkg_c_X6_begin) rfl rfl rfl (by decide +kernel) ⟨Nat.le_of_ble_eq_true rfl, Nat.le_of_ble_eq_true rfl⟩) ⟨fun a U g mk q => by obtain ⟨q0, q1, qP, qK, qD⟩ := q; exact ⟨q0, q1, qP, va_K.moved (u := U) (U := U.calling g mk a) (Vm.Alike.refl U.vm) qK, qD⟩, va_recv hK hPc (ci := 6) (q0 := 0) rfl rfl, fun U hU hW => ⟨rfl, by rw [hU], by rw [hU]; exact hPc, va_K.moved hW.alike hK, hDc.weaken (fun _ _ _ _ => trivial)⟩⟩ rfl rfl hl.1 rfl (lv_room (Nat.le_of_ble_eq_true rfl)) dX11_row_40 ⟨Nat.le_of_ble_eq_true rfl, Nat.le_of_ble_eq_true rfl⟩) hS (fun q _ h => hFc q h) hFc (fun u t H1 locs ht hvm gz34 hB hz1 hk1 hS => ?_)
                obtain ⟨vz36, sz37, lz38, hsz37, hP1⟩ := hB
                rw [ht] at hP1
                obtain ⟨hP, hD⟩ := w_callR hP hD hk1 hP1 [0] rfl rfl (fun _ h => absurd h List.not_mem_nil) rfl [some 0, none, none, none] rfl rfl
                clear hPc hC hDc hFc hk1 hP1
                generalize H1 = H at hP hS ⊢
                have hP : va_P (dC, dI) vwCl (List.flatten [(wSlot qL0 k vz36 sz37 lz38), (wSlot qL1 k vL1 sL1 lL1), (wSlot qL2 k vL2 sL2 lL2), (wSlot qL3 k vL3 sL3 lL3)] ++ List.flatten [(wSag qX k tapeX toldX actsX nowX trialX storyX attemptX orderSearchX routeSearchX setSearchX probeX (qL0 0) (qL1 0) (qL2 0) (qL3 0) image0X image1X image2X aX)]) H := hP
                have hD : va_D A (List.flatten [(wSlot qL0 k vz36 sz37 lz38), (wSlot qL1 k vL1 sL1 lL1), (wSlot qL2 k vL2 sL2 lL2), (wSlot qL3 k vL3 sL3 lL3)] ++ List.flatten [(wSag qX k tapeX toldX actsX nowX trialX storyX attemptX orderSearchX routeSearchX setSearchX probeX (qL0 0) (qL1 0) (qL2 0) (qL3 0) image0X image1X image2X aX)]) := hD
                refine W.widen (k := 0) (n := 0) (Nat.le_refl 0) (Nat.le_refl 0) ?_
                refine lv_iconst (v := 0) hx hb dX11_row_43 (by decide) ?_
                rw [hQ]
                exact W.iret (v := (0 : Int32)) hx hb hr (fun t ht hW => ⟨⟨(0 : Int32), (), rfl, trivial, vz36, sz37, lz38, vL1, sL1, lL1, vL2, sL2, lL2, vL3, sL3, lL3, hsz37, hsL1, hsL2, hsL3, by rw [ht]; exact hP⟩, hS.F ht⟩) hS.2.2 dX11_row_44
              · skip
                have zz39 : p1.toInt = (1 : Int) := zi_eq.mp cz32
                refine W.eq (g2 := F0 m 37 ls [.int 1, .ref (qX 3)]) (by rw [cz32]) ?_
                refine va_aldq hx hb hK hP 11 6 rfl rfl (by unfold vp_in; decide) dX11_row_37 ?_
                refine W.eq (g2 := F0 m 38 ls [.ref (qL1 0)]) rfl ?_
                refine lv_iload_n hx hb dX11_row_38 rfl (lv_at hl 2 rfl) ?_
                refine lv_iload_n hx hb dX11_row_39 rfl (lv_at hl 3 rfl) ?_
                have hPc := hP.sub (ws' := (List.flatten [(wSlot qL1 k vL1 sL1 lL1)] ++ List.flatten ([] : List va_W))) [2, 3] rfl
                have hC : [2, 3].map (fun i => (List.flatten [(wSlot qL0 k vL0 sL0 lL0), (wSlot qL1 k vL1 sL1 lL1), (wSlot qL2 k vL2 sL2 lL2), (wSlot qL3 k vL3 sL3 lL3)] ++ List.flatten [(wSag qX k tapeX toldX actsX nowX trialX storyX attemptX orderSearchX routeSearchX setSearchX probeX (qL0 0) (qL1 0) (qL2 0) (qL3 0) image0X image1X image2X aX)])[i]?) = (List.flatten [(wSlot qL1 k vL1 sL1 lL1)] ++ List.flatten ([] : List va_W)).map some := rfl
                have hDc := hD.sub [2, 3] (by decide) hC
                have hFc := va_free hD hS hA [2, 3] hC
                refine va_callv (va_runV (As := [.int p2, .int p3]) (rest := []) ⟨hx, hb, hml, hown, hts⟩ (c_X6_begin l dC dI k s.heap.size qL1 vL1 sL1 lL1 p2 p3 hsL1 (by show 0 ≤ p3.toInt ∧ p3.toInt ≤ 60; omega)) (cwV 2 hts (gk_V (wl_mem 4 rfl) (wl_mem 5 rfl) (wl_mem 6 rfl) (wl_mem 7 rfl) (fun w h => List.mem_cons_of_mem _ (List.mem_append_right _ (List.mem_append_right _ (List.mem_append_right _ (List.mem_append_left _ h))))) wkg_c_X6_begin) rfl rfl rfl (by decide +kernel) ⟨Nat.le_of_ble_eq_true rfl, Nat.le_of_ble_eq_true rfl⟩) ⟨fun a U g mk q => by obtain ⟨q0, q1, qP, qK, qD⟩ := q; exact ⟨q0, q1, qP, va_K.moved (u := U) (U := U.calling g mk a) (Vm.Alike.refl U.vm) qK, qD⟩, va_recv hK hPc (ci := 6) (q0 := 0) rfl rfl, fun U hU hW => ⟨rfl, by rw [hU], by rw [hU]; exact hPc, va_K.moved hW.alike hK, hDc.weaken (fun _ _ _ _ => trivial)⟩⟩ rfl rfl hl.1 rfl (lv_room (Nat.le_of_ble_eq_true rfl)) dX11_row_40 ⟨Nat.le_of_ble_eq_true rfl, Nat.le_of_ble_eq_true rfl⟩) hS (fun q _ h => hFc q h) hFc (fun u t H1 locs ht hvm gz40 hB hz1 hk1 hS => ?_)
                obtain ⟨vz42, sz43, lz44, hsz43, hP1⟩ := hB
                rw [ht] at hP1
                obtain ⟨hP, hD⟩ := w_callR hP hD hk1 hP1 [1] rfl rfl (fun _ h => absurd h List.not_mem_nil) rfl [none, some 0, none, none] rfl rfl
                clear hPc hC hDc hFc hk1 hP1
                generalize H1 = H at hP hS ⊢
                have hP : va_P (dC, dI) vwCl (List.flatten [(wSlot qL0 k vL0 sL0 lL0), (wSlot qL1 k vz42 sz43 lz44), (wSlot qL2 k vL2 sL2 lL2), (wSlot qL3 k vL3 sL3 lL3)] ++ List.flatten [(wSag qX k tapeX toldX actsX nowX trialX storyX attemptX orderSearchX routeSearchX setSearchX probeX (qL0 0) (qL1 0) (qL2 0) (qL3 0) image0X image1X image2X aX)]) H := hP
                have hD : va_D A (List.flatten [(wSlot qL0 k vL0 sL0 lL0), (wSlot qL1 k vz42 sz43 lz44), (wSlot qL2 k vL2 sL2 lL2), (wSlot qL3 k vL3 sL3 lL3)] ++ List.flatten [(wSag qX k tapeX toldX actsX nowX trialX storyX attemptX orderSearchX routeSearchX setSearchX probeX (qL0 0) (qL1 0) (qL2 0) (qL3 0) image0X image1X image2X aX)]) := hD
                refine W.widen (k := 0) (n := 0) (Nat.le_refl 0) (Nat.le_refl 0) ?_
                refine lv_iconst (v := 0) hx hb dX11_row_43 (by decide) ?_
                rw [hQ]
                exact W.iret (v := (0 : Int32)) hx hb hr (fun t ht hW => ⟨⟨(0 : Int32), (), rfl, trivial, vL0, sL0, lL0, vz42, sz43, lz44, vL2, sL2, lL2, vL3, sL3, lL3, hsL0, hsz43, hsL2, hsL3, by rw [ht]; exact hP⟩, hS.F ht⟩) hS.2.2 dX11_row_44
              · skip
                have zz45 : p1.toInt = (2 : Int) := zi_eq.mp cz32
                refine W.eq (g2 := F0 m 37 ls [.int 2, .ref (qX 3)]) (by rw [cz32]) ?_
                refine va_aldq hx hb hK hP 11 6 rfl rfl (by unfold vp_in; decide) dX11_row_37 ?_
                refine W.eq (g2 := F0 m 38 ls [.ref (qL2 0)]) rfl ?_
                refine lv_iload_n hx hb dX11_row_38 rfl (lv_at hl 2 rfl) ?_
                refine lv_iload_n hx hb dX11_row_39 rfl (lv_at hl 3 rfl) ?_
                have hPc := hP.sub (ws' := (List.flatten [(wSlot qL2 k vL2 sL2 lL2)] ++ List.flatten ([] : List va_W))) [4, 5] rfl
                have hC : [4, 5].map (fun i => (List.flatten [(wSlot qL0 k vL0 sL0 lL0), (wSlot qL1 k vL1 sL1 lL1), (wSlot qL2 k vL2 sL2 lL2), (wSlot qL3 k vL3 sL3 lL3)] ++ List.flatten [(wSag qX k tapeX toldX actsX nowX trialX storyX attemptX orderSearchX routeSearchX setSearchX probeX (qL0 0) (qL1 0) (qL2 0) (qL3 0) image0X image1X image2X aX)])[i]?) = (List.flatten [(wSlot qL2 k vL2 sL2 lL2)] ++ List.flatten ([] : List va_W)).map some := rfl
                have hDc := hD.sub [4, 5] (by decide) hC
                have hFc := va_free hD hS hA [4, 5] hC
                refine va_callv (va_runV (As := [.int p2, .int p3]) (rest := []) ⟨hx, hb, hml, hown, hts⟩ (c_X6_begin l dC dI k s.heap.size qL2 vL2 sL2 lL2 p2 p3 hsL2 (by show 0 ≤ p3.toInt ∧ p3.toInt ≤ 60; omega)) (cwV 2 hts (gk_V (wl_mem 4 rfl) (wl_mem 5 rfl) (wl_mem 6 rfl) (wl_mem 7 rfl) (fun w h => List.mem_cons_of_mem _ (List.mem_append_right _ (List.mem_append_right _ (List.mem_append_right _ (List.mem_append_left _ h))))) wkg_c_X6_begin) rfl rfl rfl (by decide +kernel) ⟨Nat.le_of_ble_eq_true rfl, Nat.le_of_ble_eq_true rfl⟩) ⟨fun a U g mk q => by obtain ⟨q0, q1, qP, qK, qD⟩ := q; exact ⟨q0, q1, qP, va_K.moved (u := U) (U := U.calling g mk a) (Vm.Alike.refl U.vm) qK, qD⟩, va_recv hK hPc (ci := 6) (q0 := 0) rfl rfl, fun U hU hW => ⟨rfl, by rw [hU], by rw [hU]; exact hPc, va_K.moved hW.alike hK, hDc.weaken (fun _ _ _ _ => trivial)⟩⟩ rfl rfl hl.1 rfl (lv_room (Nat.le_of_ble_eq_true rfl)) dX11_row_40 ⟨Nat.le_of_ble_eq_true rfl, Nat.le_of_ble_eq_true rfl⟩) hS (fun q _ h => hFc q h) hFc (fun u t H1 locs ht hvm gz46 hB hz1 hk1 hS => ?_)
                obtain ⟨vz48, sz49, lz50, hsz49, hP1⟩ := hB
                rw [ht] at hP1
                obtain ⟨hP, hD⟩ := w_callR hP hD hk1 hP1 [2] rfl rfl (fun _ h => absurd h List.not_mem_nil) rfl [none, none, some 0, none] rfl rfl
                clear hPc hC hDc hFc hk1 hP1
                generalize H1 = H at hP hS ⊢
                have hP : va_P (dC, dI) vwCl (List.flatten [(wSlot qL0 k vL0 sL0 lL0), (wSlot qL1 k vL1 sL1 lL1), (wSlot qL2 k vz48 sz49 lz50), (wSlot qL3 k vL3 sL3 lL3)] ++ List.flatten [(wSag qX k tapeX toldX actsX nowX trialX storyX attemptX orderSearchX routeSearchX setSearchX probeX (qL0 0) (qL1 0) (qL2 0) (qL3 0) image0X image1X image2X aX)]) H := hP
                have hD : va_D A (List.flatten [(wSlot qL0 k vL0 sL0 lL0), (wSlot qL1 k vL1 sL1 lL1), (wSlot qL2 k vz48 sz49 lz50), (wSlot qL3 k vL3 sL3 lL3)] ++ List.flatten [(wSag qX k tapeX toldX actsX nowX trialX storyX attemptX orderSearchX routeSearchX setSearchX probeX (qL0 0) (qL1 0) (qL2 0) (qL3 0) image0X image1X image2X aX)]) := hD
                refine W.widen (k := 0) (n := 0) (Nat.le_refl 0) (Nat.le_refl 0) ?_
                refine lv_iconst (v := 0) hx hb dX11_row_43 (by decide) ?_
                rw [hQ]
                exact W.iret (v := (0 : Int32)) hx hb hr (fun t ht hW => ⟨⟨(0 : Int32), (), rfl, trivial, vL0, sL0, lL0, vL1, sL1, lL1, vz48, sz49, lz50, vL3, sL3, lL3, hsL0, hsL1, hsz49, hsL3, by rw [ht]; exact hP⟩, hS.F ht⟩) hS.2.2 dX11_row_44
              · skip
                have zz51 : p1.toInt = (3 : Int) := zi_eq.mp cz32
                refine W.eq (g2 := F0 m 37 ls [.int 3, .ref (qX 3)]) (by rw [cz32]) ?_
                refine va_aldq hx hb hK hP 11 6 rfl rfl (by unfold vp_in; decide) dX11_row_37 ?_
                refine W.eq (g2 := F0 m 38 ls [.ref (qL3 0)]) rfl ?_
                refine lv_iload_n hx hb dX11_row_38 rfl (lv_at hl 2 rfl) ?_
                refine lv_iload_n hx hb dX11_row_39 rfl (lv_at hl 3 rfl) ?_
                have hPc := hP.sub (ws' := (List.flatten [(wSlot qL3 k vL3 sL3 lL3)] ++ List.flatten ([] : List va_W))) [6, 7] rfl
                have hC : [6, 7].map (fun i => (List.flatten [(wSlot qL0 k vL0 sL0 lL0), (wSlot qL1 k vL1 sL1 lL1), (wSlot qL2 k vL2 sL2 lL2), (wSlot qL3 k vL3 sL3 lL3)] ++ List.flatten [(wSag qX k tapeX toldX actsX nowX trialX storyX attemptX orderSearchX routeSearchX setSearchX probeX (qL0 0) (qL1 0) (qL2 0) (qL3 0) image0X image1X image2X aX)])[i]?) = (List.flatten [(wSlot qL3 k vL3 sL3 lL3)] ++ List.flatten ([] : List va_W)).map some := rfl
                have hDc := hD.sub [6, 7] (by decide) hC
                have hFc := va_free hD hS hA [6, 7] hC
                refine va_callv (va_runV (As := [.int p2, .int p3]) (rest := []) ⟨hx, hb, hml, hown, hts⟩ (c_X6_begin l dC dI k s.heap.size qL3 vL3 sL3 lL3 p2 p3 hsL3 (by show 0 ≤ p3.toInt ∧ p3.toInt ≤ 60; omega)) (cwV 2 hts (gk_V (wl_mem 4 rfl) (wl_mem 5 rfl) (wl_mem 6 rfl) (wl_mem 7 rfl) (fun w h => List.mem_cons_of_mem _ (List.mem_append_right _ (List.mem_append_right _ (List.mem_append_right _ (List.mem_append_left _ h))))) wkg_c_X6_begin) rfl rfl rfl (by decide +kernel) ⟨Nat.le_of_ble_eq_true rfl, Nat.le_of_ble_eq_true rfl⟩) ⟨fun a U g mk q => by obtain ⟨q0, q1, qP, qK, qD⟩ := q; exact ⟨q0, q1, qP, va_K.moved (u := U) (U := U.calling g mk a) (Vm.Alike.refl U.vm) qK, qD⟩, va_recv hK hPc (ci := 6) (q0 := 0) rfl rfl, fun U hU hW => ⟨rfl, by rw [hU], by rw [hU]; exact hPc, va_K.moved hW.alike hK, hDc.weaken (fun _ _ _ _ => trivial)⟩⟩ rfl rfl hl.1 rfl (lv_room (Nat.le_of_ble_eq_true rfl)) dX11_row_40 ⟨Nat.le_of_ble_eq_true rfl, Nat.le_of_ble_eq_true rfl⟩) hS (fun q _ h => hFc q h) hFc (fun u t H1 locs ht hvm gz52 hB hz1 hk1 hS => ?_)
                obtain ⟨vz54, sz55, lz56, hsz55, hP1⟩ := hB
                rw [ht] at hP1
                obtain ⟨hP, hD⟩ := w_callR hP hD hk1 hP1 [3] rfl rfl (fun _ h => absurd h List.not_mem_nil) rfl [none, none, none, some 0] rfl rfl
                clear hPc hC hDc hFc hk1 hP1
                generalize H1 = H at hP hS ⊢
                have hP : va_P (dC, dI) vwCl (List.flatten [(wSlot qL0 k vL0 sL0 lL0), (wSlot qL1 k vL1 sL1 lL1), (wSlot qL2 k vL2 sL2 lL2), (wSlot qL3 k vz54 sz55 lz56)] ++ List.flatten [(wSag qX k tapeX toldX actsX nowX trialX storyX attemptX orderSearchX routeSearchX setSearchX probeX (qL0 0) (qL1 0) (qL2 0) (qL3 0) image0X image1X image2X aX)]) H := hP
                have hD : va_D A (List.flatten [(wSlot qL0 k vL0 sL0 lL0), (wSlot qL1 k vL1 sL1 lL1), (wSlot qL2 k vL2 sL2 lL2), (wSlot qL3 k vz54 sz55 lz56)] ++ List.flatten [(wSag qX k tapeX toldX actsX nowX trialX storyX attemptX orderSearchX routeSearchX setSearchX probeX (qL0 0) (qL1 0) (qL2 0) (qL3 0) image0X image1X image2X aX)]) := hD
                refine W.widen (k := 0) (n := 0) (Nat.le_refl 0) (Nat.le_refl 0) ?_
                refine lv_iconst (v := 0) hx hb dX11_row_43 (by decide) ?_
                rw [hQ]
                exact W.iret (v := (0 : Int32)) hx hb hr (fun t ht hW => ⟨⟨(0 : Int32), (), rfl, trivial, vL0, sL0, lL0, vL1, sL1, lL1, vL2, sL2, lL2, vz54, sz55, lz56, hsL0, hsL1, hsL2, hsz55, by rw [ht]; exact hP⟩, hS.F ht⟩) hS.2.2 dX11_row_44
            · skip
              have zz57 : ¬ (0 : Int) ≤ p3.toInt := fun h9 => cz30 (zi_le.mpr h9)
              refine lv_bipush (v := (-3)) hx hb dX11_row_29 (by decide) ?_
              rw [hQ]
              exact W.iret (v := (-3 : Int32)) hx hb hr (fun t ht hW => ⟨⟨(-3 : Int32), (), rfl, trivial, vL0, sL0, lL0, vL1, sL1, lL1, vL2, sL2, lL2, vL3, sL3, lL3, hsL0, hsL1, hsL2, hsL3, by rw [ht]; exact hP⟩, hS.F ht⟩) hS.2.2 dX11_row_31
          · skip
            have bz58 := fb_rng p3
            have zz59 : ¬ p3.toInt ≤ (60 : Int) := fun h9 => cz27 (zi_le.mpr h9)
            refine lv_bipush (v := (-2)) hx hb dX11_row_22 (by decide) ?_
            rw [hQ]
            exact W.iret (v := (-2 : Int32)) hx hb hr (fun t ht hW => ⟨⟨(-2 : Int32), (), rfl, trivial, vL0, sL0, lL0, vL1, sL1, lL1, vL2, sL2, lL2, vL3, sL3, lL3, hsL0, hsL1, hsL2, hsL3, by rw [ht]; exact hP⟩, hS.F ht⟩) hS.2.2 dX11_row_24
def wk_c_X11_write : List Cond := .code yX11_write cX11_write 6 (some .int) :: ([.methodLink RX11 380 yX11_hasSlot, .static yX11_hasSlot, .initialized RX11, .fieldLink RX11 85 "SagMemory" "slots" "[LSagMemory$Slot;", .fieldLink RX11 386 "SagMemory$Slot" "has" "Z", .fieldLink RX11 387 "SagMemory$Slot" "length" "I", .fieldLink RX11 388 "SagMemory$Slot" "numbers" "[J", .methodLink RX11 392 yX6_cut, .instanceMethod yX6_cut, .selects RX6 yX6_cut yX6_cut, .initialized RX6] ++ (wk_c_X11_hasSlot ++ (wsX110 ++ (wsX60 ++ (wk_c_X6_cut ++ [])))))
theorem wkg_c_X11_write : wk_c_X11_write.all goodWord = true := by decide +kernel
set_option maxHeartbeats 4000000 in
set_option maxRecDepth 100000 in
theorem c_X11_write (l : Launch) (dC : Nat → ClassId) (dI : Nat → Nat → Nat) (k : Nat → ClassId) (sz : Nat) (qX : Nat → Nat) (tapeX : Nat) (toldX : Nat) (actsX : Nat) (nowX : Nat) (trialX : Nat) (storyX : Nat) (attemptX : Nat) (orderSearchX : Nat) (routeSearchX : Nat) (setSearchX : Nat) (probeX : Nat) (image0X : Nat) (image1X : Nat) (image2X : Nat) (aX : Nat → Nat → Int32) (qL0 : Nat → Nat) (vL0 : Nat → Int32) (sL0 : Nat → Int32) (lL0 : Nat → Nat → Int64) (qL1 : Nat → Nat) (vL1 : Nat → Int32) (sL1 : Nat → Int32) (lL1 : Nat → Nat → Int64) (qL2 : Nat → Nat) (vL2 : Nat → Int32) (sL2 : Nat → Int32) (lL2 : Nat → Nat → Int64) (qL3 : Nat → Nat) (vL3 : Nat → Int32) (sL3 : Nat → Int32) (lL3 : Nat → Nat → Int64) (p1 : Int32) (p2 : Int32) (p3 : Int64) (hsL0 : Rg 0 60 sL0) (hsL1 : Rg 0 60 sL1) (hsL2 : Rg 0 60 sL2) (hsL3 : Rg 0 60 sL3) : Met l yX11_write wk_c_X11_write ({ frames := 1, cells := 0, slots := 0, locals := 22 }) (va_Pc [.ref (qX 0), .int p1, .int p2, .long p3] (fun U => U.heap.size = sz ∧ va_P (dC, dI) vwCl (List.flatten [(wSlot qL0 k vL0 sL0 lL0), (wSlot qL1 k vL1 sL1 lL1), (wSlot qL2 k vL2 sL2 lL2), (wSlot qL3 k vL3 sL3 lL3)] ++ List.flatten [(wSag qX k tapeX toldX actsX nowX trialX storyX attemptX orderSearchX routeSearchX setSearchX probeX (qL0 0) (qL1 0) (qL2 0) (qL3 0) image0X image1X image2X aX)]) U.heap ∧ va_K (dC, dI) vwCl (tK k) U ∧ va_D (fun _ => True) (List.flatten [(wSlot qL0 k vL0 sL0 lL0), (wSlot qL1 k vL1 sL1 lL1), (wSlot qL2 k vL2 sL2 lL2), (wSlot qL3 k vL3 sL3 lL3)] ++ List.flatten [(wSag qX k tapeX toldX actsX nowX trialX storyX attemptX orderSearchX routeSearchX setSearchX probeX (qL0 0) (qL1 0) (qL2 0) (qL3 0) image0X image1X image2X aX)]))) (va_Qi (fun (r : Int32) (_ : Unit) => True) (fun (_ : Unit) (t : State) => ∃ (vL0' : Nat → Int32) (sL0' : Nat → Int32) (lL0' : Nat → Nat → Int64) (vL1' : Nat → Int32) (sL1' : Nat → Int32) (lL1' : Nat → Nat → Int64) (vL2' : Nat → Int32) (sL2' : Nat → Int32) (lL2' : Nat → Nat → Int64) (vL3' : Nat → Int32) (sL3' : Nat → Int32) (lL3' : Nat → Nat → Int64), Rg 0 60 sL0' ∧ Rg 0 60 sL1' ∧ Rg 0 60 sL2' ∧ Rg 0 60 sL3' ∧ va_P (dC, dI) vwCl (List.flatten [(wSlot qL0 k vL0' sL0' lL0'), (wSlot qL1 k vL1' sL1' lL1'), (wSlot qL2 k vL2' sL2' lL2'), (wSlot qL3 k vL3' sL3' lL3')] ++ List.flatten [(wSag qX k tapeX toldX actsX nowX trialX storyX attemptX orderSearchX routeSearchX setSearchX probeX (qL0 0) (qL1 0) (qL2 0) (qL3 0) image0X image1X image2X aX)]) t.heap) (va_A (List.flatten [(wSlot qL0 k vL0 sL0 lL0), (wSlot qL1 k vL1 sL1 lL1), (wSlot qL2 k vL2 sL2 lL2), (wSlot qL3 k vL3 sL3 lL3)] ++ List.flatten [(wSag qX k tapeX toldX actsX nowX trialX storyX attemptX orderSearchX routeSearchX setSearchX probeX (qL0 0) (qL1 0) (qL2 0) (qL3 0) image0X image1X image2X aX)]) sz)) 0 0 (va_A (List.flatten [(wSlot qL0 k vL0 sL0 lL0), (wSlot qL1 k vL1 sL1 lL1), (wSlot qL2 k vL2 sL2 lL2), (wSlot qL3 k vL3 sL3 lL3)] ++ List.flatten [(wSag qX k tapeX toldX actsX nowX trialX storyX attemptX orderSearchX routeSearchX setSearchX probeX (qL0 0) (qL1 0) (qL2 0) (qL3 0) image0X image1X image2X aX)]) sz) := by
  refine Met.ofW (cc := cX11_write) (maxL := 6) (ret := (some .int)) (by decide) rfl ?_
  intro p e s m args below meth c s₁ B hml hv
  obtain ⟨rfl, hsz, hP, hK, hD0⟩ := hv
  have hx := B.exec
  have hb := B.bytes
  have hr := B.returns
  have hts := atoms_spec (ws := wk_c_X11_write) B.pre
  have hown : s.vm.findClass RX11 = some m.cls := findClass_of_methodNamed B.named
  have hlocks := B.notSynchronized
  subst hsz
  have hD := hD0.self (sz := s.heap.size)
  generalize hAe : va_A (List.flatten [(wSlot qL0 k vL0 sL0 lL0), (wSlot qL1 k vL1 sL1 lL1), (wSlot qL2 k vL2 sL2 lL2), (wSlot qL3 k vL3 sL3 lL3)] ++ List.flatten [(wSag qX k tapeX toldX actsX nowX trialX storyX attemptX orderSearchX routeSearchX setSearchX probeX (qL0 0) (qL1 0) (qL2 0) (qL3 0) image0X image1X image2X aX)]) s.heap.size = A at hD ⊢
  have hA : ∀ q : Nat, s.heap.size ≤ q → A q := fun q h => by rw [← hAe]; exact Or.inr h
  have hS : va_S A s.heap s.heap [] := va_S.rf
  have hP : va_P (dC, dI) vwCl (List.flatten [(wSlot qL0 k vL0 sL0 lL0), (wSlot qL1 k vL1 sL1 lL1), (wSlot qL2 k vL2 sL2 lL2), (wSlot qL3 k vL3 sL3 lL3)] ++ List.flatten [(wSag qX k tapeX toldX actsX nowX trialX storyX attemptX orderSearchX routeSearchX setSearchX probeX (qL0 0) (qL1 0) (qL2 0) (qL3 0) image0X image1X image2X aX)]) s.heap := hP
  have hl := lv_entry ([.ref (qX 0), .int p1, .int p2, .long p3]) (n := 6) (Nat.le_of_ble_eq_true rfl)
  rw [lg_entry_eq]
  generalize (lg_sl ([.ref (qX 0), .int p1, .int p2, .long p3]) ++ List.replicate (6 - (lg_sl ([.ref (qX 0), .int p1, .int p2, .long p3])).length) Slot.unset).toArray = ls at hl ⊢
  have hl : lv_has ls 6 [(0, .ref (qX 0)), (1, .int p1), (2, .int p2), (3, .long p3)] := hl
  refine w_gen (fun Q hQ => ?_)
  refine lv_iload_n hx hb dX11_write_0 rfl (lv_at hl 1 rfl) ?_
  have hPc : va_P (dC, dI) vwCl (List.flatten ([] : List va_W)) s.heap := fun k q h => by simp at h
  refine vp_callSi (va_Run.run (va_runS (As := [.int p1]) (rest := []) ⟨hx, hb, hml, hown, hts⟩ (c_X11_hasSlot l dC dI k p1) (va_cwS 1 hts (gk_S (wl_mem 0 rfl) (wl_mem 1 rfl) (wl_mem 2 rfl) (fun w h => List.mem_cons_of_mem _ (List.mem_append_right _ (List.mem_append_left _ h))) wkg_c_X11_hasSlot) rfl rfl rfl (by decide +kernel) ⟨Nat.le_of_ble_eq_true rfl, Nat.le_of_ble_eq_true rfl⟩) ⟨fun a U g mk q => by obtain ⟨q0, qP, qK⟩ := q; exact ⟨q0, qP, va_K.moved (u := U) (U := U.calling g mk a) (Vm.Alike.refl U.vm) qK⟩, fun U hU hW => ⟨rfl, by rw [hU]; exact hPc, va_K.moved hW.alike hK⟩⟩ rfl rfl hl.1 rfl (lv_room (Nat.le_of_ble_eq_true rfl)) dX11_write_1 ⟨Nat.le_of_ble_eq_true rfl, Nat.le_of_ble_eq_true rfl⟩)) (fun rz2 gz1 => ?_)
  clear hPc
  rcases gz1 with ⟨er, cz3⟩ | ⟨er, cz4, cz5⟩ | ⟨er, cz6, cz7⟩
  · obtain rfl := er.symm
    have bz8 := fb_rng p1
    have zz9 : p1.toInt < (0 : Int) := zi_lt.mp cz3
    refine lv_if_ne (tgt := 10) hx hb dX11_write_4 (by decide) (fun cz10 => ?_) (fun cz10 => ?_)
    · skip
      exact absurd cz10 (by decide)
    · skip
      refine lv_bipush (v := (-2)) hx hb dX11_write_7 (by decide) ?_
      rw [hQ]
      exact W.iret (v := (-2 : Int32)) hx hb hr (fun t ht hW => ⟨⟨(-2 : Int32), (), rfl, trivial, vL0, sL0, lL0, vL1, sL1, lL1, vL2, sL2, lL2, vL3, sL3, lL3, hsL0, hsL1, hsL2, hsL3, by rw [ht]; exact hP⟩, hS.F ht⟩) hS.2.2 dX11_write_9
  · obtain rfl := er.symm
    have bz11 := fb_rng p1
    have zz12 : ¬ p1.toInt < (0 : Int) := fun h9 => cz4 (zi_lt.mpr h9)
    have zz13 : (4 : Int) ≤ p1.toInt := zi_le.mp cz5
    refine lv_if_ne (tgt := 10) hx hb dX11_write_4 (by decide) (fun cz14 => ?_) (fun cz14 => ?_)
    · skip
      exact absurd cz14 (by decide)
    · skip
      refine lv_bipush (v := (-2)) hx hb dX11_write_7 (by decide) ?_
      rw [hQ]
      exact W.iret (v := (-2 : Int32)) hx hb hr (fun t ht hW => ⟨⟨(-2 : Int32), (), rfl, trivial, vL0, sL0, lL0, vL1, sL1, lL1, vL2, sL2, lL2, vL3, sL3, lL3, hsL0, hsL1, hsL2, hsL3, by rw [ht]; exact hP⟩, hS.F ht⟩) hS.2.2 dX11_write_9
  · obtain rfl := er.symm
    have bz15 := fb_rng p1
    have zz16 : ¬ p1.toInt < (0 : Int) := fun h9 => cz6 (zi_lt.mpr h9)
    have zz17 : ¬ (4 : Int) ≤ p1.toInt := fun h9 => cz7 (zi_le.mpr h9)
    refine lv_if_ne (tgt := 10) hx hb dX11_write_4 (by decide) (fun cz18 => ?_) (fun cz18 => ?_)
    · skip
      refine lv_aload_n hx hb dX11_write_10 rfl (lv_at hl 0 rfl) ?_
      refine va_get (D := (dC, dI)) (ci := 11) (v := .ref (qX 3)) (C := RX11) (T := TX11) (N := 15) hx hb hts (fun w h => List.mem_cons_of_mem _ (List.mem_append_right _ (List.mem_append_right _ (List.mem_append_left _ h)))) hown hK hP 8 rfl rfl 13 (by decide) (hts (.fieldLink RX11 85 "SagMemory" "slots" "[LSagMemory$Slot;") (wl_mem 3 rfl)) (fun _ h9 => h9) rfl dX11_write_11 ?_
      refine lv_iload_n hx hb dX11_write_14 rfl (lv_at hl 1 rfl) ?_
      rcases (show p1 = 0 ∨ p1 = 1 ∨ p1 = 2 ∨ p1 = 3 by simp only [zi_eq]; show p1.toInt = 0 ∨ p1.toInt = 1 ∨ p1.toInt = 2 ∨ p1.toInt = 3; omega) with cz19 | cz19 | cz19 | cz19
      · skip
        have zz20 : p1.toInt = (0 : Int) := zi_eq.mp cz19
        refine W.eq (g2 := F0 m 15 ls [.int 0, .ref (qX 3)]) (by rw [cz19]) ?_
        refine va_aldq hx hb hK hP 11 6 rfl rfl (by unfold vp_in; decide) dX11_write_15 ?_
        refine W.eq (g2 := F0 m 16 ls [.ref (qL0 0)]) rfl ?_
        refine lv_astore (lv' := [(5, .ref (qL0 0)), (0, .ref (qX 0)), (1, .int p1), (2, .int p2), (3, .long p3)]) hx hb dX11_write_16 hl (by decide) rfl (fun ls hl => ?_)
        refine lv_aload hx hb dX11_write_18 (lv_at hl 0 rfl) ?_
        refine va_get (D := (dC, dI)) (ci := 6) (v := .int (vL0 0)) (C := RX6) (T := TX6) (N := 4) hx hb hts (fun w h => List.mem_cons_of_mem _ (List.mem_append_right _ (List.mem_append_right _ (List.mem_append_right _ (List.mem_append_left _ h))))) hown hK hP 0 rfl rfl 1 (by decide) (hts (.fieldLink RX11 386 "SagMemory$Slot" "has" "Z") (wl_mem 4 rfl)) (fun _ h9 => h9) rfl dX11_write_20 ?_
        refine lv_if_ne (tgt := 29) hx hb dX11_write_23 (by decide) (fun cz21 => ?_) (fun cz21 => ?_)
        · skip
          have zz22 : ¬ (vL0 0).toInt = (0 : Int) := fun h9 => cz21 (zi_eq.mpr h9)
          refine lv_iload_n hx hb dX11_write_29 rfl (lv_at hl 3 rfl) ?_
          refine lv_if_lt (tgt := 42) hx hb dX11_write_30 (by decide) (fun cz23 => ?_) (fun cz23 => ?_)
          · skip
            have bz24 := fb_rng p2
            have zz25 : p2.toInt < (0 : Int) := zi_lt.mp cz23
            refine lv_bipush (v := (-7)) hx hb dX11_write_42 (by decide) ?_
            rw [hQ]
            exact W.iret (v := (-7 : Int32)) hx hb hr (fun t ht hW => ⟨⟨(-7 : Int32), (), rfl, trivial, vL0, sL0, lL0, vL1, sL1, lL1, vL2, sL2, lL2, vL3, sL3, lL3, hsL0, hsL1, hsL2, hsL3, by rw [ht]; exact hP⟩, hS.F ht⟩) hS.2.2 dX11_write_44
          · skip
            have bz26 := fb_rng p2
            have zz27 : ¬ p2.toInt < (0 : Int) := fun h9 => cz23 (zi_lt.mpr h9)
            refine lv_iload_n hx hb dX11_write_33 rfl (lv_at hl 3 rfl) ?_
            refine lv_aload hx hb dX11_write_34 (lv_at hl 0 rfl) ?_
            refine va_get (D := (dC, dI)) (ci := 6) (v := .int (sL0 0)) (C := RX6) (T := TX6) (N := 4) hx hb hts (fun w h => List.mem_cons_of_mem _ (List.mem_append_right _ (List.mem_append_right _ (List.mem_append_right _ (List.mem_append_left _ h))))) hown hK hP 0 rfl rfl 3 (by decide) (hts (.fieldLink RX11 387 "SagMemory$Slot" "length" "I") (wl_mem 5 rfl)) (fun _ h9 => h9) rfl dX11_write_36 ?_
            have bz28 := hsL0 0
            refine lv_icmp_lt (tgt := 45) hx hb dX11_write_39 (by decide) (fun cz29 => ?_) (fun cz29 => ?_)
            · skip
              have zz30 : p2.toInt < (sL0 0).toInt := zi_lt.mp cz29
              refine lv_aload hx hb dX11_write_45 (lv_at hl 0 rfl) ?_
              refine va_get (D := (dC, dI)) (ci := 6) (v := .ref (qL0 1)) (C := RX6) (T := TX6) (N := 4) hx hb hts (fun w h => List.mem_cons_of_mem _ (List.mem_append_right _ (List.mem_append_right _ (List.mem_append_right _ (List.mem_append_left _ h))))) hown hK hP 0 rfl rfl 0 (by decide) (hts (.fieldLink RX11 388 "SagMemory$Slot" "numbers" "[J") (wl_mem 6 rfl)) (fun _ h9 => h9) rfl dX11_write_47 ?_
              refine lv_iload_n hx hb dX11_write_50 rfl (lv_at hl 3 rfl) ?_
              refine lv_aload hx hb dX11_write_51 (lv_at hl 0 rfl) ?_
              refine lv_lload_n hx hb dX11_write_53 rfl (lv_at hl 4 rfl) ?_
              have hPc := hP.sub (ws' := (List.flatten [(wSlot qL0 k vL0 sL0 lL0)])) [0, 1] rfl
              refine vp_callSl (va_Run.run (va_runV (As := [.long p3]) (rest := [.int p2, .ref (qL0 1)]) ⟨hx, hb, hml, hown, hts⟩ (c_X6_cut l dC dI k qL0 vL0 sL0 lL0 p3 hsL0) (cwV 1 hts (gk_V (wl_mem 7 rfl) (wl_mem 8 rfl) (wl_mem 9 rfl) (wl_mem 10 rfl) (fun w h => List.mem_cons_of_mem _ (List.mem_append_right _ (List.mem_append_right _ (List.mem_append_right _ (List.mem_append_right _ (List.mem_append_left _ h)))))) wkg_c_X6_cut) rfl rfl rfl (by decide +kernel) ⟨Nat.le_of_ble_eq_true rfl, Nat.le_of_ble_eq_true rfl⟩) ⟨fun a U g mk q => by obtain ⟨q0, qP, qK⟩ := q; exact ⟨q0, qP, va_K.moved (u := U) (U := U.calling g mk a) (Vm.Alike.refl U.vm) qK⟩, va_recv hK hPc (ci := 6) (q0 := 0) rfl rfl, fun U hU hW => ⟨rfl, by rw [hU]; exact hPc, va_K.moved hW.alike hK⟩⟩ rfl rfl hl.1 rfl (lv_room (Nat.le_of_ble_eq_true rfl)) dX11_write_54 ⟨Nat.le_of_ble_eq_true rfl, Nat.le_of_ble_eq_true rfl⟩)) (fun rz32 gz31 => ?_)
              clear hPc
              refine va_last hx hb hK hP hD hS 1 1 rfl rfl (vp_in_iff.mpr ⟨by omega, by omega⟩) dX11_write_57 (fun H locs hP hD hS => ?_)
              obtain ⟨fz33, efz33, hP, hD⟩ : ∃ fz33 : Nat → Int64, fz33 = vp_updL (lL0 0) p2.toNatClampNeg rz32 ∧ va_P (dC, dI) vwCl (List.flatten [(wSlot qL0 k vL0 sL0 (va_up lL0 0 fz33)), (wSlot qL1 k vL1 sL1 lL1), (wSlot qL2 k vL2 sL2 lL2), (wSlot qL3 k vL3 sL3 lL3)] ++ List.flatten [(wSag qX k tapeX toldX actsX nowX trialX storyX attemptX orderSearchX routeSearchX setSearchX probeX (qL0 0) (qL1 0) (qL2 0) (qL3 0) image0X image1X image2X aX)]) H ∧ va_D A (List.flatten [(wSlot qL0 k vL0 sL0 (va_up lL0 0 fz33)), (wSlot qL1 k vL1 sL1 lL1), (wSlot qL2 k vL2 sL2 lL2), (wSlot qL3 k vL3 sL3 lL3)] ++ List.flatten [(wSag qX k tapeX toldX actsX nowX trialX storyX attemptX orderSearchX routeSearchX setSearchX probeX (qL0 0) (qL1 0) (qL2 0) (qL3 0) image0X image1X image2X aX)]) := ⟨_, rfl, hP, hD⟩
              have kfz33 : fz33 p2.toNatClampNeg = rz32 := by rw [efz33]; exact pk_uLs
              refine lv_iconst (v := 0) hx hb dX11_write_58 (by decide) ?_
              rw [hQ]
              exact W.iret (v := (0 : Int32)) hx hb hr (fun t ht hW => ⟨⟨(0 : Int32), (), rfl, trivial, vL0, sL0, (va_up lL0 0 fz33), vL1, sL1, lL1, vL2, sL2, lL2, vL3, sL3, lL3, hsL0, hsL1, hsL2, hsL3, by rw [ht]; exact hP⟩, hS.F ht⟩) hS.2.2 dX11_write_59
            · skip
              have zz34 : ¬ p2.toInt < (sL0 0).toInt := fun h9 => cz29 (zi_lt.mpr h9)
              refine lv_bipush (v := (-7)) hx hb dX11_write_42 (by decide) ?_
              rw [hQ]
              exact W.iret (v := (-7 : Int32)) hx hb hr (fun t ht hW => ⟨⟨(-7 : Int32), (), rfl, trivial, vL0, sL0, lL0, vL1, sL1, lL1, vL2, sL2, lL2, vL3, sL3, lL3, hsL0, hsL1, hsL2, hsL3, by rw [ht]; exact hP⟩, hS.F ht⟩) hS.2.2 dX11_write_44
        · skip
          have zz35 : (vL0 0).toInt = (0 : Int) := zi_eq.mp cz21
          refine lv_bipush (v := (-6)) hx hb dX11_write_26 (by decide) ?_
          rw [hQ]
          exact W.iret (v := (-6 : Int32)) hx hb hr (fun t ht hW => ⟨⟨(-6 : Int32), (), rfl, trivial, vL0, sL0, lL0, vL1, sL1, lL1, vL2, sL2, lL2, vL3, sL3, lL3, hsL0, hsL1, hsL2, hsL3, by rw [ht]; exact hP⟩, hS.F ht⟩) hS.2.2 dX11_write_28
      · skip
        have zz36 : p1.toInt = (1 : Int) := zi_eq.mp cz19
        refine W.eq (g2 := F0 m 15 ls [.int 1, .ref (qX 3)]) (by rw [cz19]) ?_
        refine va_aldq hx hb hK hP 11 6 rfl rfl (by unfold vp_in; decide) dX11_write_15 ?_
        refine W.eq (g2 := F0 m 16 ls [.ref (qL1 0)]) rfl ?_
        refine lv_astore (lv' := [(5, .ref (qL1 0)), (0, .ref (qX 0)), (1, .int p1), (2, .int p2), (3, .long p3)]) hx hb dX11_write_16 hl (by decide) rfl (fun ls hl => ?_)
        refine lv_aload hx hb dX11_write_18 (lv_at hl 0 rfl) ?_
        refine va_get (D := (dC, dI)) (ci := 6) (v := .int (vL1 0)) (C := RX6) (T := TX6) (N := 4) hx hb hts (fun w h => List.mem_cons_of_mem _ (List.mem_append_right _ (List.mem_append_right _ (List.mem_append_right _ (List.mem_append_left _ h))))) hown hK hP 2 rfl rfl 1 (by decide) (hts (.fieldLink RX11 386 "SagMemory$Slot" "has" "Z") (wl_mem 4 rfl)) (fun _ h9 => h9) rfl dX11_write_20 ?_
        refine lv_if_ne (tgt := 29) hx hb dX11_write_23 (by decide) (fun cz37 => ?_) (fun cz37 => ?_)
        · skip
          have zz38 : ¬ (vL1 0).toInt = (0 : Int) := fun h9 => cz37 (zi_eq.mpr h9)
          refine lv_iload_n hx hb dX11_write_29 rfl (lv_at hl 3 rfl) ?_
          refine lv_if_lt (tgt := 42) hx hb dX11_write_30 (by decide) (fun cz39 => ?_) (fun cz39 => ?_)
          · skip
            have bz40 := fb_rng p2
            have zz41 : p2.toInt < (0 : Int) := zi_lt.mp cz39
            refine lv_bipush (v := (-7)) hx hb dX11_write_42 (by decide) ?_
            rw [hQ]
            exact W.iret (v := (-7 : Int32)) hx hb hr (fun t ht hW => ⟨⟨(-7 : Int32), (), rfl, trivial, vL0, sL0, lL0, vL1, sL1, lL1, vL2, sL2, lL2, vL3, sL3, lL3, hsL0, hsL1, hsL2, hsL3, by rw [ht]; exact hP⟩, hS.F ht⟩) hS.2.2 dX11_write_44
          · skip
            have bz42 := fb_rng p2
            have zz43 : ¬ p2.toInt < (0 : Int) := fun h9 => cz39 (zi_lt.mpr h9)
            refine lv_iload_n hx hb dX11_write_33 rfl (lv_at hl 3 rfl) ?_
            refine lv_aload hx hb dX11_write_34 (lv_at hl 0 rfl) ?_
            refine va_get (D := (dC, dI)) (ci := 6) (v := .int (sL1 0)) (C := RX6) (T := TX6) (N := 4) hx hb hts (fun w h => List.mem_cons_of_mem _ (List.mem_append_right _ (List.mem_append_right _ (List.mem_append_right _ (List.mem_append_left _ h))))) hown hK hP 2 rfl rfl 3 (by decide) (hts (.fieldLink RX11 387 "SagMemory$Slot" "length" "I") (wl_mem 5 rfl)) (fun _ h9 => h9) rfl dX11_write_36 ?_
            have bz44 := hsL1 0
            refine lv_icmp_lt (tgt := 45) hx hb dX11_write_39 (by decide) (fun cz45 => ?_) (fun cz45 => ?_)
            · skip
              have zz46 : p2.toInt < (sL1 0).toInt := zi_lt.mp cz45
              refine lv_aload hx hb dX11_write_45 (lv_at hl 0 rfl) ?_
              refine va_get (D := (dC, dI)) (ci := 6) (v := .ref (qL1 1)) (C := RX6) (T := TX6) (N := 4) hx hb hts (fun w h => List.mem_cons_of_mem _ (List.mem_append_right _ (List.mem_append_right _ (List.mem_append_right _ (List.mem_append_left _ h))))) hown hK hP 2 rfl rfl 0 (by decide) (hts (.fieldLink RX11 388 "SagMemory$Slot" "numbers" "[J") (wl_mem 6 rfl)) (fun _ h9 => h9) rfl dX11_write_47 ?_
              refine lv_iload_n hx hb dX11_write_50 rfl (lv_at hl 3 rfl) ?_
              refine lv_aload hx hb dX11_write_51 (lv_at hl 0 rfl) ?_
              refine lv_lload_n hx hb dX11_write_53 rfl (lv_at hl 4 rfl) ?_
              have hPc := hP.sub (ws' := (List.flatten [(wSlot qL1 k vL1 sL1 lL1)])) [2, 3] rfl
              refine vp_callSl (va_Run.run (va_runV (As := [.long p3]) (rest := [.int p2, .ref (qL1 1)]) ⟨hx, hb, hml, hown, hts⟩ (c_X6_cut l dC dI k qL1 vL1 sL1 lL1 p3 hsL1) (cwV 1 hts (gk_V (wl_mem 7 rfl) (wl_mem 8 rfl) (wl_mem 9 rfl) (wl_mem 10 rfl) (fun w h => List.mem_cons_of_mem _ (List.mem_append_right _ (List.mem_append_right _ (List.mem_append_right _ (List.mem_append_right _ (List.mem_append_left _ h)))))) wkg_c_X6_cut) rfl rfl rfl (by decide +kernel) ⟨Nat.le_of_ble_eq_true rfl, Nat.le_of_ble_eq_true rfl⟩) ⟨fun a U g mk q => by obtain ⟨q0, qP, qK⟩ := q; exact ⟨q0, qP, va_K.moved (u := U) (U := U.calling g mk a) (Vm.Alike.refl U.vm) qK⟩, va_recv hK hPc (ci := 6) (q0 := 0) rfl rfl, fun U hU hW => ⟨rfl, by rw [hU]; exact hPc, va_K.moved hW.alike hK⟩⟩ rfl rfl hl.1 rfl (lv_room (Nat.le_of_ble_eq_true rfl)) dX11_write_54 ⟨Nat.le_of_ble_eq_true rfl, Nat.le_of_ble_eq_true rfl⟩)) (fun rz48 gz47 => ?_)
              clear hPc
              refine va_last hx hb hK hP hD hS 3 1 rfl rfl (vp_in_iff.mpr ⟨by omega, by omega⟩) dX11_write_57 (fun H locs hP hD hS => ?_)
              obtain ⟨fz49, efz49, hP, hD⟩ : ∃ fz49 : Nat → Int64, fz49 = vp_updL (lL1 0) p2.toNatClampNeg rz48 ∧ va_P (dC, dI) vwCl (List.flatten [(wSlot qL0 k vL0 sL0 lL0), (wSlot qL1 k vL1 sL1 (va_up lL1 0 fz49)), (wSlot qL2 k vL2 sL2 lL2), (wSlot qL3 k vL3 sL3 lL3)] ++ List.flatten [(wSag qX k tapeX toldX actsX nowX trialX storyX attemptX orderSearchX routeSearchX setSearchX probeX (qL0 0) (qL1 0) (qL2 0) (qL3 0) image0X image1X image2X aX)]) H ∧ va_D A (List.flatten [(wSlot qL0 k vL0 sL0 lL0), (wSlot qL1 k vL1 sL1 (va_up lL1 0 fz49)), (wSlot qL2 k vL2 sL2 lL2), (wSlot qL3 k vL3 sL3 lL3)] ++ List.flatten [(wSag qX k tapeX toldX actsX nowX trialX storyX attemptX orderSearchX routeSearchX setSearchX probeX (qL0 0) (qL1 0) (qL2 0) (qL3 0) image0X image1X image2X aX)]) := ⟨_, rfl, hP, hD⟩
              have kfz49 : fz49 p2.toNatClampNeg = rz48 := by rw [efz49]; exact pk_uLs
              refine lv_iconst (v := 0) hx hb dX11_write_58 (by decide) ?_
              rw [hQ]
              exact W.iret (v := (0 : Int32)) hx hb hr (fun t ht hW => ⟨⟨(0 : Int32), (), rfl, trivial, vL0, sL0, lL0, vL1, sL1, (va_up lL1 0 fz49), vL2, sL2, lL2, vL3, sL3, lL3, hsL0, hsL1, hsL2, hsL3, by rw [ht]; exact hP⟩, hS.F ht⟩) hS.2.2 dX11_write_59
            · skip
              have zz50 : ¬ p2.toInt < (sL1 0).toInt := fun h9 => cz45 (zi_lt.mpr h9)
              refine lv_bipush (v := (-7)) hx hb dX11_write_42 (by decide) ?_
              rw [hQ]
              exact W.iret (v := (-7 : Int32)) hx hb hr (fun t ht hW => ⟨⟨(-7 : Int32), (), rfl, trivial, vL0, sL0, lL0, vL1, sL1, lL1, vL2, sL2, lL2, vL3, sL3, lL3, hsL0, hsL1, hsL2, hsL3, by rw [ht]; exact hP⟩, hS.F ht⟩) hS.2.2 dX11_write_44
        · skip
          have zz51 : (vL1 0).toInt = (0 : Int) := zi_eq.mp cz37
          refine lv_bipush (v := (-6)) hx hb dX11_write_26 (by decide) ?_
          rw [hQ]
          exact W.iret (v := (-6 : Int32)) hx hb hr (fun t ht hW => ⟨⟨(-6 : Int32), (), rfl, trivial, vL0, sL0, lL0, vL1, sL1, lL1, vL2, sL2, lL2, vL3, sL3, lL3, hsL0, hsL1, hsL2, hsL3, by rw [ht]; exact hP⟩, hS.F ht⟩) hS.2.2 dX11_write_28
      · skip
        have zz52 : p1.toInt = (2 : Int) := zi_eq.mp cz19
        refine W.eq (g2 := F0 m 15 ls [.int 2, .ref (qX 3)]) (by rw [cz19]) ?_
        refine va_aldq hx hb hK hP 11 6 rfl rfl (by unfold vp_in; decide) dX11_write_15 ?_
        refine W.eq (g2 := F0 m 16 ls [.ref (qL2 0)]) rfl ?_
        refine lv_astore (lv' := [(5, .ref (qL2 0)), (0, .ref (qX 0)), (1, .int p1), (2, .int p2), (3, .long p3)]) hx hb dX11_write_16 hl (by decide) rfl (fun ls hl => ?_)
        refine lv_aload hx hb dX11_write_18 (lv_at hl 0 rfl) ?_
        refine va_get (D := (dC, dI)) (ci := 6) (v := .int (vL2 0)) (C := RX6) (T := TX6) (N := 4) hx hb hts (fun w h => List.mem_cons_of_mem _ (List.mem_append_right _ (List.mem_append_right _ (List.mem_append_right _ (List.mem_append_left _ h))))) hown hK hP 4 rfl rfl 1 (by decide) (hts (.fieldLink RX11 386 "SagMemory$Slot" "has" "Z") (wl_mem 4 rfl)) (fun _ h9 => h9) rfl dX11_write_20 ?_
        refine lv_if_ne (tgt := 29) hx hb dX11_write_23 (by decide) (fun cz53 => ?_) (fun cz53 => ?_)
        · skip
          have zz54 : ¬ (vL2 0).toInt = (0 : Int) := fun h9 => cz53 (zi_eq.mpr h9)
          refine lv_iload_n hx hb dX11_write_29 rfl (lv_at hl 3 rfl) ?_
          refine lv_if_lt (tgt := 42) hx hb dX11_write_30 (by decide) (fun cz55 => ?_) (fun cz55 => ?_)
          · skip
            have bz56 := fb_rng p2
            have zz57 : p2.toInt < (0 : Int) := zi_lt.mp cz55
            refine lv_bipush (v := (-7)) hx hb dX11_write_42 (by decide) ?_
            rw [hQ]
            exact W.iret (v := (-7 : Int32)) hx hb hr (fun t ht hW => ⟨⟨(-7 : Int32), (), rfl, trivial, vL0, sL0, lL0, vL1, sL1, lL1, vL2, sL2, lL2, vL3, sL3, lL3, hsL0, hsL1, hsL2, hsL3, by rw [ht]; exact hP⟩, hS.F ht⟩) hS.2.2 dX11_write_44
          · skip
            have bz58 := fb_rng p2
            have zz59 : ¬ p2.toInt < (0 : Int) := fun h9 => cz55 (zi_lt.mpr h9)
            refine lv_iload_n hx hb dX11_write_33 rfl (lv_at hl 3 rfl) ?_
            refine lv_aload hx hb dX11_write_34 (lv_at hl 0 rfl) ?_
            refine va_get (D := (dC, dI)) (ci := 6) (v := .int (sL2 0)) (C := RX6) (T := TX6) (N := 4) hx hb hts (fun w h => List.mem_cons_of_mem _ (List.mem_append_right _ (List.mem_append_right _ (List.mem_append_right _ (List.mem_append_left _ h))))) hown hK hP 4 rfl rfl 3 (by decide) (hts (.fieldLink RX11 387 "SagMemory$Slot" "length" "I") (wl_mem 5 rfl)) (fun _ h9 => h9) rfl dX11_write_36 ?_
            have bz60 := hsL2 0
            refine lv_icmp_lt (tgt := 45) hx hb dX11_write_39 (by decide) (fun cz61 => ?_) (fun cz61 => ?_)
            · skip
              have zz62 : p2.toInt < (sL2 0).toInt := zi_lt.mp cz61
              refine lv_aload hx hb dX11_write_45 (lv_at hl 0 rfl) ?_
              refine va_get (D := (dC, dI)) (ci := 6) (v := .ref (qL2 1)) (C := RX6) (T := TX6) (N := 4) hx hb hts (fun w h => List.mem_cons_of_mem _ (List.mem_append_right _ (List.mem_append_right _ (List.mem_append_right _ (List.mem_append_left _ h))))) hown hK hP 4 rfl rfl 0 (by decide) (hts (.fieldLink RX11 388 "SagMemory$Slot" "numbers" "[J") (wl_mem 6 rfl)) (fun _ h9 => h9) rfl dX11_write_47 ?_
              refine lv_iload_n hx hb dX11_write_50 rfl (lv_at hl 3 rfl) ?_
              refine lv_aload hx hb dX11_write_51 (lv_at hl 0 rfl) ?_
              refine lv_lload_n hx hb dX11_write_53 rfl (lv_at hl 4 rfl) ?_
              have hPc := hP.sub (ws' := (List.flatten [(wSlot qL2 k vL2 sL2 lL2)])) [4, 5] rfl
              refine vp_callSl (va_Run.run (va_runV (As := [.long p3]) (rest := [.int p2, .ref (qL2 1)]) ⟨hx, hb, hml, hown, hts⟩ (c_X6_cut l dC dI k qL2 vL2 sL2 lL2 p3 hsL2) (cwV 1 hts (gk_V (wl_mem 7 rfl) (wl_mem 8 rfl) (wl_mem 9 rfl) (wl_mem 10 rfl) (fun w h => List.mem_cons_of_mem _ (List.mem_append_right _ (List.mem_append_right _ (List.mem_append_right _ (List.mem_append_right _ (List.mem_append_left _ h)))))) wkg_c_X6_cut) rfl rfl rfl (by decide +kernel) ⟨Nat.le_of_ble_eq_true rfl, Nat.le_of_ble_eq_true rfl⟩) ⟨fun a U g mk q => by obtain ⟨q0, qP, qK⟩ := q; exact ⟨q0, qP, va_K.moved (u := U) (U := U.calling g mk a) (Vm.Alike.refl U.vm) qK⟩, va_recv hK hPc (ci := 6) (q0 := 0) rfl rfl, fun U hU hW => ⟨rfl, by rw [hU]; exact hPc, va_K.moved hW.alike hK⟩⟩ rfl rfl hl.1 rfl (lv_room (Nat.le_of_ble_eq_true rfl)) dX11_write_54 ⟨Nat.le_of_ble_eq_true rfl, Nat.le_of_ble_eq_true rfl⟩)) (fun rz64 gz63 => ?_)
              clear hPc
              refine va_last hx hb hK hP hD hS 5 1 rfl rfl (vp_in_iff.mpr ⟨by omega, by omega⟩) dX11_write_57 (fun H locs hP hD hS => ?_)
              obtain ⟨fz65, efz65, hP, hD⟩ : ∃ fz65 : Nat → Int64, fz65 = vp_updL (lL2 0) p2.toNatClampNeg rz64 ∧ va_P (dC, dI) vwCl (List.flatten [(wSlot qL0 k vL0 sL0 lL0), (wSlot qL1 k vL1 sL1 lL1), (wSlot qL2 k vL2 sL2 (va_up lL2 0 fz65)), (wSlot qL3 k vL3 sL3 lL3)] ++ List.flatten [(wSag qX k tapeX toldX actsX nowX trialX storyX attemptX orderSearchX routeSearchX setSearchX probeX (qL0 0) (qL1 0) (qL2 0) (qL3 0) image0X image1X image2X aX)]) H ∧ va_D A (List.flatten [(wSlot qL0 k vL0 sL0 lL0), (wSlot qL1 k vL1 sL1 lL1), (wSlot qL2 k vL2 sL2 (va_up lL2 0 fz65)), (wSlot qL3 k vL3 sL3 lL3)] ++ List.flatten [(wSag qX k tapeX toldX actsX nowX trialX storyX attemptX orderSearchX routeSearchX setSearchX probeX (qL0 0) (qL1 0) (qL2 0) (qL3 0) image0X image1X image2X aX)]) := ⟨_, rfl, hP, hD⟩
              have kfz65 : fz65 p2.toNatClampNeg = rz64 := by rw [efz65]; exact pk_uLs
              refine lv_iconst (v := 0) hx hb dX11_write_58 (by decide) ?_
              rw [hQ]
              exact W.iret (v := (0 : Int32)) hx hb hr (fun t ht hW => ⟨⟨(0 : Int32), (), rfl, trivial, vL0, sL0, lL0, vL1, sL1, lL1, vL2, sL2, (va_up lL2 0 fz65), vL3, sL3, lL3, hsL0, hsL1, hsL2, hsL3, by rw [ht]; exact hP⟩, hS.F ht⟩) hS.2.2 dX11_write_59
            · skip
              have zz66 : ¬ p2.toInt < (sL2 0).toInt := fun h9 => cz61 (zi_lt.mpr h9)
              refine lv_bipush (v := (-7)) hx hb dX11_write_42 (by decide) ?_
              rw [hQ]
              exact W.iret (v := (-7 : Int32)) hx hb hr (fun t ht hW => ⟨⟨(-7 : Int32), (), rfl, trivial, vL0, sL0, lL0, vL1, sL1, lL1, vL2, sL2, lL2, vL3, sL3, lL3, hsL0, hsL1, hsL2, hsL3, by rw [ht]; exact hP⟩, hS.F ht⟩) hS.2.2 dX11_write_44
        · skip
          have zz67 : (vL2 0).toInt = (0 : Int) := zi_eq.mp cz53
          refine lv_bipush (v := (-6)) hx hb dX11_write_26 (by decide) ?_
          rw [hQ]
          exact W.iret (v := (-6 : Int32)) hx hb hr (fun t ht hW => ⟨⟨(-6 : Int32), (), rfl, trivial, vL0, sL0, lL0, vL1, sL1, lL1, vL2, sL2, lL2, vL3, sL3, lL3, hsL0, hsL1, hsL2, hsL3, by rw [ht]; exact hP⟩, hS.F ht⟩) hS.2.2 dX11_write_28
      · skip
        have zz68 : p1.toInt = (3 : Int) := zi_eq.mp cz19
        refine W.eq (g2 := F0 m 15 ls [.int 3, .ref (qX 3)]) (by rw [cz19]) ?_
        refine va_aldq hx hb hK hP 11 6 rfl rfl (by unfold vp_in; decide) dX11_write_15 ?_
        refine W.eq (g2 := F0 m 16 ls [.ref (qL3 0)]) rfl ?_
        refine lv_astore (lv' := [(5, .ref (qL3 0)), (0, .ref (qX 0)), (1, .int p1), (2, .int p2), (3, .long p3)]) hx hb dX11_write_16 hl (by decide) rfl (fun ls hl => ?_)
        refine lv_aload hx hb dX11_write_18 (lv_at hl 0 rfl) ?_
        refine va_get (D := (dC, dI)) (ci := 6) (v := .int (vL3 0)) (C := RX6) (T := TX6) (N := 4) hx hb hts (fun w h => List.mem_cons_of_mem _ (List.mem_append_right _ (List.mem_append_right _ (List.mem_append_right _ (List.mem_append_left _ h))))) hown hK hP 6 rfl rfl 1 (by decide) (hts (.fieldLink RX11 386 "SagMemory$Slot" "has" "Z") (wl_mem 4 rfl)) (fun _ h9 => h9) rfl dX11_write_20 ?_
        refine lv_if_ne (tgt := 29) hx hb dX11_write_23 (by decide) (fun cz69 => ?_) (fun cz69 => ?_)
        · skip
          have zz70 : ¬ (vL3 0).toInt = (0 : Int) := fun h9 => cz69 (zi_eq.mpr h9)
          refine lv_iload_n hx hb dX11_write_29 rfl (lv_at hl 3 rfl) ?_
          refine lv_if_lt (tgt := 42) hx hb dX11_write_30 (by decide) (fun cz71 => ?_) (fun cz71 => ?_)
          · skip
            have bz72 := fb_rng p2
            have zz73 : p2.toInt < (0 : Int) := zi_lt.mp cz71
            refine lv_bipush (v := (-7)) hx hb dX11_write_42 (by decide) ?_
            rw [hQ]
            exact W.iret (v := (-7 : Int32)) hx hb hr (fun t ht hW => ⟨⟨(-7 : Int32), (), rfl, trivial, vL0, sL0, lL0, vL1, sL1, lL1, vL2, sL2, lL2, vL3, sL3, lL3, hsL0, hsL1, hsL2, hsL3, by rw [ht]; exact hP⟩, hS.F ht⟩) hS.2.2 dX11_write_44
          · skip
            have bz74 := fb_rng p2
            have zz75 : ¬ p2.toInt < (0 : Int) := fun h9 => cz71 (zi_lt.mpr h9)
            refine lv_iload_n hx hb dX11_write_33 rfl (lv_at hl 3 rfl) ?_
            refine lv_aload hx hb dX11_write_34 (lv_at hl 0 rfl) ?_
            refine va_get (D := (dC, dI)) (ci := 6) (v := .int (sL3 0)) (C := RX6) (T := TX6) (N := 4) hx hb hts (fun w h => List.mem_cons_of_mem _ (List.mem_append_right _ (List.mem_append_right _ (List.mem_append_right _ (List.mem_append_left _ h))))) hown hK hP 6 rfl rfl 3 (by decide) (hts (.fieldLink RX11 387 "SagMemory$Slot" "length" "I") (wl_mem 5 rfl)) (fun _ h9 => h9) rfl dX11_write_36 ?_
            have bz76 := hsL3 0
            refine lv_icmp_lt (tgt := 45) hx hb dX11_write_39 (by decide) (fun cz77 => ?_) (fun cz77 => ?_)
            · skip
              have zz78 : p2.toInt < (sL3 0).toInt := zi_lt.mp cz77
              refine lv_aload hx hb dX11_write_45 (lv_at hl 0 rfl) ?_
              refine va_get (D := (dC, dI)) (ci := 6) (v := .ref (qL3 1)) (C := RX6) (T := TX6) (N := 4) hx hb hts (fun w h => List.mem_cons_of_mem _ (List.mem_append_right _ (List.mem_append_right _ (List.mem_append_right _ (List.mem_append_left _ h))))) hown hK hP 6 rfl rfl 0 (by decide) (hts (.fieldLink RX11 388 "SagMemory$Slot" "numbers" "[J") (wl_mem 6 rfl)) (fun _ h9 => h9) rfl dX11_write_47 ?_
              refine lv_iload_n hx hb dX11_write_50 rfl (lv_at hl 3 rfl) ?_
              refine lv_aload hx hb dX11_write_51 (lv_at hl 0 rfl) ?_
              refine lv_lload_n hx hb dX11_write_53 rfl (lv_at hl 4 rfl) ?_
              have hPc := hP.sub (ws' := (List.flatten [(wSlot qL3 k vL3 sL3 lL3)])) [6, 7] rfl
              refine vp_callSl (va_Run.run (va_runV (As := [.long p3]) (rest := [.int p2, .ref (qL3 1)]) ⟨hx, hb, hml, hown, hts⟩ (c_X6_cut l dC dI k qL3 vL3 sL3 lL3 p3 hsL3) (cwV 1 hts (gk_V (wl_mem 7 rfl) (wl_mem 8 rfl) (wl_mem 9 rfl) (wl_mem 10 rfl) (fun w h => List.mem_cons_of_mem _ (List.mem_append_right _ (List.mem_append_right _ (List.mem_append_right _ (List.mem_append_right _ (List.mem_append_left _ h)))))) wkg_c_X6_cut) rfl rfl rfl (by decide +kernel) ⟨Nat.le_of_ble_eq_true rfl, Nat.le_of_ble_eq_true rfl⟩) ⟨fun a U g mk q => by obtain ⟨q0, qP, qK⟩ := q; exact ⟨q0, qP, va_K.moved (u := U) (U := U.calling g mk a) (Vm.Alike.refl U.vm) qK⟩, va_recv hK hPc (ci := 6) (q0 := 0) rfl rfl, fun U hU hW => ⟨rfl, by rw [hU]; exact hPc, va_K.moved hW.alike hK⟩⟩ rfl rfl hl.1 rfl (lv_room (Nat.le_of_ble_eq_true rfl)) dX11_write_54 ⟨Nat.le_of_ble_eq_true rfl, Nat.le_of_ble_eq_true rfl⟩)) (fun rz80 gz79 => ?_)
              clear hPc
              refine va_last hx hb hK hP hD hS 7 1 rfl rfl (vp_in_iff.mpr ⟨by omega, by omega⟩) dX11_write_57 (fun H locs hP hD hS => ?_)
              obtain ⟨fz81, efz81, hP, hD⟩ : ∃ fz81 : Nat → Int64, fz81 = vp_updL (lL3 0) p2.toNatClampNeg rz80 ∧ va_P (dC, dI) vwCl (List.flatten [(wSlot qL0 k vL0 sL0 lL0), (wSlot qL1 k vL1 sL1 lL1), (wSlot qL2 k vL2 sL2 lL2), (wSlot qL3 k vL3 sL3 (va_up lL3 0 fz81))] ++ List.flatten [(wSag qX k tapeX toldX actsX nowX trialX storyX attemptX orderSearchX routeSearchX setSearchX probeX (qL0 0) (qL1 0) (qL2 0) (qL3 0) image0X image1X image2X aX)]) H ∧ va_D A (List.flatten [(wSlot qL0 k vL0 sL0 lL0), (wSlot qL1 k vL1 sL1 lL1), (wSlot qL2 k vL2 sL2 lL2), (wSlot qL3 k vL3 sL3 (va_up lL3 0 fz81))] ++ List.flatten [(wSag qX k tapeX toldX actsX nowX trialX storyX attemptX orderSearchX routeSearchX setSearchX probeX (qL0 0) (qL1 0) (qL2 0) (qL3 0) image0X image1X image2X aX)]) := ⟨_, rfl, hP, hD⟩
              have kfz81 : fz81 p2.toNatClampNeg = rz80 := by rw [efz81]; exact pk_uLs
              refine lv_iconst (v := 0) hx hb dX11_write_58 (by decide) ?_
              rw [hQ]
              exact W.iret (v := (0 : Int32)) hx hb hr (fun t ht hW => ⟨⟨(0 : Int32), (), rfl, trivial, vL0, sL0, lL0, vL1, sL1, lL1, vL2, sL2, lL2, vL3, sL3, (va_up lL3 0 fz81), hsL0, hsL1, hsL2, hsL3, by rw [ht]; exact hP⟩, hS.F ht⟩) hS.2.2 dX11_write_59
            · skip
              have zz82 : ¬ p2.toInt < (sL3 0).toInt := fun h9 => cz77 (zi_lt.mpr h9)
              refine lv_bipush (v := (-7)) hx hb dX11_write_42 (by decide) ?_
              rw [hQ]
              exact W.iret (v := (-7 : Int32)) hx hb hr (fun t ht hW => ⟨⟨(-7 : Int32), (), rfl, trivial, vL0, sL0, lL0, vL1, sL1, lL1, vL2, sL2, lL2, vL3, sL3, lL3, hsL0, hsL1, hsL2, hsL3, by rw [ht]; exact hP⟩, hS.F ht⟩) hS.2.2 dX11_write_44
        · skip
          have zz83 : (vL3 0).toInt = (0 : Int) := zi_eq.mp cz69
          refine lv_bipush (v := (-6)) hx hb dX11_write_26 (by decide) ?_
          rw [hQ]
          exact W.iret (v := (-6 : Int32)) hx hb hr (fun t ht hW => ⟨⟨(-6 : Int32), (), rfl, trivial, vL0, sL0, lL0, vL1, sL1, lL1, vL2, sL2, lL2, vL3, sL3, lL3, hsL0, hsL1, hsL2, hsL3, by rw [ht]; exact hP⟩, hS.F ht⟩) hS.2.2 dX11_write_28
    · skip
      exact absurd cz18 (by decide)
def wk_c_X11_paste : List Cond := .code yX11_paste cX11_paste 8 (some .int) :: ([.methodLink RX11 380 yX11_hasSlot, .static yX11_hasSlot, .initialized RX11, .fieldLink RX11 85 "SagMemory" "slots" "[LSagMemory$Slot;", .fieldLink RX11 386 "SagMemory$Slot" "has" "Z", .fieldLink RX11 396 "SagMemory$Slot" "width" "I", .methodLink RX11 399 yX6_spans, .instanceMethod yX6_spans, .selects RX6 yX6_spans yX6_spans, .initialized RX6, .fieldLink RX11 388 "SagMemory$Slot" "numbers" "[J", .methodLink RX11 402 arraycopyName, .native arraycopyName, .static arraycopyName, .initialized "java/lang/System"] ++ (wk_c_X11_hasSlot ++ (wsX110 ++ (wsX60 ++ (wk_c_X6_spans ++ [])))))
theorem wkg_c_X11_paste : wk_c_X11_paste.all goodWord = true := by decide +kernel
set_option maxHeartbeats 4000000 in
set_option maxRecDepth 100000 in
theorem c_X11_paste (l : Launch) (dC : Nat → ClassId) (dI : Nat → Nat → Nat) (k : Nat → ClassId) (sz : Nat) (qX : Nat → Nat) (tapeX : Nat) (toldX : Nat) (actsX : Nat) (nowX : Nat) (trialX : Nat) (storyX : Nat) (attemptX : Nat) (orderSearchX : Nat) (routeSearchX : Nat) (setSearchX : Nat) (probeX : Nat) (image0X : Nat) (image1X : Nat) (image2X : Nat) (aX : Nat → Nat → Int32) (qL0 : Nat → Nat) (vL0 : Nat → Int32) (sL0 : Nat → Int32) (lL0 : Nat → Nat → Int64) (qL1 : Nat → Nat) (vL1 : Nat → Int32) (sL1 : Nat → Int32) (lL1 : Nat → Nat → Int64) (qL2 : Nat → Nat) (vL2 : Nat → Int32) (sL2 : Nat → Int32) (lL2 : Nat → Nat → Int64) (qL3 : Nat → Nat) (vL3 : Nat → Int32) (sL3 : Nat → Int32) (lL3 : Nat → Nat → Int64) (p1 : Int32) (p2 : Int32) (p3 : Int32) (p4 : Int32) (p5 : Int32) (hsL0 : Rg 0 60 sL0) (hsL1 : Rg 0 60 sL1) (hsL2 : Rg 0 60 sL2) (hsL3 : Rg 0 60 sL3) : Met l yX11_paste wk_c_X11_paste ({ frames := 1, cells := 0, slots := 0, locals := 80 }) (va_Pc [.ref (qX 0), .int p1, .int p2, .int p3, .int p4, .int p5] (fun U => U.heap.size = sz ∧ va_P (dC, dI) vwCl (List.flatten [(wSlot qL0 k vL0 sL0 lL0), (wSlot qL1 k vL1 sL1 lL1), (wSlot qL2 k vL2 sL2 lL2), (wSlot qL3 k vL3 sL3 lL3)] ++ List.flatten [(wSag qX k tapeX toldX actsX nowX trialX storyX attemptX orderSearchX routeSearchX setSearchX probeX (qL0 0) (qL1 0) (qL2 0) (qL3 0) image0X image1X image2X aX)]) U.heap ∧ va_K (dC, dI) vwCl (tK k) U ∧ va_D (fun _ => True) (List.flatten [(wSlot qL0 k vL0 sL0 lL0), (wSlot qL1 k vL1 sL1 lL1), (wSlot qL2 k vL2 sL2 lL2), (wSlot qL3 k vL3 sL3 lL3)] ++ List.flatten [(wSag qX k tapeX toldX actsX nowX trialX storyX attemptX orderSearchX routeSearchX setSearchX probeX (qL0 0) (qL1 0) (qL2 0) (qL3 0) image0X image1X image2X aX)]))) (va_Qi (fun (r : Int32) (_ : Unit) => True) (fun (_ : Unit) (t : State) => ∃ (vL0' : Nat → Int32) (sL0' : Nat → Int32) (lL0' : Nat → Nat → Int64) (vL1' : Nat → Int32) (sL1' : Nat → Int32) (lL1' : Nat → Nat → Int64) (vL2' : Nat → Int32) (sL2' : Nat → Int32) (lL2' : Nat → Nat → Int64) (vL3' : Nat → Int32) (sL3' : Nat → Int32) (lL3' : Nat → Nat → Int64), Rg 0 60 sL0' ∧ Rg 0 60 sL1' ∧ Rg 0 60 sL2' ∧ Rg 0 60 sL3' ∧ va_P (dC, dI) vwCl (List.flatten [(wSlot qL0 k vL0' sL0' lL0'), (wSlot qL1 k vL1' sL1' lL1'), (wSlot qL2 k vL2' sL2' lL2'), (wSlot qL3 k vL3' sL3' lL3')] ++ List.flatten [(wSag qX k tapeX toldX actsX nowX trialX storyX attemptX orderSearchX routeSearchX setSearchX probeX (qL0 0) (qL1 0) (qL2 0) (qL3 0) image0X image1X image2X aX)]) t.heap) (va_A (List.flatten [(wSlot qL0 k vL0 sL0 lL0), (wSlot qL1 k vL1 sL1 lL1), (wSlot qL2 k vL2 sL2 lL2), (wSlot qL3 k vL3 sL3 lL3)] ++ List.flatten [(wSag qX k tapeX toldX actsX nowX trialX storyX attemptX orderSearchX routeSearchX setSearchX probeX (qL0 0) (qL1 0) (qL2 0) (qL3 0) image0X image1X image2X aX)]) sz)) 0 0 (va_A (List.flatten [(wSlot qL0 k vL0 sL0 lL0), (wSlot qL1 k vL1 sL1 lL1), (wSlot qL2 k vL2 sL2 lL2), (wSlot qL3 k vL3 sL3 lL3)] ++ List.flatten [(wSag qX k tapeX toldX actsX nowX trialX storyX attemptX orderSearchX routeSearchX setSearchX probeX (qL0 0) (qL1 0) (qL2 0) (qL3 0) image0X image1X image2X aX)]) sz) := by
  refine Met.ofW (cc := cX11_paste) (maxL := 8) (ret := (some .int)) (by decide) rfl ?_
  intro p e s m args below meth c s₁ B hml hv
  obtain ⟨rfl, hsz, hP, hK, hD0⟩ := hv
  have hx := B.exec
  have hb := B.bytes
  have hr := B.returns
  have hts := atoms_spec (ws := wk_c_X11_paste) B.pre
  have hown : s.vm.findClass RX11 = some m.cls := findClass_of_methodNamed B.named
  have hlocks := B.notSynchronized
  subst hsz
  have hD := hD0.self (sz := s.heap.size)
  generalize hAe : va_A (List.flatten [(wSlot qL0 k vL0 sL0 lL0), (wSlot qL1 k vL1 sL1 lL1), (wSlot qL2 k vL2 sL2 lL2), (wSlot qL3 k vL3 sL3 lL3)] ++ List.flatten [(wSag qX k tapeX toldX actsX nowX trialX storyX attemptX orderSearchX routeSearchX setSearchX probeX (qL0 0) (qL1 0) (qL2 0) (qL3 0) image0X image1X image2X aX)]) s.heap.size = A at hD ⊢
  have hA : ∀ q : Nat, s.heap.size ≤ q → A q := fun q h => by rw [← hAe]; exact Or.inr h
  have hS : va_S A s.heap s.heap [] := va_S.rf
  have hP : va_P (dC, dI) vwCl (List.flatten [(wSlot qL0 k vL0 sL0 lL0), (wSlot qL1 k vL1 sL1 lL1), (wSlot qL2 k vL2 sL2 lL2), (wSlot qL3 k vL3 sL3 lL3)] ++ List.flatten [(wSag qX k tapeX toldX actsX nowX trialX storyX attemptX orderSearchX routeSearchX setSearchX probeX (qL0 0) (qL1 0) (qL2 0) (qL3 0) image0X image1X image2X aX)]) s.heap := hP
  have hl := lv_entry ([.ref (qX 0), .int p1, .int p2, .int p3, .int p4, .int p5]) (n := 8) (Nat.le_of_ble_eq_true rfl)
  rw [lg_entry_eq]
  generalize (lg_sl ([.ref (qX 0), .int p1, .int p2, .int p3, .int p4, .int p5]) ++ List.replicate (8 - (lg_sl ([.ref (qX 0), .int p1, .int p2, .int p3, .int p4, .int p5])).length) Slot.unset).toArray = ls at hl ⊢
  have hl : lv_has ls 8 [(0, .ref (qX 0)), (1, .int p1), (2, .int p2), (3, .int p3), (4, .int p4), (5, .int p5)] := hl
  refine w_gen (fun Q hQ => ?_)
  refine lv_iload_n hx hb dX11_paste_0 rfl (lv_at hl 1 rfl) ?_
  have hPc : va_P (dC, dI) vwCl (List.flatten ([] : List va_W)) s.heap := fun k q h => by simp at h
  refine vp_callSi (va_Run.run (va_runS (As := [.int p1]) (rest := []) ⟨hx, hb, hml, hown, hts⟩ (c_X11_hasSlot l dC dI k p1) (va_cwS 1 hts (gk_S (wl_mem 0 rfl) (wl_mem 1 rfl) (wl_mem 2 rfl) (fun w h => List.mem_cons_of_mem _ (List.mem_append_right _ (List.mem_append_left _ h))) wkg_c_X11_hasSlot) rfl rfl rfl (by decide +kernel) ⟨Nat.le_of_ble_eq_true rfl, Nat.le_of_ble_eq_true rfl⟩) ⟨fun a U g mk q => by obtain ⟨q0, qP, qK⟩ := q; exact ⟨q0, qP, va_K.moved (u := U) (U := U.calling g mk a) (Vm.Alike.refl U.vm) qK⟩, fun U hU hW => ⟨rfl, by rw [hU]; exact hPc, va_K.moved hW.alike hK⟩⟩ rfl rfl hl.1 rfl (lv_room (Nat.le_of_ble_eq_true rfl)) dX11_paste_1 ⟨Nat.le_of_ble_eq_true rfl, Nat.le_of_ble_eq_true rfl⟩)) (fun rz2 gz1 => ?_)
  clear hPc
  rcases gz1 with ⟨er, cz3⟩ | ⟨er, cz4, cz5⟩ | ⟨er, cz6, cz7⟩
  · obtain rfl := er.symm
    have bz8 := fb_rng p1
    have zz9 : p1.toInt < (0 : Int) := zi_lt.mp cz3
    refine lv_if_eq (tgt := 14) hx hb dX11_paste_4 (by decide) (fun cz10 => ?_) (fun cz10 => ?_)
    · skip
      refine lv_bipush (v := (-2)) hx hb dX11_paste_14 (by decide) ?_
      rw [hQ]
      exact W.iret (v := (-2 : Int32)) hx hb hr (fun t ht hW => ⟨⟨(-2 : Int32), (), rfl, trivial, vL0, sL0, lL0, vL1, sL1, lL1, vL2, sL2, lL2, vL3, sL3, lL3, hsL0, hsL1, hsL2, hsL3, by rw [ht]; exact hP⟩, hS.F ht⟩) hS.2.2 dX11_paste_16
    · skip
      exact absurd cz10 (by decide)
  · obtain rfl := er.symm
    have bz11 := fb_rng p1
    have zz12 : ¬ p1.toInt < (0 : Int) := fun h9 => cz4 (zi_lt.mpr h9)
    have zz13 : (4 : Int) ≤ p1.toInt := zi_le.mp cz5
    refine lv_if_eq (tgt := 14) hx hb dX11_paste_4 (by decide) (fun cz14 => ?_) (fun cz14 => ?_)
    · skip
      refine lv_bipush (v := (-2)) hx hb dX11_paste_14 (by decide) ?_
      rw [hQ]
      exact W.iret (v := (-2 : Int32)) hx hb hr (fun t ht hW => ⟨⟨(-2 : Int32), (), rfl, trivial, vL0, sL0, lL0, vL1, sL1, lL1, vL2, sL2, lL2, vL3, sL3, lL3, hsL0, hsL1, hsL2, hsL3, by rw [ht]; exact hP⟩, hS.F ht⟩) hS.2.2 dX11_paste_16
    · skip
      exact absurd cz14 (by decide)
  · obtain rfl := er.symm
    have bz15 := fb_rng p1
    have zz16 : ¬ p1.toInt < (0 : Int) := fun h9 => cz6 (zi_lt.mpr h9)
    have zz17 : ¬ (4 : Int) ≤ p1.toInt := fun h9 => cz7 (zi_le.mpr h9)
    refine lv_if_eq (tgt := 14) hx hb dX11_paste_4 (by decide) (fun cz18 => ?_) (fun cz18 => ?_)
    · skip
      exact absurd cz18 (by decide)
    · skip
      refine lv_iload_n hx hb dX11_paste_7 rfl (lv_at hl 3 rfl) ?_
      have hPc : va_P (dC, dI) vwCl (List.flatten ([] : List va_W)) s.heap := fun k q h => by simp at h
      refine vp_callSi (va_Run.run (va_runS (As := [.int p3]) (rest := []) ⟨hx, hb, hml, hown, hts⟩ (c_X11_hasSlot l dC dI k p3) (va_cwS 1 hts (gk_S (wl_mem 0 rfl) (wl_mem 1 rfl) (wl_mem 2 rfl) (fun w h => List.mem_cons_of_mem _ (List.mem_append_right _ (List.mem_append_left _ h))) wkg_c_X11_hasSlot) rfl rfl rfl (by decide +kernel) ⟨Nat.le_of_ble_eq_true rfl, Nat.le_of_ble_eq_true rfl⟩) ⟨fun a U g mk q => by obtain ⟨q0, qP, qK⟩ := q; exact ⟨q0, qP, va_K.moved (u := U) (U := U.calling g mk a) (Vm.Alike.refl U.vm) qK⟩, fun U hU hW => ⟨rfl, by rw [hU]; exact hPc, va_K.moved hW.alike hK⟩⟩ rfl rfl hl.1 rfl (lv_room (Nat.le_of_ble_eq_true rfl)) dX11_paste_8 ⟨Nat.le_of_ble_eq_true rfl, Nat.le_of_ble_eq_true rfl⟩)) (fun rz20 gz19 => ?_)
      clear hPc
      rcases gz19 with ⟨er, cz21⟩ | ⟨er, cz22, cz23⟩ | ⟨er, cz24, cz25⟩
      · obtain rfl := er.symm
        have bz26 := fb_rng p3
        have zz27 : p3.toInt < (0 : Int) := zi_lt.mp cz21
        refine lv_if_ne (tgt := 17) hx hb dX11_paste_11 (by decide) (fun cz28 => ?_) (fun cz28 => ?_)
        · skip
          exact absurd cz28 (by decide)
        · skip
          refine lv_bipush (v := (-2)) hx hb dX11_paste_14 (by decide) ?_
          rw [hQ]
          exact W.iret (v := (-2 : Int32)) hx hb hr (fun t ht hW => ⟨⟨(-2 : Int32), (), rfl, trivial, vL0, sL0, lL0, vL1, sL1, lL1, vL2, sL2, lL2, vL3, sL3, lL3, hsL0, hsL1, hsL2, hsL3, by rw [ht]; exact hP⟩, hS.F ht⟩) hS.2.2 dX11_paste_16
      · obtain rfl := er.symm
        have bz29 := fb_rng p3
        have zz30 : ¬ p3.toInt < (0 : Int) := fun h9 => cz22 (zi_lt.mpr h9)
        have zz31 : (4 : Int) ≤ p3.toInt := zi_le.mp cz23
        refine lv_if_ne (tgt := 17) hx hb dX11_paste_11 (by decide) (fun cz32 => ?_) (fun cz32 => ?_)
        · skip
          exact absurd cz32 (by decide)
        · skip
          refine lv_bipush (v := (-2)) hx hb dX11_paste_14 (by decide) ?_
          rw [hQ]
          exact W.iret (v := (-2 : Int32)) hx hb hr (fun t ht hW => ⟨⟨(-2 : Int32), (), rfl, trivial, vL0, sL0, lL0, vL1, sL1, lL1, vL2, sL2, lL2, vL3, sL3, lL3, hsL0, hsL1, hsL2, hsL3, by rw [ht]; exact hP⟩, hS.F ht⟩) hS.2.2 dX11_paste_16
      · obtain rfl := er.symm
        have bz33 := fb_rng p3
        have zz34 : ¬ p3.toInt < (0 : Int) := fun h9 => cz24 (zi_lt.mpr h9)
        have zz35 : ¬ (4 : Int) ≤ p3.toInt := fun h9 => cz25 (zi_le.mpr h9)
        refine lv_if_ne (tgt := 17) hx hb dX11_paste_11 (by decide) (fun cz36 => ?_) (fun cz36 => ?_)
        · skip
          refine lv_aload_n hx hb dX11_paste_17 rfl (lv_at hl 0 rfl) ?_
          refine va_get (D := (dC, dI)) (ci := 11) (v := .ref (qX 3)) (C := RX11) (T := TX11) (N := 15) hx hb hts (fun w h => List.mem_cons_of_mem _ (List.mem_append_right _ (List.mem_append_right _ (List.mem_append_left _ h)))) hown hK hP 8 rfl rfl 13 (by decide) (hts (.fieldLink RX11 85 "SagMemory" "slots" "[LSagMemory$Slot;") (wl_mem 3 rfl)) (fun _ h9 => h9) rfl dX11_paste_18 ?_
          refine lv_iload_n hx hb dX11_paste_21 rfl (lv_at hl 1 rfl) ?_
          rcases (show p1 = 0 ∨ p1 = 1 ∨ p1 = 2 ∨ p1 = 3 by simp only [zi_eq]; show p1.toInt = 0 ∨ p1.toInt = 1 ∨ p1.toInt = 2 ∨ p1.toInt = 3; omega) with cz37 | cz37 | cz37 | cz37
          · skip
            have zz38 : p1.toInt = (0 : Int) := zi_eq.mp cz37
            refine W.eq (g2 := F0 m 22 ls [.int 0, .ref (qX 3)]) (by rw [cz37]) ?_
            refine va_aldq hx hb hK hP 11 6 rfl rfl (by unfold vp_in; decide) dX11_paste_22 ?_
            refine W.eq (g2 := F0 m 23 ls [.ref (qL0 0)]) rfl ?_
            refine lv_astore (lv' := [(6, .ref (qL0 0)), (0, .ref (qX 0)), (1, .int p1), (2, .int p2), (3, .int p3), (4, .int p4), (5, .int p5)]) hx hb dX11_paste_23 hl (by decide) rfl (fun ls hl => ?_)
            refine lv_aload_n hx hb dX11_paste_25 rfl (lv_at hl 1 rfl) ?_
            refine va_get (D := (dC, dI)) (ci := 11) (v := .ref (qX 3)) (C := RX11) (T := TX11) (N := 15) hx hb hts (fun w h => List.mem_cons_of_mem _ (List.mem_append_right _ (List.mem_append_right _ (List.mem_append_left _ h)))) hown hK hP 8 rfl rfl 13 (by decide) (hts (.fieldLink RX11 85 "SagMemory" "slots" "[LSagMemory$Slot;") (wl_mem 3 rfl)) (fun _ h9 => h9) rfl dX11_paste_26 ?_
            refine lv_iload_n hx hb dX11_paste_29 rfl (lv_at hl 4 rfl) ?_
            rcases (show p3 = 0 ∨ p3 = 1 ∨ p3 = 2 ∨ p3 = 3 by simp only [zi_eq]; show p3.toInt = 0 ∨ p3.toInt = 1 ∨ p3.toInt = 2 ∨ p3.toInt = 3; omega) with cz39 | cz39 | cz39 | cz39
            · skip
              have zz40 : p3.toInt = (0 : Int) := zi_eq.mp cz39
              refine W.eq (g2 := F0 m 30 ls [.int 0, .ref (qX 3)]) (by rw [cz39]) ?_
              refine va_aldq hx hb hK hP 11 6 rfl rfl (by unfold vp_in; decide) dX11_paste_30 ?_
              refine W.eq (g2 := F0 m 31 ls [.ref (qL0 0)]) rfl ?_
              refine lv_astore (lv' := [(7, .ref (qL0 0)), (6, .ref (qL0 0)), (0, .ref (qX 0)), (1, .int p1), (2, .int p2), (3, .int p3), (4, .int p4), (5, .int p5)]) hx hb dX11_paste_31 hl (by decide) rfl (fun ls hl => ?_)
              refine lv_aload hx hb dX11_paste_33 (lv_at hl 1 rfl) ?_
              refine va_get (D := (dC, dI)) (ci := 6) (v := .int (vL0 0)) (C := RX6) (T := TX6) (N := 4) hx hb hts (fun w h => List.mem_cons_of_mem _ (List.mem_append_right _ (List.mem_append_right _ (List.mem_append_right _ (List.mem_append_left _ h))))) hown hK hP 0 rfl rfl 1 (by decide) (hts (.fieldLink RX11 386 "SagMemory$Slot" "has" "Z") (wl_mem 4 rfl)) (fun _ h9 => h9) rfl dX11_paste_35 ?_
              refine lv_if_eq (tgt := 49) hx hb dX11_paste_38 (by decide) (fun cz41 => ?_) (fun cz41 => ?_)
              · skip
                have zz42 : (vL0 0).toInt = (0 : Int) := zi_eq.mp cz41
                refine lv_bipush (v := (-6)) hx hb dX11_paste_49 (by decide) ?_
                rw [hQ]
                exact W.iret (v := (-6 : Int32)) hx hb hr (fun t ht hW => ⟨⟨(-6 : Int32), (), rfl, trivial, vL0, sL0, lL0, vL1, sL1, lL1, vL2, sL2, lL2, vL3, sL3, lL3, hsL0, hsL1, hsL2, hsL3, by rw [ht]; exact hP⟩, hS.F ht⟩) hS.2.2 dX11_paste_51
              · skip
                have zz43 : ¬ (vL0 0).toInt = (0 : Int) := fun h9 => cz41 (zi_eq.mpr h9)
                refine lv_aload hx hb dX11_paste_41 (lv_at hl 0 rfl) ?_
                refine va_get (D := (dC, dI)) (ci := 6) (v := .int (vL0 0)) (C := RX6) (T := TX6) (N := 4) hx hb hts (fun w h => List.mem_cons_of_mem _ (List.mem_append_right _ (List.mem_append_right _ (List.mem_append_right _ (List.mem_append_left _ h))))) hown hK hP 0 rfl rfl 1 (by decide) (hts (.fieldLink RX11 386 "SagMemory$Slot" "has" "Z") (wl_mem 4 rfl)) (fun _ h9 => h9) rfl dX11_paste_43 ?_
                refine lv_if_ne (tgt := 52) hx hb dX11_paste_46 (by decide) (fun cz44 => ?_) (fun cz44 => ?_)
                · skip
                  have zz45 : ¬ (vL0 0).toInt = (0 : Int) := fun h9 => cz44 (zi_eq.mpr h9)
                  refine lv_aload hx hb dX11_paste_52 (lv_at hl 1 rfl) ?_
                  refine va_get (D := (dC, dI)) (ci := 6) (v := .int (vL0 1)) (C := RX6) (T := TX6) (N := 4) hx hb hts (fun w h => List.mem_cons_of_mem _ (List.mem_append_right _ (List.mem_append_right _ (List.mem_append_right _ (List.mem_append_left _ h))))) hown hK hP 0 rfl rfl 2 (by decide) (hts (.fieldLink RX11 396 "SagMemory$Slot" "width" "I") (wl_mem 5 rfl)) (fun _ h9 => h9) rfl dX11_paste_54 ?_
                  refine lv_aload hx hb dX11_paste_57 (lv_at hl 0 rfl) ?_
                  refine va_get (D := (dC, dI)) (ci := 6) (v := .int (vL0 1)) (C := RX6) (T := TX6) (N := 4) hx hb hts (fun w h => List.mem_cons_of_mem _ (List.mem_append_right _ (List.mem_append_right _ (List.mem_append_right _ (List.mem_append_left _ h))))) hown hK hP 0 rfl rfl 2 (by decide) (hts (.fieldLink RX11 396 "SagMemory$Slot" "width" "I") (wl_mem 5 rfl)) (fun _ h9 => h9) rfl dX11_paste_59 ?_
                  refine lv_icmp_eq (tgt := 68) hx hb dX11_paste_62 (by decide) (fun cz46 => ?_) (fun cz46 => ?_)
                  · skip
                    have zz47 : (vL0 1).toInt = (vL0 1).toInt := zi_eq.mp cz46
                    refine lv_aload hx hb dX11_paste_68 (lv_at hl 1 rfl) ?_
                    refine lv_iload_n hx hb dX11_paste_70 rfl (lv_at hl 4 rfl) ?_
                    refine lv_iload hx hb dX11_paste_71 (lv_at hl 7 rfl) ?_
                    have hPc := hP.sub (ws' := (List.flatten [(wSlot qL0 k vL0 sL0 lL0)])) [0, 1] rfl
                    refine vp_callSi (va_Run.run (va_runV (As := [.int p2, .int p5]) (rest := []) ⟨hx, hb, hml, hown, hts⟩ (c_X6_spans l dC dI k qL0 vL0 sL0 lL0 p2 p5 hsL0) (cwV 2 hts (gk_V (wl_mem 6 rfl) (wl_mem 7 rfl) (wl_mem 8 rfl) (wl_mem 9 rfl) (fun w h => List.mem_cons_of_mem _ (List.mem_append_right _ (List.mem_append_right _ (List.mem_append_right _ (List.mem_append_right _ (List.mem_append_left _ h)))))) wkg_c_X6_spans) rfl rfl rfl (by decide +kernel) ⟨Nat.le_of_ble_eq_true rfl, Nat.le_of_ble_eq_true rfl⟩) ⟨fun a U g mk q => by obtain ⟨q0, qP, qK⟩ := q; exact ⟨q0, qP, va_K.moved (u := U) (U := U.calling g mk a) (Vm.Alike.refl U.vm) qK⟩, va_recv hK hPc (ci := 6) (q0 := 0) rfl rfl, fun U hU hW => ⟨rfl, by rw [hU]; exact hPc, va_K.moved hW.alike hK⟩⟩ rfl rfl hl.1 rfl (lv_room (Nat.le_of_ble_eq_true rfl)) dX11_paste_73 ⟨Nat.le_of_ble_eq_true rfl, Nat.le_of_ble_eq_true rfl⟩)) (fun rz49 gz48 => ?_)
                    clear hPc
                    obtain ⟨pz50, pz51⟩ := gz48
                    have pz50 : rz49.toInt = 0 ∨ (0 ≤ p2.toInt ∧ 0 ≤ p5.toInt ∧ p2.toInt + p5.toInt ≤ (sL0 0).toInt) := pz50
                    have pz51 : rz49.toInt = 0 ∨ rz49.toInt = 1 := pz51
                    have bz52 := hsL0 0
                    refine lv_if_eq (tgt := 91) hx hb dX11_paste_76 (by decide) (fun cz53 => ?_) (fun cz53 => ?_)
                    · skip
                      have zz54 : rz49.toInt = (0 : Int) := zi_eq.mp cz53
                      refine lv_bipush (v := (-7)) hx hb dX11_paste_91 (by decide) ?_
                      rw [hQ]
                      exact W.iret (v := (-7 : Int32)) hx hb hr (fun t ht hW => ⟨⟨(-7 : Int32), (), rfl, trivial, vL0, sL0, lL0, vL1, sL1, lL1, vL2, sL2, lL2, vL3, sL3, lL3, hsL0, hsL1, hsL2, hsL3, by rw [ht]; exact hP⟩, hS.F ht⟩) hS.2.2 dX11_paste_93
                    · skip
                      have zz55 : ¬ rz49.toInt = (0 : Int) := fun h9 => cz53 (zi_eq.mpr h9)
                      refine lv_aload hx hb dX11_paste_79 (lv_at hl 0 rfl) ?_
                      refine lv_iload hx hb dX11_paste_81 (lv_at hl 6 rfl) ?_
                      refine lv_iload hx hb dX11_paste_83 (lv_at hl 7 rfl) ?_
                      have hPc := hP.sub (ws' := (List.flatten [(wSlot qL0 k vL0 sL0 lL0)])) [0, 1] rfl
                      refine vp_callSi (va_Run.run (va_runV (As := [.int p4, .int p5]) (rest := []) ⟨hx, hb, hml, hown, hts⟩ (c_X6_spans l dC dI k qL0 vL0 sL0 lL0 p4 p5 hsL0) (cwV 2 hts (gk_V (wl_mem 6 rfl) (wl_mem 7 rfl) (wl_mem 8 rfl) (wl_mem 9 rfl) (fun w h => List.mem_cons_of_mem _ (List.mem_append_right _ (List.mem_append_right _ (List.mem_append_right _ (List.mem_append_right _ (List.mem_append_left _ h)))))) wkg_c_X6_spans) rfl rfl rfl (by decide +kernel) ⟨Nat.le_of_ble_eq_true rfl, Nat.le_of_ble_eq_true rfl⟩) ⟨fun a U g mk q => by obtain ⟨q0, qP, qK⟩ := q; exact ⟨q0, qP, va_K.moved (u := U) (U := U.calling g mk a) (Vm.Alike.refl U.vm) qK⟩, va_recv hK hPc (ci := 6) (q0 := 0) rfl rfl, fun U hU hW => ⟨rfl, by rw [hU]; exact hPc, va_K.moved hW.alike hK⟩⟩ rfl rfl hl.1 rfl (lv_room (Nat.le_of_ble_eq_true rfl)) dX11_paste_85 ⟨Nat.le_of_ble_eq_true rfl, Nat.le_of_ble_eq_true rfl⟩)) (fun rz57 gz56 => ?_)
                      clear hPc
                      obtain ⟨pz58, pz59⟩ := gz56
                      have pz58 : rz57.toInt = 0 ∨ (0 ≤ p4.toInt ∧ 0 ≤ p5.toInt ∧ p4.toInt + p5.toInt ≤ (sL0 0).toInt) := pz58
                      have pz59 : rz57.toInt = 0 ∨ rz57.toInt = 1 := pz59
                      refine lv_if_ne (tgt := 94) hx hb dX11_paste_88 (by decide) (fun cz60 => ?_) (fun cz60 => ?_)
                      · skip
                        have zz61 : ¬ rz57.toInt = (0 : Int) := fun h9 => cz60 (zi_eq.mpr h9)
                        refine lv_aload hx hb dX11_paste_94 (lv_at hl 1 rfl) ?_
                        refine va_get (D := (dC, dI)) (ci := 6) (v := .ref (qL0 1)) (C := RX6) (T := TX6) (N := 4) hx hb hts (fun w h => List.mem_cons_of_mem _ (List.mem_append_right _ (List.mem_append_right _ (List.mem_append_right _ (List.mem_append_left _ h))))) hown hK hP 0 rfl rfl 0 (by decide) (hts (.fieldLink RX11 388 "SagMemory$Slot" "numbers" "[J") (wl_mem 10 rfl)) (fun _ h9 => h9) rfl dX11_paste_96 ?_
                        refine lv_iload_n hx hb dX11_paste_99 rfl (lv_at hl 4 rfl) ?_
                        refine lv_aload hx hb dX11_paste_100 (lv_at hl 0 rfl) ?_
                        refine va_get (D := (dC, dI)) (ci := 6) (v := .ref (qL0 1)) (C := RX6) (T := TX6) (N := 4) hx hb hts (fun w h => List.mem_cons_of_mem _ (List.mem_append_right _ (List.mem_append_right _ (List.mem_append_right _ (List.mem_append_left _ h))))) hown hK hP 0 rfl rfl 0 (by decide) (hts (.fieldLink RX11 388 "SagMemory$Slot" "numbers" "[J") (wl_mem 10 rfl)) (fun _ h9 => h9) rfl dX11_paste_102 ?_
                        refine lv_iload hx hb dX11_paste_105 (lv_at hl 6 rfl) ?_
                        refine lv_iload hx hb dX11_paste_107 (lv_at hl 7 rfl) ?_
                        refine va_copyl (ty := .long) hx hb (by rw [hml]; exact hl.1.symm) hown (hts (.methodLink RX11 402 arraycopyName) (wl_mem 11 rfl)) (hts (.native arraycopyName) (wl_mem 12 rfl)) (hts (.static arraycopyName) (wl_mem 13 rfl)) (hts (.initialized "java/lang/System") (wl_mem 14 rfl)) hK hP hD hS 1 1 1 1 rfl rfl rfl rfl rfl (fun h9 => by have h8 := zi_lt.mp h9; have h8 : p2.toInt < (0 : Int) := h8; omega) (fun h9 => by have h8 := zi_lt.mp h9; have h8 : p4.toInt < (0 : Int) := h8; omega) (fun h9 => by have h8 := zi_lt.mp h9; have h8 : p5.toInt < (0 : Int) := h8; omega) (by have h8 := zc_nat p2 (by show 0 ≤ p2.toInt; omega); have h9 := zc_nat p5 (by show 0 ≤ p5.toInt; omega); have h8 : ((p2).toNatClampNeg : Int) = p2.toInt := h8; have h9 : ((p5).toNatClampNeg : Int) = p5.toInt := h9; omega) (by have h8 := zc_nat p4 (by show 0 ≤ p4.toInt; omega); have h9 := zc_nat p5 (by show 0 ≤ p5.toInt; omega); have h8 : ((p4).toNatClampNeg : Int) = p4.toInt := h8; have h9 : ((p5).toNatClampNeg : Int) = p5.toInt := h9; omega) (fun _ _ => rfl) (Nat.le_of_ble_eq_true rfl) (Nat.le_of_ble_eq_true rfl) dX11_paste_109 (fun H locs hP hD hS => ?_)
                        obtain ⟨fz62, efz62, hP, hD⟩ : ∃ fz62 : Nat → Int64, fz62 = va_cpy (lL0 0) (lL0 0) p2.toNatClampNeg p4.toNatClampNeg p5.toNatClampNeg ∧ va_P (dC, dI) vwCl (List.flatten [(wSlot qL0 k vL0 sL0 (va_up lL0 0 fz62)), (wSlot qL1 k vL1 sL1 lL1), (wSlot qL2 k vL2 sL2 lL2), (wSlot qL3 k vL3 sL3 lL3)] ++ List.flatten [(wSag qX k tapeX toldX actsX nowX trialX storyX attemptX orderSearchX routeSearchX setSearchX probeX (qL0 0) (qL1 0) (qL2 0) (qL3 0) image0X image1X image2X aX)]) H ∧ va_D A (List.flatten [(wSlot qL0 k vL0 sL0 (va_up lL0 0 fz62)), (wSlot qL1 k vL1 sL1 lL1), (wSlot qL2 k vL2 sL2 lL2), (wSlot qL3 k vL3 sL3 lL3)] ++ List.flatten [(wSag qX k tapeX toldX actsX nowX trialX storyX attemptX orderSearchX routeSearchX setSearchX probeX (qL0 0) (qL1 0) (qL2 0) (qL3 0) image0X image1X image2X aX)]) := ⟨_, rfl, hP, hD⟩
                        refine lv_iconst (v := 0) hx hb dX11_paste_112 (by decide) ?_
                        rw [hQ]
                        exact W.iret (v := (0 : Int32)) hx hb hr (fun t ht hW => ⟨⟨(0 : Int32), (), rfl, trivial, vL0, sL0, (va_up lL0 0 fz62), vL1, sL1, lL1, vL2, sL2, lL2, vL3, sL3, lL3, hsL0, hsL1, hsL2, hsL3, by rw [ht]; exact hP⟩, hS.F ht⟩) hS.2.2 dX11_paste_113
                      · skip
                        have zz63 : rz57.toInt = (0 : Int) := zi_eq.mp cz60
                        refine lv_bipush (v := (-7)) hx hb dX11_paste_91 (by decide) ?_
                        rw [hQ]
                        exact W.iret (v := (-7 : Int32)) hx hb hr (fun t ht hW => ⟨⟨(-7 : Int32), (), rfl, trivial, vL0, sL0, lL0, vL1, sL1, lL1, vL2, sL2, lL2, vL3, sL3, lL3, hsL0, hsL1, hsL2, hsL3, by rw [ht]; exact hP⟩, hS.F ht⟩) hS.2.2 dX11_paste_93
                  · skip
                    have zz64 : ¬ (vL0 1).toInt = (vL0 1).toInt := fun h9 => cz46 (zi_eq.mpr h9)
                    exact absurd rfl cz46
                · skip
                  have zz65 : (vL0 0).toInt = (0 : Int) := zi_eq.mp cz44
                  omega
            · skip
              have zz66 : p3.toInt = (1 : Int) := zi_eq.mp cz39
              refine W.eq (g2 := F0 m 30 ls [.int 1, .ref (qX 3)]) (by rw [cz39]) ?_
              refine va_aldq hx hb hK hP 11 6 rfl rfl (by unfold vp_in; decide) dX11_paste_30 ?_
              refine W.eq (g2 := F0 m 31 ls [.ref (qL1 0)]) rfl ?_
              refine lv_astore (lv' := [(7, .ref (qL1 0)), (6, .ref (qL0 0)), (0, .ref (qX 0)), (1, .int p1), (2, .int p2), (3, .int p3), (4, .int p4), (5, .int p5)]) hx hb dX11_paste_31 hl (by decide) rfl (fun ls hl => ?_)
              refine lv_aload hx hb dX11_paste_33 (lv_at hl 1 rfl) ?_
              refine va_get (D := (dC, dI)) (ci := 6) (v := .int (vL0 0)) (C := RX6) (T := TX6) (N := 4) hx hb hts (fun w h => List.mem_cons_of_mem _ (List.mem_append_right _ (List.mem_append_right _ (List.mem_append_right _ (List.mem_append_left _ h))))) hown hK hP 0 rfl rfl 1 (by decide) (hts (.fieldLink RX11 386 "SagMemory$Slot" "has" "Z") (wl_mem 4 rfl)) (fun _ h9 => h9) rfl dX11_paste_35 ?_
              refine lv_if_eq (tgt := 49) hx hb dX11_paste_38 (by decide) (fun cz67 => ?_) (fun cz67 => ?_)
              · skip
                have zz68 : (vL0 0).toInt = (0 : Int) := zi_eq.mp cz67
                refine lv_bipush (v := (-6)) hx hb dX11_paste_49 (by decide) ?_
                rw [hQ]
                exact W.iret (v := (-6 : Int32)) hx hb hr (fun t ht hW => ⟨⟨(-6 : Int32), (), rfl, trivial, vL0, sL0, lL0, vL1, sL1, lL1, vL2, sL2, lL2, vL3, sL3, lL3, hsL0, hsL1, hsL2, hsL3, by rw [ht]; exact hP⟩, hS.F ht⟩) hS.2.2 dX11_paste_51
              · skip
                have zz69 : ¬ (vL0 0).toInt = (0 : Int) := fun h9 => cz67 (zi_eq.mpr h9)
                refine lv_aload hx hb dX11_paste_41 (lv_at hl 0 rfl) ?_
                refine va_get (D := (dC, dI)) (ci := 6) (v := .int (vL1 0)) (C := RX6) (T := TX6) (N := 4) hx hb hts (fun w h => List.mem_cons_of_mem _ (List.mem_append_right _ (List.mem_append_right _ (List.mem_append_right _ (List.mem_append_left _ h))))) hown hK hP 2 rfl rfl 1 (by decide) (hts (.fieldLink RX11 386 "SagMemory$Slot" "has" "Z") (wl_mem 4 rfl)) (fun _ h9 => h9) rfl dX11_paste_43 ?_
                refine lv_if_ne (tgt := 52) hx hb dX11_paste_46 (by decide) (fun cz70 => ?_) (fun cz70 => ?_)
                · skip
                  have zz71 : ¬ (vL1 0).toInt = (0 : Int) := fun h9 => cz70 (zi_eq.mpr h9)
                  refine lv_aload hx hb dX11_paste_52 (lv_at hl 1 rfl) ?_
                  refine va_get (D := (dC, dI)) (ci := 6) (v := .int (vL0 1)) (C := RX6) (T := TX6) (N := 4) hx hb hts (fun w h => List.mem_cons_of_mem _ (List.mem_append_right _ (List.mem_append_right _ (List.mem_append_right _ (List.mem_append_left _ h))))) hown hK hP 0 rfl rfl 2 (by decide) (hts (.fieldLink RX11 396 "SagMemory$Slot" "width" "I") (wl_mem 5 rfl)) (fun _ h9 => h9) rfl dX11_paste_54 ?_
                  refine lv_aload hx hb dX11_paste_57 (lv_at hl 0 rfl) ?_
                  refine va_get (D := (dC, dI)) (ci := 6) (v := .int (vL1 1)) (C := RX6) (T := TX6) (N := 4) hx hb hts (fun w h => List.mem_cons_of_mem _ (List.mem_append_right _ (List.mem_append_right _ (List.mem_append_right _ (List.mem_append_left _ h))))) hown hK hP 2 rfl rfl 2 (by decide) (hts (.fieldLink RX11 396 "SagMemory$Slot" "width" "I") (wl_mem 5 rfl)) (fun _ h9 => h9) rfl dX11_paste_59 ?_
                  refine lv_icmp_eq (tgt := 68) hx hb dX11_paste_62 (by decide) (fun cz72 => ?_) (fun cz72 => ?_)
                  · skip
                    have zz73 : (vL0 1).toInt = (vL1 1).toInt := zi_eq.mp cz72
                    refine lv_aload hx hb dX11_paste_68 (lv_at hl 1 rfl) ?_
                    refine lv_iload_n hx hb dX11_paste_70 rfl (lv_at hl 4 rfl) ?_
                    refine lv_iload hx hb dX11_paste_71 (lv_at hl 7 rfl) ?_
                    have hPc := hP.sub (ws' := (List.flatten [(wSlot qL0 k vL0 sL0 lL0)])) [0, 1] rfl
                    refine vp_callSi (va_Run.run (va_runV (As := [.int p2, .int p5]) (rest := []) ⟨hx, hb, hml, hown, hts⟩ (c_X6_spans l dC dI k qL0 vL0 sL0 lL0 p2 p5 hsL0) (cwV 2 hts (gk_V (wl_mem 6 rfl) (wl_mem 7 rfl) (wl_mem 8 rfl) (wl_mem 9 rfl) (fun w h => List.mem_cons_of_mem _ (List.mem_append_right _ (List.mem_append_right _ (List.mem_append_right _ (List.mem_append_right _ (List.mem_append_left _ h)))))) wkg_c_X6_spans) rfl rfl rfl (by decide +kernel) ⟨Nat.le_of_ble_eq_true rfl, Nat.le_of_ble_eq_true rfl⟩) ⟨fun a U g mk q => by obtain ⟨q0, qP, qK⟩ := q; exact ⟨q0, qP, va_K.moved (u := U) (U := U.calling g mk a) (Vm.Alike.refl U.vm) qK⟩, va_recv hK hPc (ci := 6) (q0 := 0) rfl rfl, fun U hU hW => ⟨rfl, by rw [hU]; exact hPc, va_K.moved hW.alike hK⟩⟩ rfl rfl hl.1 rfl (lv_room (Nat.le_of_ble_eq_true rfl)) dX11_paste_73 ⟨Nat.le_of_ble_eq_true rfl, Nat.le_of_ble_eq_true rfl⟩)) (fun rz75 gz74 => ?_)
                    clear hPc
                    obtain ⟨pz76, pz77⟩ := gz74
                    have pz76 : rz75.toInt = 0 ∨ (0 ≤ p2.toInt ∧ 0 ≤ p5.toInt ∧ p2.toInt + p5.toInt ≤ (sL0 0).toInt) := pz76
                    have pz77 : rz75.toInt = 0 ∨ rz75.toInt = 1 := pz77
                    have bz78 := hsL0 0
                    refine lv_if_eq (tgt := 91) hx hb dX11_paste_76 (by decide) (fun cz79 => ?_) (fun cz79 => ?_)
                    · skip
                      have zz80 : rz75.toInt = (0 : Int) := zi_eq.mp cz79
                      refine lv_bipush (v := (-7)) hx hb dX11_paste_91 (by decide) ?_
                      rw [hQ]
                      exact W.iret (v := (-7 : Int32)) hx hb hr (fun t ht hW => ⟨⟨(-7 : Int32), (), rfl, trivial, vL0, sL0, lL0, vL1, sL1, lL1, vL2, sL2, lL2, vL3, sL3, lL3, hsL0, hsL1, hsL2, hsL3, by rw [ht]; exact hP⟩, hS.F ht⟩) hS.2.2 dX11_paste_93
                    · skip
                      have zz81 : ¬ rz75.toInt = (0 : Int) := fun h9 => cz79 (zi_eq.mpr h9)
                      refine lv_aload hx hb dX11_paste_79 (lv_at hl 0 rfl) ?_
                      refine lv_iload hx hb dX11_paste_81 (lv_at hl 6 rfl) ?_
                      refine lv_iload hx hb dX11_paste_83 (lv_at hl 7 rfl) ?_
                      have hPc := hP.sub (ws' := (List.flatten [(wSlot qL1 k vL1 sL1 lL1)])) [2, 3] rfl
                      refine vp_callSi (va_Run.run (va_runV (As := [.int p4, .int p5]) (rest := []) ⟨hx, hb, hml, hown, hts⟩ (c_X6_spans l dC dI k qL1 vL1 sL1 lL1 p4 p5 hsL1) (cwV 2 hts (gk_V (wl_mem 6 rfl) (wl_mem 7 rfl) (wl_mem 8 rfl) (wl_mem 9 rfl) (fun w h => List.mem_cons_of_mem _ (List.mem_append_right _ (List.mem_append_right _ (List.mem_append_right _ (List.mem_append_right _ (List.mem_append_left _ h)))))) wkg_c_X6_spans) rfl rfl rfl (by decide +kernel) ⟨Nat.le_of_ble_eq_true rfl, Nat.le_of_ble_eq_true rfl⟩) ⟨fun a U g mk q => by obtain ⟨q0, qP, qK⟩ := q; exact ⟨q0, qP, va_K.moved (u := U) (U := U.calling g mk a) (Vm.Alike.refl U.vm) qK⟩, va_recv hK hPc (ci := 6) (q0 := 0) rfl rfl, fun U hU hW => ⟨rfl, by rw [hU]; exact hPc, va_K.moved hW.alike hK⟩⟩ rfl rfl hl.1 rfl (lv_room (Nat.le_of_ble_eq_true rfl)) dX11_paste_85 ⟨Nat.le_of_ble_eq_true rfl, Nat.le_of_ble_eq_true rfl⟩)) (fun rz83 gz82 => ?_)
                      clear hPc
                      obtain ⟨pz84, pz85⟩ := gz82
                      have pz84 : rz83.toInt = 0 ∨ (0 ≤ p4.toInt ∧ 0 ≤ p5.toInt ∧ p4.toInt + p5.toInt ≤ (sL1 0).toInt) := pz84
                      have pz85 : rz83.toInt = 0 ∨ rz83.toInt = 1 := pz85
                      have bz86 := hsL1 0
                      refine lv_if_ne (tgt := 94) hx hb dX11_paste_88 (by decide) (fun cz87 => ?_) (fun cz87 => ?_)
                      · skip
                        have zz88 : ¬ rz83.toInt = (0 : Int) := fun h9 => cz87 (zi_eq.mpr h9)
                        refine lv_aload hx hb dX11_paste_94 (lv_at hl 1 rfl) ?_
                        refine va_get (D := (dC, dI)) (ci := 6) (v := .ref (qL0 1)) (C := RX6) (T := TX6) (N := 4) hx hb hts (fun w h => List.mem_cons_of_mem _ (List.mem_append_right _ (List.mem_append_right _ (List.mem_append_right _ (List.mem_append_left _ h))))) hown hK hP 0 rfl rfl 0 (by decide) (hts (.fieldLink RX11 388 "SagMemory$Slot" "numbers" "[J") (wl_mem 10 rfl)) (fun _ h9 => h9) rfl dX11_paste_96 ?_
                        refine lv_iload_n hx hb dX11_paste_99 rfl (lv_at hl 4 rfl) ?_
                        refine lv_aload hx hb dX11_paste_100 (lv_at hl 0 rfl) ?_
                        refine va_get (D := (dC, dI)) (ci := 6) (v := .ref (qL1 1)) (C := RX6) (T := TX6) (N := 4) hx hb hts (fun w h => List.mem_cons_of_mem _ (List.mem_append_right _ (List.mem_append_right _ (List.mem_append_right _ (List.mem_append_left _ h))))) hown hK hP 2 rfl rfl 0 (by decide) (hts (.fieldLink RX11 388 "SagMemory$Slot" "numbers" "[J") (wl_mem 10 rfl)) (fun _ h9 => h9) rfl dX11_paste_102 ?_
                        refine lv_iload hx hb dX11_paste_105 (lv_at hl 6 rfl) ?_
                        refine lv_iload hx hb dX11_paste_107 (lv_at hl 7 rfl) ?_
                        refine va_copyl (ty := .long) hx hb (by rw [hml]; exact hl.1.symm) hown (hts (.methodLink RX11 402 arraycopyName) (wl_mem 11 rfl)) (hts (.native arraycopyName) (wl_mem 12 rfl)) (hts (.static arraycopyName) (wl_mem 13 rfl)) (hts (.initialized "java/lang/System") (wl_mem 14 rfl)) hK hP hD hS 1 3 1 1 rfl rfl rfl rfl rfl (fun h9 => by have h8 := zi_lt.mp h9; have h8 : p2.toInt < (0 : Int) := h8; omega) (fun h9 => by have h8 := zi_lt.mp h9; have h8 : p4.toInt < (0 : Int) := h8; omega) (fun h9 => by have h8 := zi_lt.mp h9; have h8 : p5.toInt < (0 : Int) := h8; omega) (by have h8 := zc_nat p2 (by show 0 ≤ p2.toInt; omega); have h9 := zc_nat p5 (by show 0 ≤ p5.toInt; omega); have h8 : ((p2).toNatClampNeg : Int) = p2.toInt := h8; have h9 : ((p5).toNatClampNeg : Int) = p5.toInt := h9; omega) (by have h8 := zc_nat p4 (by show 0 ≤ p4.toInt; omega); have h9 := zc_nat p5 (by show 0 ≤ p5.toInt; omega); have h8 : ((p4).toNatClampNeg : Int) = p4.toInt := h8; have h9 : ((p5).toNatClampNeg : Int) = p5.toInt := h9; omega) (fun _ _ => rfl) (Nat.le_of_ble_eq_true rfl) (Nat.le_of_ble_eq_true rfl) dX11_paste_109 (fun H locs hP hD hS => ?_)
                        obtain ⟨fz89, efz89, hP, hD⟩ : ∃ fz89 : Nat → Int64, fz89 = va_cpy (lL0 0) (lL1 0) p2.toNatClampNeg p4.toNatClampNeg p5.toNatClampNeg ∧ va_P (dC, dI) vwCl (List.flatten [(wSlot qL0 k vL0 sL0 lL0), (wSlot qL1 k vL1 sL1 (va_up lL1 0 fz89)), (wSlot qL2 k vL2 sL2 lL2), (wSlot qL3 k vL3 sL3 lL3)] ++ List.flatten [(wSag qX k tapeX toldX actsX nowX trialX storyX attemptX orderSearchX routeSearchX setSearchX probeX (qL0 0) (qL1 0) (qL2 0) (qL3 0) image0X image1X image2X aX)]) H ∧ va_D A (List.flatten [(wSlot qL0 k vL0 sL0 lL0), (wSlot qL1 k vL1 sL1 (va_up lL1 0 fz89)), (wSlot qL2 k vL2 sL2 lL2), (wSlot qL3 k vL3 sL3 lL3)] ++ List.flatten [(wSag qX k tapeX toldX actsX nowX trialX storyX attemptX orderSearchX routeSearchX setSearchX probeX (qL0 0) (qL1 0) (qL2 0) (qL3 0) image0X image1X image2X aX)]) := ⟨_, rfl, hP, hD⟩
                        refine lv_iconst (v := 0) hx hb dX11_paste_112 (by decide) ?_
                        rw [hQ]
                        exact W.iret (v := (0 : Int32)) hx hb hr (fun t ht hW => ⟨⟨(0 : Int32), (), rfl, trivial, vL0, sL0, lL0, vL1, sL1, (va_up lL1 0 fz89), vL2, sL2, lL2, vL3, sL3, lL3, hsL0, hsL1, hsL2, hsL3, by rw [ht]; exact hP⟩, hS.F ht⟩) hS.2.2 dX11_paste_113
                      · skip
                        have zz90 : rz83.toInt = (0 : Int) := zi_eq.mp cz87
                        refine lv_bipush (v := (-7)) hx hb dX11_paste_91 (by decide) ?_
                        rw [hQ]
                        exact W.iret (v := (-7 : Int32)) hx hb hr (fun t ht hW => ⟨⟨(-7 : Int32), (), rfl, trivial, vL0, sL0, lL0, vL1, sL1, lL1, vL2, sL2, lL2, vL3, sL3, lL3, hsL0, hsL1, hsL2, hsL3, by rw [ht]; exact hP⟩, hS.F ht⟩) hS.2.2 dX11_paste_93
                  · skip
                    have zz91 : ¬ (vL0 1).toInt = (vL1 1).toInt := fun h9 => cz72 (zi_eq.mpr h9)
                    refine lv_bipush (v := (-8)) hx hb dX11_paste_65 (by decide) ?_
                    rw [hQ]
                    exact W.iret (v := (-8 : Int32)) hx hb hr (fun t ht hW => ⟨⟨(-8 : Int32), (), rfl, trivial, vL0, sL0, lL0, vL1, sL1, lL1, vL2, sL2, lL2, vL3, sL3, lL3, hsL0, hsL1, hsL2, hsL3, by rw [ht]; exact hP⟩, hS.F ht⟩) hS.2.2 dX11_paste_67
                · skip
                  have zz92 : (vL1 0).toInt = (0 : Int) := zi_eq.mp cz70
                  refine lv_bipush (v := (-6)) hx hb dX11_paste_49 (by decide) ?_
                  rw [hQ]
                  exact W.iret (v := (-6 : Int32)) hx hb hr (fun t ht hW => ⟨⟨(-6 : Int32), (), rfl, trivial, vL0, sL0, lL0, vL1, sL1, lL1, vL2, sL2, lL2, vL3, sL3, lL3, hsL0, hsL1, hsL2, hsL3, by rw [ht]; exact hP⟩, hS.F ht⟩) hS.2.2 dX11_paste_51
            · skip
              have zz93 : p3.toInt = (2 : Int) := zi_eq.mp cz39
              refine W.eq (g2 := F0 m 30 ls [.int 2, .ref (qX 3)]) (by rw [cz39]) ?_
              refine va_aldq hx hb hK hP 11 6 rfl rfl (by unfold vp_in; decide) dX11_paste_30 ?_
              refine W.eq (g2 := F0 m 31 ls [.ref (qL2 0)]) rfl ?_
              refine lv_astore (lv' := [(7, .ref (qL2 0)), (6, .ref (qL0 0)), (0, .ref (qX 0)), (1, .int p1), (2, .int p2), (3, .int p3), (4, .int p4), (5, .int p5)]) hx hb dX11_paste_31 hl (by decide) rfl (fun ls hl => ?_)
              refine lv_aload hx hb dX11_paste_33 (lv_at hl 1 rfl) ?_
              refine va_get (D := (dC, dI)) (ci := 6) (v := .int (vL0 0)) (C := RX6) (T := TX6) (N := 4) hx hb hts (fun w h => List.mem_cons_of_mem _ (List.mem_append_right _ (List.mem_append_right _ (List.mem_append_right _ (List.mem_append_left _ h))))) hown hK hP 0 rfl rfl 1 (by decide) (hts (.fieldLink RX11 386 "SagMemory$Slot" "has" "Z") (wl_mem 4 rfl)) (fun _ h9 => h9) rfl dX11_paste_35 ?_
              refine lv_if_eq (tgt := 49) hx hb dX11_paste_38 (by decide) (fun cz94 => ?_) (fun cz94 => ?_)
              · skip
                have zz95 : (vL0 0).toInt = (0 : Int) := zi_eq.mp cz94
                refine lv_bipush (v := (-6)) hx hb dX11_paste_49 (by decide) ?_
                rw [hQ]
                exact W.iret (v := (-6 : Int32)) hx hb hr (fun t ht hW => ⟨⟨(-6 : Int32), (), rfl, trivial, vL0, sL0, lL0, vL1, sL1, lL1, vL2, sL2, lL2, vL3, sL3, lL3, hsL0, hsL1, hsL2, hsL3, by rw [ht]; exact hP⟩, hS.F ht⟩) hS.2.2 dX11_paste_51
              · skip
                have zz96 : ¬ (vL0 0).toInt = (0 : Int) := fun h9 => cz94 (zi_eq.mpr h9)
                refine lv_aload hx hb dX11_paste_41 (lv_at hl 0 rfl) ?_
                refine va_get (D := (dC, dI)) (ci := 6) (v := .int (vL2 0)) (C := RX6) (T := TX6) (N := 4) hx hb hts (fun w h => List.mem_cons_of_mem _ (List.mem_append_right _ (List.mem_append_right _ (List.mem_append_right _ (List.mem_append_left _ h))))) hown hK hP 4 rfl rfl 1 (by decide) (hts (.fieldLink RX11 386 "SagMemory$Slot" "has" "Z") (wl_mem 4 rfl)) (fun _ h9 => h9) rfl dX11_paste_43 ?_
                refine lv_if_ne (tgt := 52) hx hb dX11_paste_46 (by decide) (fun cz97 => ?_) (fun cz97 => ?_)
                · skip
                  have zz98 : ¬ (vL2 0).toInt = (0 : Int) := fun h9 => cz97 (zi_eq.mpr h9)
                  refine lv_aload hx hb dX11_paste_52 (lv_at hl 1 rfl) ?_
                  refine va_get (D := (dC, dI)) (ci := 6) (v := .int (vL0 1)) (C := RX6) (T := TX6) (N := 4) hx hb hts (fun w h => List.mem_cons_of_mem _ (List.mem_append_right _ (List.mem_append_right _ (List.mem_append_right _ (List.mem_append_left _ h))))) hown hK hP 0 rfl rfl 2 (by decide) (hts (.fieldLink RX11 396 "SagMemory$Slot" "width" "I") (wl_mem 5 rfl)) (fun _ h9 => h9) rfl dX11_paste_54 ?_
                  refine lv_aload hx hb dX11_paste_57 (lv_at hl 0 rfl) ?_
                  refine va_get (D := (dC, dI)) (ci := 6) (v := .int (vL2 1)) (C := RX6) (T := TX6) (N := 4) hx hb hts (fun w h => List.mem_cons_of_mem _ (List.mem_append_right _ (List.mem_append_right _ (List.mem_append_right _ (List.mem_append_left _ h))))) hown hK hP 4 rfl rfl 2 (by decide) (hts (.fieldLink RX11 396 "SagMemory$Slot" "width" "I") (wl_mem 5 rfl)) (fun _ h9 => h9) rfl dX11_paste_59 ?_
                  refine lv_icmp_eq (tgt := 68) hx hb dX11_paste_62 (by decide) (fun cz99 => ?_) (fun cz99 => ?_)
                  · skip
                    have zz100 : (vL0 1).toInt = (vL2 1).toInt := zi_eq.mp cz99
                    refine lv_aload hx hb dX11_paste_68 (lv_at hl 1 rfl) ?_
                    refine lv_iload_n hx hb dX11_paste_70 rfl (lv_at hl 4 rfl) ?_
                    refine lv_iload hx hb dX11_paste_71 (lv_at hl 7 rfl) ?_
                    have hPc := hP.sub (ws' := (List.flatten [(wSlot qL0 k vL0 sL0 lL0)])) [0, 1] rfl
                    refine vp_callSi (va_Run.run (va_runV (As := [.int p2, .int p5]) (rest := []) ⟨hx, hb, hml, hown, hts⟩ (c_X6_spans l dC dI k qL0 vL0 sL0 lL0 p2 p5 hsL0) (cwV 2 hts (gk_V (wl_mem 6 rfl) (wl_mem 7 rfl) (wl_mem 8 rfl) (wl_mem 9 rfl) (fun w h => List.mem_cons_of_mem _ (List.mem_append_right _ (List.mem_append_right _ (List.mem_append_right _ (List.mem_append_right _ (List.mem_append_left _ h)))))) wkg_c_X6_spans) rfl rfl rfl (by decide +kernel) ⟨Nat.le_of_ble_eq_true rfl, Nat.le_of_ble_eq_true rfl⟩) ⟨fun a U g mk q => by obtain ⟨q0, qP, qK⟩ := q; exact ⟨q0, qP, va_K.moved (u := U) (U := U.calling g mk a) (Vm.Alike.refl U.vm) qK⟩, va_recv hK hPc (ci := 6) (q0 := 0) rfl rfl, fun U hU hW => ⟨rfl, by rw [hU]; exact hPc, va_K.moved hW.alike hK⟩⟩ rfl rfl hl.1 rfl (lv_room (Nat.le_of_ble_eq_true rfl)) dX11_paste_73 ⟨Nat.le_of_ble_eq_true rfl, Nat.le_of_ble_eq_true rfl⟩)) (fun rz102 gz101 => ?_)
                    clear hPc
                    obtain ⟨pz103, pz104⟩ := gz101
                    have pz103 : rz102.toInt = 0 ∨ (0 ≤ p2.toInt ∧ 0 ≤ p5.toInt ∧ p2.toInt + p5.toInt ≤ (sL0 0).toInt) := pz103
                    have pz104 : rz102.toInt = 0 ∨ rz102.toInt = 1 := pz104
                    have bz105 := hsL0 0
                    refine lv_if_eq (tgt := 91) hx hb dX11_paste_76 (by decide) (fun cz106 => ?_) (fun cz106 => ?_)
                    · skip
                      have zz107 : rz102.toInt = (0 : Int) := zi_eq.mp cz106
                      refine lv_bipush (v := (-7)) hx hb dX11_paste_91 (by decide) ?_
                      rw [hQ]
                      exact W.iret (v := (-7 : Int32)) hx hb hr (fun t ht hW => ⟨⟨(-7 : Int32), (), rfl, trivial, vL0, sL0, lL0, vL1, sL1, lL1, vL2, sL2, lL2, vL3, sL3, lL3, hsL0, hsL1, hsL2, hsL3, by rw [ht]; exact hP⟩, hS.F ht⟩) hS.2.2 dX11_paste_93
                    · skip
                      have zz108 : ¬ rz102.toInt = (0 : Int) := fun h9 => cz106 (zi_eq.mpr h9)
                      refine lv_aload hx hb dX11_paste_79 (lv_at hl 0 rfl) ?_
                      refine lv_iload hx hb dX11_paste_81 (lv_at hl 6 rfl) ?_
                      refine lv_iload hx hb dX11_paste_83 (lv_at hl 7 rfl) ?_
                      have hPc := hP.sub (ws' := (List.flatten [(wSlot qL2 k vL2 sL2 lL2)])) [4, 5] rfl
                      refine vp_callSi (va_Run.run (va_runV (As := [.int p4, .int p5]) (rest := []) ⟨hx, hb, hml, hown, hts⟩ (c_X6_spans l dC dI k qL2 vL2 sL2 lL2 p4 p5 hsL2) (cwV 2 hts (gk_V (wl_mem 6 rfl) (wl_mem 7 rfl) (wl_mem 8 rfl) (wl_mem 9 rfl) (fun w h => List.mem_cons_of_mem _ (List.mem_append_right _ (List.mem_append_right _ (List.mem_append_right _ (List.mem_append_right _ (List.mem_append_left _ h)))))) wkg_c_X6_spans) rfl rfl rfl (by decide +kernel) ⟨Nat.le_of_ble_eq_true rfl, Nat.le_of_ble_eq_true rfl⟩) ⟨fun a U g mk q => by obtain ⟨q0, qP, qK⟩ := q; exact ⟨q0, qP, va_K.moved (u := U) (U := U.calling g mk a) (Vm.Alike.refl U.vm) qK⟩, va_recv hK hPc (ci := 6) (q0 := 0) rfl rfl, fun U hU hW => ⟨rfl, by rw [hU]; exact hPc, va_K.moved hW.alike hK⟩⟩ rfl rfl hl.1 rfl (lv_room (Nat.le_of_ble_eq_true rfl)) dX11_paste_85 ⟨Nat.le_of_ble_eq_true rfl, Nat.le_of_ble_eq_true rfl⟩)) (fun rz110 gz109 => ?_)
                      clear hPc
                      obtain ⟨pz111, pz112⟩ := gz109
                      have pz111 : rz110.toInt = 0 ∨ (0 ≤ p4.toInt ∧ 0 ≤ p5.toInt ∧ p4.toInt + p5.toInt ≤ (sL2 0).toInt) := pz111
                      have pz112 : rz110.toInt = 0 ∨ rz110.toInt = 1 := pz112
                      have bz113 := hsL2 0
                      refine lv_if_ne (tgt := 94) hx hb dX11_paste_88 (by decide) (fun cz114 => ?_) (fun cz114 => ?_)
                      · skip
                        have zz115 : ¬ rz110.toInt = (0 : Int) := fun h9 => cz114 (zi_eq.mpr h9)
                        refine lv_aload hx hb dX11_paste_94 (lv_at hl 1 rfl) ?_
                        refine va_get (D := (dC, dI)) (ci := 6) (v := .ref (qL0 1)) (C := RX6) (T := TX6) (N := 4) hx hb hts (fun w h => List.mem_cons_of_mem _ (List.mem_append_right _ (List.mem_append_right _ (List.mem_append_right _ (List.mem_append_left _ h))))) hown hK hP 0 rfl rfl 0 (by decide) (hts (.fieldLink RX11 388 "SagMemory$Slot" "numbers" "[J") (wl_mem 10 rfl)) (fun _ h9 => h9) rfl dX11_paste_96 ?_
                        refine lv_iload_n hx hb dX11_paste_99 rfl (lv_at hl 4 rfl) ?_
                        refine lv_aload hx hb dX11_paste_100 (lv_at hl 0 rfl) ?_
                        refine va_get (D := (dC, dI)) (ci := 6) (v := .ref (qL2 1)) (C := RX6) (T := TX6) (N := 4) hx hb hts (fun w h => List.mem_cons_of_mem _ (List.mem_append_right _ (List.mem_append_right _ (List.mem_append_right _ (List.mem_append_left _ h))))) hown hK hP 4 rfl rfl 0 (by decide) (hts (.fieldLink RX11 388 "SagMemory$Slot" "numbers" "[J") (wl_mem 10 rfl)) (fun _ h9 => h9) rfl dX11_paste_102 ?_
                        refine lv_iload hx hb dX11_paste_105 (lv_at hl 6 rfl) ?_
                        refine lv_iload hx hb dX11_paste_107 (lv_at hl 7 rfl) ?_
                        refine va_copyl (ty := .long) hx hb (by rw [hml]; exact hl.1.symm) hown (hts (.methodLink RX11 402 arraycopyName) (wl_mem 11 rfl)) (hts (.native arraycopyName) (wl_mem 12 rfl)) (hts (.static arraycopyName) (wl_mem 13 rfl)) (hts (.initialized "java/lang/System") (wl_mem 14 rfl)) hK hP hD hS 1 5 1 1 rfl rfl rfl rfl rfl (fun h9 => by have h8 := zi_lt.mp h9; have h8 : p2.toInt < (0 : Int) := h8; omega) (fun h9 => by have h8 := zi_lt.mp h9; have h8 : p4.toInt < (0 : Int) := h8; omega) (fun h9 => by have h8 := zi_lt.mp h9; have h8 : p5.toInt < (0 : Int) := h8; omega) (by have h8 := zc_nat p2 (by show 0 ≤ p2.toInt; omega); have h9 := zc_nat p5 (by show 0 ≤ p5.toInt; omega); have h8 : ((p2).toNatClampNeg : Int) = p2.toInt := h8; have h9 : ((p5).toNatClampNeg : Int) = p5.toInt := h9; omega) (by have h8 := zc_nat p4 (by show 0 ≤ p4.toInt; omega); have h9 := zc_nat p5 (by show 0 ≤ p5.toInt; omega); have h8 : ((p4).toNatClampNeg : Int) = p4.toInt := h8; have h9 : ((p5).toNatClampNeg : Int) = p5.toInt := h9; omega) (fun _ _ => rfl) (Nat.le_of_ble_eq_true rfl) (Nat.le_of_ble_eq_true rfl) dX11_paste_109 (fun H locs hP hD hS => ?_)
                        obtain ⟨fz116, efz116, hP, hD⟩ : ∃ fz116 : Nat → Int64, fz116 = va_cpy (lL0 0) (lL2 0) p2.toNatClampNeg p4.toNatClampNeg p5.toNatClampNeg ∧ va_P (dC, dI) vwCl (List.flatten [(wSlot qL0 k vL0 sL0 lL0), (wSlot qL1 k vL1 sL1 lL1), (wSlot qL2 k vL2 sL2 (va_up lL2 0 fz116)), (wSlot qL3 k vL3 sL3 lL3)] ++ List.flatten [(wSag qX k tapeX toldX actsX nowX trialX storyX attemptX orderSearchX routeSearchX setSearchX probeX (qL0 0) (qL1 0) (qL2 0) (qL3 0) image0X image1X image2X aX)]) H ∧ va_D A (List.flatten [(wSlot qL0 k vL0 sL0 lL0), (wSlot qL1 k vL1 sL1 lL1), (wSlot qL2 k vL2 sL2 (va_up lL2 0 fz116)), (wSlot qL3 k vL3 sL3 lL3)] ++ List.flatten [(wSag qX k tapeX toldX actsX nowX trialX storyX attemptX orderSearchX routeSearchX setSearchX probeX (qL0 0) (qL1 0) (qL2 0) (qL3 0) image0X image1X image2X aX)]) := ⟨_, rfl, hP, hD⟩
                        refine lv_iconst (v := 0) hx hb dX11_paste_112 (by decide) ?_
                        rw [hQ]
                        exact W.iret (v := (0 : Int32)) hx hb hr (fun t ht hW => ⟨⟨(0 : Int32), (), rfl, trivial, vL0, sL0, lL0, vL1, sL1, lL1, vL2, sL2, (va_up lL2 0 fz116), vL3, sL3, lL3, hsL0, hsL1, hsL2, hsL3, by rw [ht]; exact hP⟩, hS.F ht⟩) hS.2.2 dX11_paste_113
                      · skip
                        have zz117 : rz110.toInt = (0 : Int) := zi_eq.mp cz114
                        refine lv_bipush (v := (-7)) hx hb dX11_paste_91 (by decide) ?_
                        rw [hQ]
                        exact W.iret (v := (-7 : Int32)) hx hb hr (fun t ht hW => ⟨⟨(-7 : Int32), (), rfl, trivial, vL0, sL0, lL0, vL1, sL1, lL1, vL2, sL2, lL2, vL3, sL3, lL3, hsL0, hsL1, hsL2, hsL3, by rw [ht]; exact hP⟩, hS.F ht⟩) hS.2.2 dX11_paste_93
                  · skip
                    have zz118 : ¬ (vL0 1).toInt = (vL2 1).toInt := fun h9 => cz99 (zi_eq.mpr h9)
                    refine lv_bipush (v := (-8)) hx hb dX11_paste_65 (by decide) ?_
                    rw [hQ]
                    exact W.iret (v := (-8 : Int32)) hx hb hr (fun t ht hW => ⟨⟨(-8 : Int32), (), rfl, trivial, vL0, sL0, lL0, vL1, sL1, lL1, vL2, sL2, lL2, vL3, sL3, lL3, hsL0, hsL1, hsL2, hsL3, by rw [ht]; exact hP⟩, hS.F ht⟩) hS.2.2 dX11_paste_67
                · skip
                  have zz119 : (vL2 0).toInt = (0 : Int) := zi_eq.mp cz97
                  refine lv_bipush (v := (-6)) hx hb dX11_paste_49 (by decide) ?_
                  rw [hQ]
                  exact W.iret (v := (-6 : Int32)) hx hb hr (fun t ht hW => ⟨⟨(-6 : Int32), (), rfl, trivial, vL0, sL0, lL0, vL1, sL1, lL1, vL2, sL2, lL2, vL3, sL3, lL3, hsL0, hsL1, hsL2, hsL3, by rw [ht]; exact hP⟩, hS.F ht⟩) hS.2.2 dX11_paste_51
            · skip
              have zz120 : p3.toInt = (3 : Int) := zi_eq.mp cz39
              refine W.eq (g2 := F0 m 30 ls [.int 3, .ref (qX 3)]) (by rw [cz39]) ?_
              refine va_aldq hx hb hK hP 11 6 rfl rfl (by unfold vp_in; decide) dX11_paste_30 ?_
              refine W.eq (g2 := F0 m 31 ls [.ref (qL3 0)]) rfl ?_
              refine lv_astore (lv' := [(7, .ref (qL3 0)), (6, .ref (qL0 0)), (0, .ref (qX 0)), (1, .int p1), (2, .int p2), (3, .int p3), (4, .int p4), (5, .int p5)]) hx hb dX11_paste_31 hl (by decide) rfl (fun ls hl => ?_)
              refine lv_aload hx hb dX11_paste_33 (lv_at hl 1 rfl) ?_
              refine va_get (D := (dC, dI)) (ci := 6) (v := .int (vL0 0)) (C := RX6) (T := TX6) (N := 4) hx hb hts (fun w h => List.mem_cons_of_mem _ (List.mem_append_right _ (List.mem_append_right _ (List.mem_append_right _ (List.mem_append_left _ h))))) hown hK hP 0 rfl rfl 1 (by decide) (hts (.fieldLink RX11 386 "SagMemory$Slot" "has" "Z") (wl_mem 4 rfl)) (fun _ h9 => h9) rfl dX11_paste_35 ?_
              refine lv_if_eq (tgt := 49) hx hb dX11_paste_38 (by decide) (fun cz121 => ?_) (fun cz121 => ?_)
              · skip
                have zz122 : (vL0 0).toInt = (0 : Int) := zi_eq.mp cz121
                refine lv_bipush (v := (-6)) hx hb dX11_paste_49 (by decide) ?_
                rw [hQ]
                exact W.iret (v := (-6 : Int32)) hx hb hr (fun t ht hW => ⟨⟨(-6 : Int32), (), rfl, trivial, vL0, sL0, lL0, vL1, sL1, lL1, vL2, sL2, lL2, vL3, sL3, lL3, hsL0, hsL1, hsL2, hsL3, by rw [ht]; exact hP⟩, hS.F ht⟩) hS.2.2 dX11_paste_51
              · skip
                have zz123 : ¬ (vL0 0).toInt = (0 : Int) := fun h9 => cz121 (zi_eq.mpr h9)
                refine lv_aload hx hb dX11_paste_41 (lv_at hl 0 rfl) ?_
                refine va_get (D := (dC, dI)) (ci := 6) (v := .int (vL3 0)) (C := RX6) (T := TX6) (N := 4) hx hb hts (fun w h => List.mem_cons_of_mem _ (List.mem_append_right _ (List.mem_append_right _ (List.mem_append_right _ (List.mem_append_left _ h))))) hown hK hP 6 rfl rfl 1 (by decide) (hts (.fieldLink RX11 386 "SagMemory$Slot" "has" "Z") (wl_mem 4 rfl)) (fun _ h9 => h9) rfl dX11_paste_43 ?_
                refine lv_if_ne (tgt := 52) hx hb dX11_paste_46 (by decide) (fun cz124 => ?_) (fun cz124 => ?_)
                · skip
                  have zz125 : ¬ (vL3 0).toInt = (0 : Int) := fun h9 => cz124 (zi_eq.mpr h9)
                  refine lv_aload hx hb dX11_paste_52 (lv_at hl 1 rfl) ?_
                  refine va_get (D := (dC, dI)) (ci := 6) (v := .int (vL0 1)) (C := RX6) (T := TX6) (N := 4) hx hb hts (fun w h => List.mem_cons_of_mem _ (List.mem_append_right _ (List.mem_append_right _ (List.mem_append_right _ (List.mem_append_left _ h))))) hown hK hP 0 rfl rfl 2 (by decide) (hts (.fieldLink RX11 396 "SagMemory$Slot" "width" "I") (wl_mem 5 rfl)) (fun _ h9 => h9) rfl dX11_paste_54 ?_
                  refine lv_aload hx hb dX11_paste_57 (lv_at hl 0 rfl) ?_
                  refine va_get (D := (dC, dI)) (ci := 6) (v := .int (vL3 1)) (C := RX6) (T := TX6) (N := 4) hx hb hts (fun w h => List.mem_cons_of_mem _ (List.mem_append_right _ (List.mem_append_right _ (List.mem_append_right _ (List.mem_append_left _ h))))) hown hK hP 6 rfl rfl 2 (by decide) (hts (.fieldLink RX11 396 "SagMemory$Slot" "width" "I") (wl_mem 5 rfl)) (fun _ h9 => h9) rfl dX11_paste_59 ?_
                  refine lv_icmp_eq (tgt := 68) hx hb dX11_paste_62 (by decide) (fun cz126 => ?_) (fun cz126 => ?_)
                  · skip
                    have zz127 : (vL0 1).toInt = (vL3 1).toInt := zi_eq.mp cz126
                    refine lv_aload hx hb dX11_paste_68 (lv_at hl 1 rfl) ?_
                    refine lv_iload_n hx hb dX11_paste_70 rfl (lv_at hl 4 rfl) ?_
                    refine lv_iload hx hb dX11_paste_71 (lv_at hl 7 rfl) ?_
                    have hPc := hP.sub (ws' := (List.flatten [(wSlot qL0 k vL0 sL0 lL0)])) [0, 1] rfl
                    refine vp_callSi (va_Run.run (va_runV (As := [.int p2, .int p5]) (rest := []) ⟨hx, hb, hml, hown, hts⟩ (c_X6_spans l dC dI k qL0 vL0 sL0 lL0 p2 p5 hsL0) (cwV 2 hts (gk_V (wl_mem 6 rfl) (wl_mem 7 rfl) (wl_mem 8 rfl) (wl_mem 9 rfl) (fun w h => List.mem_cons_of_mem _ (List.mem_append_right _ (List.mem_append_right _ (List.mem_append_right _ (List.mem_append_right _ (List.mem_append_left _ h)))))) wkg_c_X6_spans) rfl rfl rfl (by decide +kernel) ⟨Nat.le_of_ble_eq_true rfl, Nat.le_of_ble_eq_true rfl⟩) ⟨fun a U g mk q => by obtain ⟨q0, qP, qK⟩ := q; exact ⟨q0, qP, va_K.moved (u := U) (U := U.calling g mk a) (Vm.Alike.refl U.vm) qK⟩, va_recv hK hPc (ci := 6) (q0 := 0) rfl rfl, fun U hU hW => ⟨rfl, by rw [hU]; exact hPc, va_K.moved hW.alike hK⟩⟩ rfl rfl hl.1 rfl (lv_room (Nat.le_of_ble_eq_true rfl)) dX11_paste_73 ⟨Nat.le_of_ble_eq_true rfl, Nat.le_of_ble_eq_true rfl⟩)) (fun rz129 gz128 => ?_)
                    clear hPc
                    obtain ⟨pz130, pz131⟩ := gz128
                    have pz130 : rz129.toInt = 0 ∨ (0 ≤ p2.toInt ∧ 0 ≤ p5.toInt ∧ p2.toInt + p5.toInt ≤ (sL0 0).toInt) := pz130
                    have pz131 : rz129.toInt = 0 ∨ rz129.toInt = 1 := pz131
                    have bz132 := hsL0 0
                    refine lv_if_eq (tgt := 91) hx hb dX11_paste_76 (by decide) (fun cz133 => ?_) (fun cz133 => ?_)
                    · skip
                      have zz134 : rz129.toInt = (0 : Int) := zi_eq.mp cz133
                      refine lv_bipush (v := (-7)) hx hb dX11_paste_91 (by decide) ?_
                      rw [hQ]
                      exact W.iret (v := (-7 : Int32)) hx hb hr (fun t ht hW => ⟨⟨(-7 : Int32), (), rfl, trivial, vL0, sL0, lL0, vL1, sL1, lL1, vL2, sL2, lL2, vL3, sL3, lL3, hsL0, hsL1, hsL2, hsL3, by rw [ht]; exact hP⟩, hS.F ht⟩) hS.2.2 dX11_paste_93
                    · skip
                      have zz135 : ¬ rz129.toInt = (0 : Int) := fun h9 => cz133 (zi_eq.mpr h9)
                      refine lv_aload hx hb dX11_paste_79 (lv_at hl 0 rfl) ?_
                      refine lv_iload hx hb dX11_paste_81 (lv_at hl 6 rfl) ?_
                      refine lv_iload hx hb dX11_paste_83 (lv_at hl 7 rfl) ?_
                      have hPc := hP.sub (ws' := (List.flatten [(wSlot qL3 k vL3 sL3 lL3)])) [6, 7] rfl
                      refine vp_callSi (va_Run.run (va_runV (As := [.int p4, .int p5]) (rest := []) ⟨hx, hb, hml, hown, hts⟩ (c_X6_spans l dC dI k qL3 vL3 sL3 lL3 p4 p5 hsL3) (cwV 2 hts (gk_V (wl_mem 6 rfl) (wl_mem 7 rfl) (wl_mem 8 rfl) (wl_mem 9 rfl) (fun w h => List.mem_cons_of_mem _ (List.mem_append_right _ (List.mem_append_right _ (List.mem_append_right _ (List.mem_append_right _ (List.mem_append_left _ h)))))) wkg_c_X6_spans) rfl rfl rfl (by decide +kernel) ⟨Nat.le_of_ble_eq_true rfl, Nat.le_of_ble_eq_true rfl⟩) ⟨fun a U g mk q => by obtain ⟨q0, qP, qK⟩ := q; exact ⟨q0, qP, va_K.moved (u := U) (U := U.calling g mk a) (Vm.Alike.refl U.vm) qK⟩, va_recv hK hPc (ci := 6) (q0 := 0) rfl rfl, fun U hU hW => ⟨rfl, by rw [hU]; exact hPc, va_K.moved hW.alike hK⟩⟩ rfl rfl hl.1 rfl (lv_room (Nat.le_of_ble_eq_true rfl)) dX11_paste_85 ⟨Nat.le_of_ble_eq_true rfl, Nat.le_of_ble_eq_true rfl⟩)) (fun rz137 gz136 => ?_)
                      clear hPc
                      obtain ⟨pz138, pz139⟩ := gz136
                      have pz138 : rz137.toInt = 0 ∨ (0 ≤ p4.toInt ∧ 0 ≤ p5.toInt ∧ p4.toInt + p5.toInt ≤ (sL3 0).toInt) := pz138
                      have pz139 : rz137.toInt = 0 ∨ rz137.toInt = 1 := pz139
                      have bz140 := hsL3 0
                      refine lv_if_ne (tgt := 94) hx hb dX11_paste_88 (by decide) (fun cz141 => ?_) (fun cz141 => ?_)
                      · skip
                        have zz142 : ¬ rz137.toInt = (0 : Int) := fun h9 => cz141 (zi_eq.mpr h9)
                        refine lv_aload hx hb dX11_paste_94 (lv_at hl 1 rfl) ?_
                        refine va_get (D := (dC, dI)) (ci := 6) (v := .ref (qL0 1)) (C := RX6) (T := TX6) (N := 4) hx hb hts (fun w h => List.mem_cons_of_mem _ (List.mem_append_right _ (List.mem_append_right _ (List.mem_append_right _ (List.mem_append_left _ h))))) hown hK hP 0 rfl rfl 0 (by decide) (hts (.fieldLink RX11 388 "SagMemory$Slot" "numbers" "[J") (wl_mem 10 rfl)) (fun _ h9 => h9) rfl dX11_paste_96 ?_
                        refine lv_iload_n hx hb dX11_paste_99 rfl (lv_at hl 4 rfl) ?_
                        refine lv_aload hx hb dX11_paste_100 (lv_at hl 0 rfl) ?_
                        refine va_get (D := (dC, dI)) (ci := 6) (v := .ref (qL3 1)) (C := RX6) (T := TX6) (N := 4) hx hb hts (fun w h => List.mem_cons_of_mem _ (List.mem_append_right _ (List.mem_append_right _ (List.mem_append_right _ (List.mem_append_left _ h))))) hown hK hP 6 rfl rfl 0 (by decide) (hts (.fieldLink RX11 388 "SagMemory$Slot" "numbers" "[J") (wl_mem 10 rfl)) (fun _ h9 => h9) rfl dX11_paste_102 ?_
                        refine lv_iload hx hb dX11_paste_105 (lv_at hl 6 rfl) ?_
                        refine lv_iload hx hb dX11_paste_107 (lv_at hl 7 rfl) ?_
                        refine va_copyl (ty := .long) hx hb (by rw [hml]; exact hl.1.symm) hown (hts (.methodLink RX11 402 arraycopyName) (wl_mem 11 rfl)) (hts (.native arraycopyName) (wl_mem 12 rfl)) (hts (.static arraycopyName) (wl_mem 13 rfl)) (hts (.initialized "java/lang/System") (wl_mem 14 rfl)) hK hP hD hS 1 7 1 1 rfl rfl rfl rfl rfl (fun h9 => by have h8 := zi_lt.mp h9; have h8 : p2.toInt < (0 : Int) := h8; omega) (fun h9 => by have h8 := zi_lt.mp h9; have h8 : p4.toInt < (0 : Int) := h8; omega) (fun h9 => by have h8 := zi_lt.mp h9; have h8 : p5.toInt < (0 : Int) := h8; omega) (by have h8 := zc_nat p2 (by show 0 ≤ p2.toInt; omega); have h9 := zc_nat p5 (by show 0 ≤ p5.toInt; omega); have h8 : ((p2).toNatClampNeg : Int) = p2.toInt := h8; have h9 : ((p5).toNatClampNeg : Int) = p5.toInt := h9; omega) (by have h8 := zc_nat p4 (by show 0 ≤ p4.toInt; omega); have h9 := zc_nat p5 (by show 0 ≤ p5.toInt; omega); have h8 : ((p4).toNatClampNeg : Int) = p4.toInt := h8; have h9 : ((p5).toNatClampNeg : Int) = p5.toInt := h9; omega) (fun _ _ => rfl) (Nat.le_of_ble_eq_true rfl) (Nat.le_of_ble_eq_true rfl) dX11_paste_109 (fun H locs hP hD hS => ?_)
                        obtain ⟨fz143, efz143, hP, hD⟩ : ∃ fz143 : Nat → Int64, fz143 = va_cpy (lL0 0) (lL3 0) p2.toNatClampNeg p4.toNatClampNeg p5.toNatClampNeg ∧ va_P (dC, dI) vwCl (List.flatten [(wSlot qL0 k vL0 sL0 lL0), (wSlot qL1 k vL1 sL1 lL1), (wSlot qL2 k vL2 sL2 lL2), (wSlot qL3 k vL3 sL3 (va_up lL3 0 fz143))] ++ List.flatten [(wSag qX k tapeX toldX actsX nowX trialX storyX attemptX orderSearchX routeSearchX setSearchX probeX (qL0 0) (qL1 0) (qL2 0) (qL3 0) image0X image1X image2X aX)]) H ∧ va_D A (List.flatten [(wSlot qL0 k vL0 sL0 lL0), (wSlot qL1 k vL1 sL1 lL1), (wSlot qL2 k vL2 sL2 lL2), (wSlot qL3 k vL3 sL3 (va_up lL3 0 fz143))] ++ List.flatten [(wSag qX k tapeX toldX actsX nowX trialX storyX attemptX orderSearchX routeSearchX setSearchX probeX (qL0 0) (qL1 0) (qL2 0) (qL3 0) image0X image1X image2X aX)]) := ⟨_, rfl, hP, hD⟩
                        refine lv_iconst (v := 0) hx hb dX11_paste_112 (by decide) ?_
                        rw [hQ]
                        exact W.iret (v := (0 : Int32)) hx hb hr (fun t ht hW => ⟨⟨(0 : Int32), (), rfl, trivial, vL0, sL0, lL0, vL1, sL1, lL1, vL2, sL2, lL2, vL3, sL3, (va_up lL3 0 fz143), hsL0, hsL1, hsL2, hsL3, by rw [ht]; exact hP⟩, hS.F ht⟩) hS.2.2 dX11_paste_113
                      · skip
                        have zz144 : rz137.toInt = (0 : Int) := zi_eq.mp cz141
                        refine lv_bipush (v := (-7)) hx hb dX11_paste_91 (by decide) ?_
                        rw [hQ]
                        exact W.iret (v := (-7 : Int32)) hx hb hr (fun t ht hW => ⟨⟨(-7 : Int32), (), rfl, trivial, vL0, sL0, lL0, vL1, sL1, lL1, vL2, sL2, lL2, vL3, sL3, lL3, hsL0, hsL1, hsL2, hsL3, by rw [ht]; exact hP⟩, hS.F ht⟩) hS.2.2 dX11_paste_93
                  · skip
                    have zz145 : ¬ (vL0 1).toInt = (vL3 1).toInt := fun h9 => cz126 (zi_eq.mpr h9)
                    refine lv_bipush (v := (-8)) hx hb dX11_paste_65 (by decide) ?_
                    rw [hQ]
                    exact W.iret (v := (-8 : Int32)) hx hb hr (fun t ht hW => ⟨⟨(-8 : Int32), (), rfl, trivial, vL0, sL0, lL0, vL1, sL1, lL1, vL2, sL2, lL2, vL3, sL3, lL3, hsL0, hsL1, hsL2, hsL3, by rw [ht]; exact hP⟩, hS.F ht⟩) hS.2.2 dX11_paste_67
                · skip
                  have zz146 : (vL3 0).toInt = (0 : Int) := zi_eq.mp cz124
                  refine lv_bipush (v := (-6)) hx hb dX11_paste_49 (by decide) ?_
                  rw [hQ]
                  exact W.iret (v := (-6 : Int32)) hx hb hr (fun t ht hW => ⟨⟨(-6 : Int32), (), rfl, trivial, vL0, sL0, lL0, vL1, sL1, lL1, vL2, sL2, lL2, vL3, sL3, lL3, hsL0, hsL1, hsL2, hsL3, by rw [ht]; exact hP⟩, hS.F ht⟩) hS.2.2 dX11_paste_51
          · skip
            have zz147 : p1.toInt = (1 : Int) := zi_eq.mp cz37
            refine W.eq (g2 := F0 m 22 ls [.int 1, .ref (qX 3)]) (by rw [cz37]) ?_
            refine va_aldq hx hb hK hP 11 6 rfl rfl (by unfold vp_in; decide) dX11_paste_22 ?_
            refine W.eq (g2 := F0 m 23 ls [.ref (qL1 0)]) rfl ?_
            refine lv_astore (lv' := [(6, .ref (qL1 0)), (0, .ref (qX 0)), (1, .int p1), (2, .int p2), (3, .int p3), (4, .int p4), (5, .int p5)]) hx hb dX11_paste_23 hl (by decide) rfl (fun ls hl => ?_)
            refine lv_aload_n hx hb dX11_paste_25 rfl (lv_at hl 1 rfl) ?_
            refine va_get (D := (dC, dI)) (ci := 11) (v := .ref (qX 3)) (C := RX11) (T := TX11) (N := 15) hx hb hts (fun w h => List.mem_cons_of_mem _ (List.mem_append_right _ (List.mem_append_right _ (List.mem_append_left _ h)))) hown hK hP 8 rfl rfl 13 (by decide) (hts (.fieldLink RX11 85 "SagMemory" "slots" "[LSagMemory$Slot;") (wl_mem 3 rfl)) (fun _ h9 => h9) rfl dX11_paste_26 ?_
            refine lv_iload_n hx hb dX11_paste_29 rfl (lv_at hl 4 rfl) ?_
            rcases (show p3 = 0 ∨ p3 = 1 ∨ p3 = 2 ∨ p3 = 3 by simp only [zi_eq]; show p3.toInt = 0 ∨ p3.toInt = 1 ∨ p3.toInt = 2 ∨ p3.toInt = 3; omega) with cz148 | cz148 | cz148 | cz148
            · skip
              have zz149 : p3.toInt = (0 : Int) := zi_eq.mp cz148
              refine W.eq (g2 := F0 m 30 ls [.int 0, .ref (qX 3)]) (by rw [cz148]) ?_
              refine va_aldq hx hb hK hP 11 6 rfl rfl (by unfold vp_in; decide) dX11_paste_30 ?_
              refine W.eq (g2 := F0 m 31 ls [.ref (qL0 0)]) rfl ?_
              refine lv_astore (lv' := [(7, .ref (qL0 0)), (6, .ref (qL1 0)), (0, .ref (qX 0)), (1, .int p1), (2, .int p2), (3, .int p3), (4, .int p4), (5, .int p5)]) hx hb dX11_paste_31 hl (by decide) rfl (fun ls hl => ?_)
              refine lv_aload hx hb dX11_paste_33 (lv_at hl 1 rfl) ?_
              refine va_get (D := (dC, dI)) (ci := 6) (v := .int (vL1 0)) (C := RX6) (T := TX6) (N := 4) hx hb hts (fun w h => List.mem_cons_of_mem _ (List.mem_append_right _ (List.mem_append_right _ (List.mem_append_right _ (List.mem_append_left _ h))))) hown hK hP 2 rfl rfl 1 (by decide) (hts (.fieldLink RX11 386 "SagMemory$Slot" "has" "Z") (wl_mem 4 rfl)) (fun _ h9 => h9) rfl dX11_paste_35 ?_
              refine lv_if_eq (tgt := 49) hx hb dX11_paste_38 (by decide) (fun cz150 => ?_) (fun cz150 => ?_)
              · skip
                have zz151 : (vL1 0).toInt = (0 : Int) := zi_eq.mp cz150
                refine lv_bipush (v := (-6)) hx hb dX11_paste_49 (by decide) ?_
                rw [hQ]
                exact W.iret (v := (-6 : Int32)) hx hb hr (fun t ht hW => ⟨⟨(-6 : Int32), (), rfl, trivial, vL0, sL0, lL0, vL1, sL1, lL1, vL2, sL2, lL2, vL3, sL3, lL3, hsL0, hsL1, hsL2, hsL3, by rw [ht]; exact hP⟩, hS.F ht⟩) hS.2.2 dX11_paste_51
              · skip
                have zz152 : ¬ (vL1 0).toInt = (0 : Int) := fun h9 => cz150 (zi_eq.mpr h9)
                refine lv_aload hx hb dX11_paste_41 (lv_at hl 0 rfl) ?_
                refine va_get (D := (dC, dI)) (ci := 6) (v := .int (vL0 0)) (C := RX6) (T := TX6) (N := 4) hx hb hts (fun w h => List.mem_cons_of_mem _ (List.mem_append_right _ (List.mem_append_right _ (List.mem_append_right _ (List.mem_append_left _ h))))) hown hK hP 0 rfl rfl 1 (by decide) (hts (.fieldLink RX11 386 "SagMemory$Slot" "has" "Z") (wl_mem 4 rfl)) (fun _ h9 => h9) rfl dX11_paste_43 ?_
                refine lv_if_ne (tgt := 52) hx hb dX11_paste_46 (by decide) (fun cz153 => ?_) (fun cz153 => ?_)
                · skip
                  have zz154 : ¬ (vL0 0).toInt = (0 : Int) := fun h9 => cz153 (zi_eq.mpr h9)
                  refine lv_aload hx hb dX11_paste_52 (lv_at hl 1 rfl) ?_
                  refine va_get (D := (dC, dI)) (ci := 6) (v := .int (vL1 1)) (C := RX6) (T := TX6) (N := 4) hx hb hts (fun w h => List.mem_cons_of_mem _ (List.mem_append_right _ (List.mem_append_right _ (List.mem_append_right _ (List.mem_append_left _ h))))) hown hK hP 2 rfl rfl 2 (by decide) (hts (.fieldLink RX11 396 "SagMemory$Slot" "width" "I") (wl_mem 5 rfl)) (fun _ h9 => h9) rfl dX11_paste_54 ?_
                  refine lv_aload hx hb dX11_paste_57 (lv_at hl 0 rfl) ?_
                  refine va_get (D := (dC, dI)) (ci := 6) (v := .int (vL0 1)) (C := RX6) (T := TX6) (N := 4) hx hb hts (fun w h => List.mem_cons_of_mem _ (List.mem_append_right _ (List.mem_append_right _ (List.mem_append_right _ (List.mem_append_left _ h))))) hown hK hP 0 rfl rfl 2 (by decide) (hts (.fieldLink RX11 396 "SagMemory$Slot" "width" "I") (wl_mem 5 rfl)) (fun _ h9 => h9) rfl dX11_paste_59 ?_
                  refine lv_icmp_eq (tgt := 68) hx hb dX11_paste_62 (by decide) (fun cz155 => ?_) (fun cz155 => ?_)
                  · skip
                    have zz156 : (vL1 1).toInt = (vL0 1).toInt := zi_eq.mp cz155
                    refine lv_aload hx hb dX11_paste_68 (lv_at hl 1 rfl) ?_
                    refine lv_iload_n hx hb dX11_paste_70 rfl (lv_at hl 4 rfl) ?_
                    refine lv_iload hx hb dX11_paste_71 (lv_at hl 7 rfl) ?_
                    have hPc := hP.sub (ws' := (List.flatten [(wSlot qL1 k vL1 sL1 lL1)])) [2, 3] rfl
                    refine vp_callSi (va_Run.run (va_runV (As := [.int p2, .int p5]) (rest := []) ⟨hx, hb, hml, hown, hts⟩ (c_X6_spans l dC dI k qL1 vL1 sL1 lL1 p2 p5 hsL1) (cwV 2 hts (gk_V (wl_mem 6 rfl) (wl_mem 7 rfl) (wl_mem 8 rfl) (wl_mem 9 rfl) (fun w h => List.mem_cons_of_mem _ (List.mem_append_right _ (List.mem_append_right _ (List.mem_append_right _ (List.mem_append_right _ (List.mem_append_left _ h)))))) wkg_c_X6_spans) rfl rfl rfl (by decide +kernel) ⟨Nat.le_of_ble_eq_true rfl, Nat.le_of_ble_eq_true rfl⟩) ⟨fun a U g mk q => by obtain ⟨q0, qP, qK⟩ := q; exact ⟨q0, qP, va_K.moved (u := U) (U := U.calling g mk a) (Vm.Alike.refl U.vm) qK⟩, va_recv hK hPc (ci := 6) (q0 := 0) rfl rfl, fun U hU hW => ⟨rfl, by rw [hU]; exact hPc, va_K.moved hW.alike hK⟩⟩ rfl rfl hl.1 rfl (lv_room (Nat.le_of_ble_eq_true rfl)) dX11_paste_73 ⟨Nat.le_of_ble_eq_true rfl, Nat.le_of_ble_eq_true rfl⟩)) (fun rz158 gz157 => ?_)
                    clear hPc
                    obtain ⟨pz159, pz160⟩ := gz157
                    have pz159 : rz158.toInt = 0 ∨ (0 ≤ p2.toInt ∧ 0 ≤ p5.toInt ∧ p2.toInt + p5.toInt ≤ (sL1 0).toInt) := pz159
                    have pz160 : rz158.toInt = 0 ∨ rz158.toInt = 1 := pz160
                    have bz161 := hsL1 0
                    refine lv_if_eq (tgt := 91) hx hb dX11_paste_76 (by decide) (fun cz162 => ?_) (fun cz162 => ?_)
                    · skip
                      have zz163 : rz158.toInt = (0 : Int) := zi_eq.mp cz162
                      refine lv_bipush (v := (-7)) hx hb dX11_paste_91 (by decide) ?_
                      rw [hQ]
                      exact W.iret (v := (-7 : Int32)) hx hb hr (fun t ht hW => ⟨⟨(-7 : Int32), (), rfl, trivial, vL0, sL0, lL0, vL1, sL1, lL1, vL2, sL2, lL2, vL3, sL3, lL3, hsL0, hsL1, hsL2, hsL3, by rw [ht]; exact hP⟩, hS.F ht⟩) hS.2.2 dX11_paste_93
                    · skip
                      have zz164 : ¬ rz158.toInt = (0 : Int) := fun h9 => cz162 (zi_eq.mpr h9)
                      refine lv_aload hx hb dX11_paste_79 (lv_at hl 0 rfl) ?_
                      refine lv_iload hx hb dX11_paste_81 (lv_at hl 6 rfl) ?_
                      refine lv_iload hx hb dX11_paste_83 (lv_at hl 7 rfl) ?_
                      have hPc := hP.sub (ws' := (List.flatten [(wSlot qL0 k vL0 sL0 lL0)])) [0, 1] rfl
                      refine vp_callSi (va_Run.run (va_runV (As := [.int p4, .int p5]) (rest := []) ⟨hx, hb, hml, hown, hts⟩ (c_X6_spans l dC dI k qL0 vL0 sL0 lL0 p4 p5 hsL0) (cwV 2 hts (gk_V (wl_mem 6 rfl) (wl_mem 7 rfl) (wl_mem 8 rfl) (wl_mem 9 rfl) (fun w h => List.mem_cons_of_mem _ (List.mem_append_right _ (List.mem_append_right _ (List.mem_append_right _ (List.mem_append_right _ (List.mem_append_left _ h)))))) wkg_c_X6_spans) rfl rfl rfl (by decide +kernel) ⟨Nat.le_of_ble_eq_true rfl, Nat.le_of_ble_eq_true rfl⟩) ⟨fun a U g mk q => by obtain ⟨q0, qP, qK⟩ := q; exact ⟨q0, qP, va_K.moved (u := U) (U := U.calling g mk a) (Vm.Alike.refl U.vm) qK⟩, va_recv hK hPc (ci := 6) (q0 := 0) rfl rfl, fun U hU hW => ⟨rfl, by rw [hU]; exact hPc, va_K.moved hW.alike hK⟩⟩ rfl rfl hl.1 rfl (lv_room (Nat.le_of_ble_eq_true rfl)) dX11_paste_85 ⟨Nat.le_of_ble_eq_true rfl, Nat.le_of_ble_eq_true rfl⟩)) (fun rz166 gz165 => ?_)
                      clear hPc
                      obtain ⟨pz167, pz168⟩ := gz165
                      have pz167 : rz166.toInt = 0 ∨ (0 ≤ p4.toInt ∧ 0 ≤ p5.toInt ∧ p4.toInt + p5.toInt ≤ (sL0 0).toInt) := pz167
                      have pz168 : rz166.toInt = 0 ∨ rz166.toInt = 1 := pz168
                      have bz169 := hsL0 0
                      refine lv_if_ne (tgt := 94) hx hb dX11_paste_88 (by decide) (fun cz170 => ?_) (fun cz170 => ?_)
                      · skip
                        have zz171 : ¬ rz166.toInt = (0 : Int) := fun h9 => cz170 (zi_eq.mpr h9)
                        refine lv_aload hx hb dX11_paste_94 (lv_at hl 1 rfl) ?_
                        refine va_get (D := (dC, dI)) (ci := 6) (v := .ref (qL1 1)) (C := RX6) (T := TX6) (N := 4) hx hb hts (fun w h => List.mem_cons_of_mem _ (List.mem_append_right _ (List.mem_append_right _ (List.mem_append_right _ (List.mem_append_left _ h))))) hown hK hP 2 rfl rfl 0 (by decide) (hts (.fieldLink RX11 388 "SagMemory$Slot" "numbers" "[J") (wl_mem 10 rfl)) (fun _ h9 => h9) rfl dX11_paste_96 ?_
                        refine lv_iload_n hx hb dX11_paste_99 rfl (lv_at hl 4 rfl) ?_
                        refine lv_aload hx hb dX11_paste_100 (lv_at hl 0 rfl) ?_
                        refine va_get (D := (dC, dI)) (ci := 6) (v := .ref (qL0 1)) (C := RX6) (T := TX6) (N := 4) hx hb hts (fun w h => List.mem_cons_of_mem _ (List.mem_append_right _ (List.mem_append_right _ (List.mem_append_right _ (List.mem_append_left _ h))))) hown hK hP 0 rfl rfl 0 (by decide) (hts (.fieldLink RX11 388 "SagMemory$Slot" "numbers" "[J") (wl_mem 10 rfl)) (fun _ h9 => h9) rfl dX11_paste_102 ?_
                        refine lv_iload hx hb dX11_paste_105 (lv_at hl 6 rfl) ?_
                        refine lv_iload hx hb dX11_paste_107 (lv_at hl 7 rfl) ?_
                        refine va_copyl (ty := .long) hx hb (by rw [hml]; exact hl.1.symm) hown (hts (.methodLink RX11 402 arraycopyName) (wl_mem 11 rfl)) (hts (.native arraycopyName) (wl_mem 12 rfl)) (hts (.static arraycopyName) (wl_mem 13 rfl)) (hts (.initialized "java/lang/System") (wl_mem 14 rfl)) hK hP hD hS 3 1 1 1 rfl rfl rfl rfl rfl (fun h9 => by have h8 := zi_lt.mp h9; have h8 : p2.toInt < (0 : Int) := h8; omega) (fun h9 => by have h8 := zi_lt.mp h9; have h8 : p4.toInt < (0 : Int) := h8; omega) (fun h9 => by have h8 := zi_lt.mp h9; have h8 : p5.toInt < (0 : Int) := h8; omega) (by have h8 := zc_nat p2 (by show 0 ≤ p2.toInt; omega); have h9 := zc_nat p5 (by show 0 ≤ p5.toInt; omega); have h8 : ((p2).toNatClampNeg : Int) = p2.toInt := h8; have h9 : ((p5).toNatClampNeg : Int) = p5.toInt := h9; omega) (by have h8 := zc_nat p4 (by show 0 ≤ p4.toInt; omega); have h9 := zc_nat p5 (by show 0 ≤ p5.toInt; omega); have h8 : ((p4).toNatClampNeg : Int) = p4.toInt := h8; have h9 : ((p5).toNatClampNeg : Int) = p5.toInt := h9; omega) (fun _ _ => rfl) (Nat.le_of_ble_eq_true rfl) (Nat.le_of_ble_eq_true rfl) dX11_paste_109 (fun H locs hP hD hS => ?_)
                        obtain ⟨fz172, efz172, hP, hD⟩ : ∃ fz172 : Nat → Int64, fz172 = va_cpy (lL1 0) (lL0 0) p2.toNatClampNeg p4.toNatClampNeg p5.toNatClampNeg ∧ va_P (dC, dI) vwCl (List.flatten [(wSlot qL0 k vL0 sL0 (va_up lL0 0 fz172)), (wSlot qL1 k vL1 sL1 lL1), (wSlot qL2 k vL2 sL2 lL2), (wSlot qL3 k vL3 sL3 lL3)] ++ List.flatten [(wSag qX k tapeX toldX actsX nowX trialX storyX attemptX orderSearchX routeSearchX setSearchX probeX (qL0 0) (qL1 0) (qL2 0) (qL3 0) image0X image1X image2X aX)]) H ∧ va_D A (List.flatten [(wSlot qL0 k vL0 sL0 (va_up lL0 0 fz172)), (wSlot qL1 k vL1 sL1 lL1), (wSlot qL2 k vL2 sL2 lL2), (wSlot qL3 k vL3 sL3 lL3)] ++ List.flatten [(wSag qX k tapeX toldX actsX nowX trialX storyX attemptX orderSearchX routeSearchX setSearchX probeX (qL0 0) (qL1 0) (qL2 0) (qL3 0) image0X image1X image2X aX)]) := ⟨_, rfl, hP, hD⟩
                        refine lv_iconst (v := 0) hx hb dX11_paste_112 (by decide) ?_
                        rw [hQ]
                        exact W.iret (v := (0 : Int32)) hx hb hr (fun t ht hW => ⟨⟨(0 : Int32), (), rfl, trivial, vL0, sL0, (va_up lL0 0 fz172), vL1, sL1, lL1, vL2, sL2, lL2, vL3, sL3, lL3, hsL0, hsL1, hsL2, hsL3, by rw [ht]; exact hP⟩, hS.F ht⟩) hS.2.2 dX11_paste_113
                      · skip
                        have zz173 : rz166.toInt = (0 : Int) := zi_eq.mp cz170
                        refine lv_bipush (v := (-7)) hx hb dX11_paste_91 (by decide) ?_
                        rw [hQ]
                        exact W.iret (v := (-7 : Int32)) hx hb hr (fun t ht hW => ⟨⟨(-7 : Int32), (), rfl, trivial, vL0, sL0, lL0, vL1, sL1, lL1, vL2, sL2, lL2, vL3, sL3, lL3, hsL0, hsL1, hsL2, hsL3, by rw [ht]; exact hP⟩, hS.F ht⟩) hS.2.2 dX11_paste_93
                  · skip
                    have zz174 : ¬ (vL1 1).toInt = (vL0 1).toInt := fun h9 => cz155 (zi_eq.mpr h9)
                    refine lv_bipush (v := (-8)) hx hb dX11_paste_65 (by decide) ?_
                    rw [hQ]
                    exact W.iret (v := (-8 : Int32)) hx hb hr (fun t ht hW => ⟨⟨(-8 : Int32), (), rfl, trivial, vL0, sL0, lL0, vL1, sL1, lL1, vL2, sL2, lL2, vL3, sL3, lL3, hsL0, hsL1, hsL2, hsL3, by rw [ht]; exact hP⟩, hS.F ht⟩) hS.2.2 dX11_paste_67
                · skip
                  have zz175 : (vL0 0).toInt = (0 : Int) := zi_eq.mp cz153
                  refine lv_bipush (v := (-6)) hx hb dX11_paste_49 (by decide) ?_
                  rw [hQ]
                  exact W.iret (v := (-6 : Int32)) hx hb hr (fun t ht hW => ⟨⟨(-6 : Int32), (), rfl, trivial, vL0, sL0, lL0, vL1, sL1, lL1, vL2, sL2, lL2, vL3, sL3, lL3, hsL0, hsL1, hsL2, hsL3, by rw [ht]; exact hP⟩, hS.F ht⟩) hS.2.2 dX11_paste_51
            · skip
              have zz176 : p3.toInt = (1 : Int) := zi_eq.mp cz148
              refine W.eq (g2 := F0 m 30 ls [.int 1, .ref (qX 3)]) (by rw [cz148]) ?_
              refine va_aldq hx hb hK hP 11 6 rfl rfl (by unfold vp_in; decide) dX11_paste_30 ?_
              refine W.eq (g2 := F0 m 31 ls [.ref (qL1 0)]) rfl ?_
              refine lv_astore (lv' := [(7, .ref (qL1 0)), (6, .ref (qL1 0)), (0, .ref (qX 0)), (1, .int p1), (2, .int p2), (3, .int p3), (4, .int p4), (5, .int p5)]) hx hb dX11_paste_31 hl (by decide) rfl (fun ls hl => ?_)
              refine lv_aload hx hb dX11_paste_33 (lv_at hl 1 rfl) ?_
              refine va_get (D := (dC, dI)) (ci := 6) (v := .int (vL1 0)) (C := RX6) (T := TX6) (N := 4) hx hb hts (fun w h => List.mem_cons_of_mem _ (List.mem_append_right _ (List.mem_append_right _ (List.mem_append_right _ (List.mem_append_left _ h))))) hown hK hP 2 rfl rfl 1 (by decide) (hts (.fieldLink RX11 386 "SagMemory$Slot" "has" "Z") (wl_mem 4 rfl)) (fun _ h9 => h9) rfl dX11_paste_35 ?_
              refine lv_if_eq (tgt := 49) hx hb dX11_paste_38 (by decide) (fun cz177 => ?_) (fun cz177 => ?_)
              · skip
                have zz178 : (vL1 0).toInt = (0 : Int) := zi_eq.mp cz177
                refine lv_bipush (v := (-6)) hx hb dX11_paste_49 (by decide) ?_
                rw [hQ]
                exact W.iret (v := (-6 : Int32)) hx hb hr (fun t ht hW => ⟨⟨(-6 : Int32), (), rfl, trivial, vL0, sL0, lL0, vL1, sL1, lL1, vL2, sL2, lL2, vL3, sL3, lL3, hsL0, hsL1, hsL2, hsL3, by rw [ht]; exact hP⟩, hS.F ht⟩) hS.2.2 dX11_paste_51
              · skip
                have zz179 : ¬ (vL1 0).toInt = (0 : Int) := fun h9 => cz177 (zi_eq.mpr h9)
                refine lv_aload hx hb dX11_paste_41 (lv_at hl 0 rfl) ?_
                refine va_get (D := (dC, dI)) (ci := 6) (v := .int (vL1 0)) (C := RX6) (T := TX6) (N := 4) hx hb hts (fun w h => List.mem_cons_of_mem _ (List.mem_append_right _ (List.mem_append_right _ (List.mem_append_right _ (List.mem_append_left _ h))))) hown hK hP 2 rfl rfl 1 (by decide) (hts (.fieldLink RX11 386 "SagMemory$Slot" "has" "Z") (wl_mem 4 rfl)) (fun _ h9 => h9) rfl dX11_paste_43 ?_
                refine lv_if_ne (tgt := 52) hx hb dX11_paste_46 (by decide) (fun cz180 => ?_) (fun cz180 => ?_)
                · skip
                  have zz181 : ¬ (vL1 0).toInt = (0 : Int) := fun h9 => cz180 (zi_eq.mpr h9)
                  refine lv_aload hx hb dX11_paste_52 (lv_at hl 1 rfl) ?_
                  refine va_get (D := (dC, dI)) (ci := 6) (v := .int (vL1 1)) (C := RX6) (T := TX6) (N := 4) hx hb hts (fun w h => List.mem_cons_of_mem _ (List.mem_append_right _ (List.mem_append_right _ (List.mem_append_right _ (List.mem_append_left _ h))))) hown hK hP 2 rfl rfl 2 (by decide) (hts (.fieldLink RX11 396 "SagMemory$Slot" "width" "I") (wl_mem 5 rfl)) (fun _ h9 => h9) rfl dX11_paste_54 ?_
                  refine lv_aload hx hb dX11_paste_57 (lv_at hl 0 rfl) ?_
                  refine va_get (D := (dC, dI)) (ci := 6) (v := .int (vL1 1)) (C := RX6) (T := TX6) (N := 4) hx hb hts (fun w h => List.mem_cons_of_mem _ (List.mem_append_right _ (List.mem_append_right _ (List.mem_append_right _ (List.mem_append_left _ h))))) hown hK hP 2 rfl rfl 2 (by decide) (hts (.fieldLink RX11 396 "SagMemory$Slot" "width" "I") (wl_mem 5 rfl)) (fun _ h9 => h9) rfl dX11_paste_59 ?_
                  refine lv_icmp_eq (tgt := 68) hx hb dX11_paste_62 (by decide) (fun cz182 => ?_) (fun cz182 => ?_)
                  · skip
                    have zz183 : (vL1 1).toInt = (vL1 1).toInt := zi_eq.mp cz182
                    refine lv_aload hx hb dX11_paste_68 (lv_at hl 1 rfl) ?_
                    refine lv_iload_n hx hb dX11_paste_70 rfl (lv_at hl 4 rfl) ?_
                    refine lv_iload hx hb dX11_paste_71 (lv_at hl 7 rfl) ?_
                    have hPc := hP.sub (ws' := (List.flatten [(wSlot qL1 k vL1 sL1 lL1)])) [2, 3] rfl
                    refine vp_callSi (va_Run.run (va_runV (As := [.int p2, .int p5]) (rest := []) ⟨hx, hb, hml, hown, hts⟩ (c_X6_spans l dC dI k qL1 vL1 sL1 lL1 p2 p5 hsL1) (cwV 2 hts (gk_V (wl_mem 6 rfl) (wl_mem 7 rfl) (wl_mem 8 rfl) (wl_mem 9 rfl) (fun w h => List.mem_cons_of_mem _ (List.mem_append_right _ (List.mem_append_right _ (List.mem_append_right _ (List.mem_append_right _ (List.mem_append_left _ h)))))) wkg_c_X6_spans) rfl rfl rfl (by decide +kernel) ⟨Nat.le_of_ble_eq_true rfl, Nat.le_of_ble_eq_true rfl⟩) ⟨fun a U g mk q => by obtain ⟨q0, qP, qK⟩ := q; exact ⟨q0, qP, va_K.moved (u := U) (U := U.calling g mk a) (Vm.Alike.refl U.vm) qK⟩, va_recv hK hPc (ci := 6) (q0 := 0) rfl rfl, fun U hU hW => ⟨rfl, by rw [hU]; exact hPc, va_K.moved hW.alike hK⟩⟩ rfl rfl hl.1 rfl (lv_room (Nat.le_of_ble_eq_true rfl)) dX11_paste_73 ⟨Nat.le_of_ble_eq_true rfl, Nat.le_of_ble_eq_true rfl⟩)) (fun rz185 gz184 => ?_)
                    clear hPc
                    obtain ⟨pz186, pz187⟩ := gz184
                    have pz186 : rz185.toInt = 0 ∨ (0 ≤ p2.toInt ∧ 0 ≤ p5.toInt ∧ p2.toInt + p5.toInt ≤ (sL1 0).toInt) := pz186
                    have pz187 : rz185.toInt = 0 ∨ rz185.toInt = 1 := pz187
                    have bz188 := hsL1 0
                    refine lv_if_eq (tgt := 91) hx hb dX11_paste_76 (by decide) (fun cz189 => ?_) (fun cz189 => ?_)
                    · skip
                      have zz190 : rz185.toInt = (0 : Int) := zi_eq.mp cz189
                      refine lv_bipush (v := (-7)) hx hb dX11_paste_91 (by decide) ?_
                      rw [hQ]
                      exact W.iret (v := (-7 : Int32)) hx hb hr (fun t ht hW => ⟨⟨(-7 : Int32), (), rfl, trivial, vL0, sL0, lL0, vL1, sL1, lL1, vL2, sL2, lL2, vL3, sL3, lL3, hsL0, hsL1, hsL2, hsL3, by rw [ht]; exact hP⟩, hS.F ht⟩) hS.2.2 dX11_paste_93
                    · skip
                      have zz191 : ¬ rz185.toInt = (0 : Int) := fun h9 => cz189 (zi_eq.mpr h9)
                      refine lv_aload hx hb dX11_paste_79 (lv_at hl 0 rfl) ?_
                      refine lv_iload hx hb dX11_paste_81 (lv_at hl 6 rfl) ?_
                      refine lv_iload hx hb dX11_paste_83 (lv_at hl 7 rfl) ?_
                      have hPc := hP.sub (ws' := (List.flatten [(wSlot qL1 k vL1 sL1 lL1)])) [2, 3] rfl
                      refine vp_callSi (va_Run.run (va_runV (As := [.int p4, .int p5]) (rest := []) ⟨hx, hb, hml, hown, hts⟩ (c_X6_spans l dC dI k qL1 vL1 sL1 lL1 p4 p5 hsL1) (cwV 2 hts (gk_V (wl_mem 6 rfl) (wl_mem 7 rfl) (wl_mem 8 rfl) (wl_mem 9 rfl) (fun w h => List.mem_cons_of_mem _ (List.mem_append_right _ (List.mem_append_right _ (List.mem_append_right _ (List.mem_append_right _ (List.mem_append_left _ h)))))) wkg_c_X6_spans) rfl rfl rfl (by decide +kernel) ⟨Nat.le_of_ble_eq_true rfl, Nat.le_of_ble_eq_true rfl⟩) ⟨fun a U g mk q => by obtain ⟨q0, qP, qK⟩ := q; exact ⟨q0, qP, va_K.moved (u := U) (U := U.calling g mk a) (Vm.Alike.refl U.vm) qK⟩, va_recv hK hPc (ci := 6) (q0 := 0) rfl rfl, fun U hU hW => ⟨rfl, by rw [hU]; exact hPc, va_K.moved hW.alike hK⟩⟩ rfl rfl hl.1 rfl (lv_room (Nat.le_of_ble_eq_true rfl)) dX11_paste_85 ⟨Nat.le_of_ble_eq_true rfl, Nat.le_of_ble_eq_true rfl⟩)) (fun rz193 gz192 => ?_)
                      clear hPc
                      obtain ⟨pz194, pz195⟩ := gz192
                      have pz194 : rz193.toInt = 0 ∨ (0 ≤ p4.toInt ∧ 0 ≤ p5.toInt ∧ p4.toInt + p5.toInt ≤ (sL1 0).toInt) := pz194
                      have pz195 : rz193.toInt = 0 ∨ rz193.toInt = 1 := pz195
                      refine lv_if_ne (tgt := 94) hx hb dX11_paste_88 (by decide) (fun cz196 => ?_) (fun cz196 => ?_)
                      · skip
                        have zz197 : ¬ rz193.toInt = (0 : Int) := fun h9 => cz196 (zi_eq.mpr h9)
                        refine lv_aload hx hb dX11_paste_94 (lv_at hl 1 rfl) ?_
                        refine va_get (D := (dC, dI)) (ci := 6) (v := .ref (qL1 1)) (C := RX6) (T := TX6) (N := 4) hx hb hts (fun w h => List.mem_cons_of_mem _ (List.mem_append_right _ (List.mem_append_right _ (List.mem_append_right _ (List.mem_append_left _ h))))) hown hK hP 2 rfl rfl 0 (by decide) (hts (.fieldLink RX11 388 "SagMemory$Slot" "numbers" "[J") (wl_mem 10 rfl)) (fun _ h9 => h9) rfl dX11_paste_96 ?_
                        refine lv_iload_n hx hb dX11_paste_99 rfl (lv_at hl 4 rfl) ?_
                        refine lv_aload hx hb dX11_paste_100 (lv_at hl 0 rfl) ?_
                        refine va_get (D := (dC, dI)) (ci := 6) (v := .ref (qL1 1)) (C := RX6) (T := TX6) (N := 4) hx hb hts (fun w h => List.mem_cons_of_mem _ (List.mem_append_right _ (List.mem_append_right _ (List.mem_append_right _ (List.mem_append_left _ h))))) hown hK hP 2 rfl rfl 0 (by decide) (hts (.fieldLink RX11 388 "SagMemory$Slot" "numbers" "[J") (wl_mem 10 rfl)) (fun _ h9 => h9) rfl dX11_paste_102 ?_
                        refine lv_iload hx hb dX11_paste_105 (lv_at hl 6 rfl) ?_
                        refine lv_iload hx hb dX11_paste_107 (lv_at hl 7 rfl) ?_
                        refine va_copyl (ty := .long) hx hb (by rw [hml]; exact hl.1.symm) hown (hts (.methodLink RX11 402 arraycopyName) (wl_mem 11 rfl)) (hts (.native arraycopyName) (wl_mem 12 rfl)) (hts (.static arraycopyName) (wl_mem 13 rfl)) (hts (.initialized "java/lang/System") (wl_mem 14 rfl)) hK hP hD hS 3 3 1 1 rfl rfl rfl rfl rfl (fun h9 => by have h8 := zi_lt.mp h9; have h8 : p2.toInt < (0 : Int) := h8; omega) (fun h9 => by have h8 := zi_lt.mp h9; have h8 : p4.toInt < (0 : Int) := h8; omega) (fun h9 => by have h8 := zi_lt.mp h9; have h8 : p5.toInt < (0 : Int) := h8; omega) (by have h8 := zc_nat p2 (by show 0 ≤ p2.toInt; omega); have h9 := zc_nat p5 (by show 0 ≤ p5.toInt; omega); have h8 : ((p2).toNatClampNeg : Int) = p2.toInt := h8; have h9 : ((p5).toNatClampNeg : Int) = p5.toInt := h9; omega) (by have h8 := zc_nat p4 (by show 0 ≤ p4.toInt; omega); have h9 := zc_nat p5 (by show 0 ≤ p5.toInt; omega); have h8 : ((p4).toNatClampNeg : Int) = p4.toInt := h8; have h9 : ((p5).toNatClampNeg : Int) = p5.toInt := h9; omega) (fun _ _ => rfl) (Nat.le_of_ble_eq_true rfl) (Nat.le_of_ble_eq_true rfl) dX11_paste_109 (fun H locs hP hD hS => ?_)
                        obtain ⟨fz198, efz198, hP, hD⟩ : ∃ fz198 : Nat → Int64, fz198 = va_cpy (lL1 0) (lL1 0) p2.toNatClampNeg p4.toNatClampNeg p5.toNatClampNeg ∧ va_P (dC, dI) vwCl (List.flatten [(wSlot qL0 k vL0 sL0 lL0), (wSlot qL1 k vL1 sL1 (va_up lL1 0 fz198)), (wSlot qL2 k vL2 sL2 lL2), (wSlot qL3 k vL3 sL3 lL3)] ++ List.flatten [(wSag qX k tapeX toldX actsX nowX trialX storyX attemptX orderSearchX routeSearchX setSearchX probeX (qL0 0) (qL1 0) (qL2 0) (qL3 0) image0X image1X image2X aX)]) H ∧ va_D A (List.flatten [(wSlot qL0 k vL0 sL0 lL0), (wSlot qL1 k vL1 sL1 (va_up lL1 0 fz198)), (wSlot qL2 k vL2 sL2 lL2), (wSlot qL3 k vL3 sL3 lL3)] ++ List.flatten [(wSag qX k tapeX toldX actsX nowX trialX storyX attemptX orderSearchX routeSearchX setSearchX probeX (qL0 0) (qL1 0) (qL2 0) (qL3 0) image0X image1X image2X aX)]) := ⟨_, rfl, hP, hD⟩
                        refine lv_iconst (v := 0) hx hb dX11_paste_112 (by decide) ?_
                        rw [hQ]
                        exact W.iret (v := (0 : Int32)) hx hb hr (fun t ht hW => ⟨⟨(0 : Int32), (), rfl, trivial, vL0, sL0, lL0, vL1, sL1, (va_up lL1 0 fz198), vL2, sL2, lL2, vL3, sL3, lL3, hsL0, hsL1, hsL2, hsL3, by rw [ht]; exact hP⟩, hS.F ht⟩) hS.2.2 dX11_paste_113
                      · skip
                        have zz199 : rz193.toInt = (0 : Int) := zi_eq.mp cz196
                        refine lv_bipush (v := (-7)) hx hb dX11_paste_91 (by decide) ?_
                        rw [hQ]
                        exact W.iret (v := (-7 : Int32)) hx hb hr (fun t ht hW => ⟨⟨(-7 : Int32), (), rfl, trivial, vL0, sL0, lL0, vL1, sL1, lL1, vL2, sL2, lL2, vL3, sL3, lL3, hsL0, hsL1, hsL2, hsL3, by rw [ht]; exact hP⟩, hS.F ht⟩) hS.2.2 dX11_paste_93
                  · skip
                    have zz200 : ¬ (vL1 1).toInt = (vL1 1).toInt := fun h9 => cz182 (zi_eq.mpr h9)
                    exact absurd rfl cz182
                · skip
                  have zz201 : (vL1 0).toInt = (0 : Int) := zi_eq.mp cz180
                  omega
            · skip
              have zz202 : p3.toInt = (2 : Int) := zi_eq.mp cz148
              refine W.eq (g2 := F0 m 30 ls [.int 2, .ref (qX 3)]) (by rw [cz148]) ?_
              refine va_aldq hx hb hK hP 11 6 rfl rfl (by unfold vp_in; decide) dX11_paste_30 ?_
              refine W.eq (g2 := F0 m 31 ls [.ref (qL2 0)]) rfl ?_
              refine lv_astore (lv' := [(7, .ref (qL2 0)), (6, .ref (qL1 0)), (0, .ref (qX 0)), (1, .int p1), (2, .int p2), (3, .int p3), (4, .int p4), (5, .int p5)]) hx hb dX11_paste_31 hl (by decide) rfl (fun ls hl => ?_)
              refine lv_aload hx hb dX11_paste_33 (lv_at hl 1 rfl) ?_
              refine va_get (D := (dC, dI)) (ci := 6) (v := .int (vL1 0)) (C := RX6) (T := TX6) (N := 4) hx hb hts (fun w h => List.mem_cons_of_mem _ (List.mem_append_right _ (List.mem_append_right _ (List.mem_append_right _ (List.mem_append_left _ h))))) hown hK hP 2 rfl rfl 1 (by decide) (hts (.fieldLink RX11 386 "SagMemory$Slot" "has" "Z") (wl_mem 4 rfl)) (fun _ h9 => h9) rfl dX11_paste_35 ?_
              refine lv_if_eq (tgt := 49) hx hb dX11_paste_38 (by decide) (fun cz203 => ?_) (fun cz203 => ?_)
              · skip
                have zz204 : (vL1 0).toInt = (0 : Int) := zi_eq.mp cz203
                refine lv_bipush (v := (-6)) hx hb dX11_paste_49 (by decide) ?_
                rw [hQ]
                exact W.iret (v := (-6 : Int32)) hx hb hr (fun t ht hW => ⟨⟨(-6 : Int32), (), rfl, trivial, vL0, sL0, lL0, vL1, sL1, lL1, vL2, sL2, lL2, vL3, sL3, lL3, hsL0, hsL1, hsL2, hsL3, by rw [ht]; exact hP⟩, hS.F ht⟩) hS.2.2 dX11_paste_51
              · skip
                have zz205 : ¬ (vL1 0).toInt = (0 : Int) := fun h9 => cz203 (zi_eq.mpr h9)
                refine lv_aload hx hb dX11_paste_41 (lv_at hl 0 rfl) ?_
                refine va_get (D := (dC, dI)) (ci := 6) (v := .int (vL2 0)) (C := RX6) (T := TX6) (N := 4) hx hb hts (fun w h => List.mem_cons_of_mem _ (List.mem_append_right _ (List.mem_append_right _ (List.mem_append_right _ (List.mem_append_left _ h))))) hown hK hP 4 rfl rfl 1 (by decide) (hts (.fieldLink RX11 386 "SagMemory$Slot" "has" "Z") (wl_mem 4 rfl)) (fun _ h9 => h9) rfl dX11_paste_43 ?_
                refine lv_if_ne (tgt := 52) hx hb dX11_paste_46 (by decide) (fun cz206 => ?_) (fun cz206 => ?_)
                · skip
                  have zz207 : ¬ (vL2 0).toInt = (0 : Int) := fun h9 => cz206 (zi_eq.mpr h9)
                  refine lv_aload hx hb dX11_paste_52 (lv_at hl 1 rfl) ?_
                  refine va_get (D := (dC, dI)) (ci := 6) (v := .int (vL1 1)) (C := RX6) (T := TX6) (N := 4) hx hb hts (fun w h => List.mem_cons_of_mem _ (List.mem_append_right _ (List.mem_append_right _ (List.mem_append_right _ (List.mem_append_left _ h))))) hown hK hP 2 rfl rfl 2 (by decide) (hts (.fieldLink RX11 396 "SagMemory$Slot" "width" "I") (wl_mem 5 rfl)) (fun _ h9 => h9) rfl dX11_paste_54 ?_
                  refine lv_aload hx hb dX11_paste_57 (lv_at hl 0 rfl) ?_
                  refine va_get (D := (dC, dI)) (ci := 6) (v := .int (vL2 1)) (C := RX6) (T := TX6) (N := 4) hx hb hts (fun w h => List.mem_cons_of_mem _ (List.mem_append_right _ (List.mem_append_right _ (List.mem_append_right _ (List.mem_append_left _ h))))) hown hK hP 4 rfl rfl 2 (by decide) (hts (.fieldLink RX11 396 "SagMemory$Slot" "width" "I") (wl_mem 5 rfl)) (fun _ h9 => h9) rfl dX11_paste_59 ?_
                  refine lv_icmp_eq (tgt := 68) hx hb dX11_paste_62 (by decide) (fun cz208 => ?_) (fun cz208 => ?_)
                  · skip
                    have zz209 : (vL1 1).toInt = (vL2 1).toInt := zi_eq.mp cz208
                    refine lv_aload hx hb dX11_paste_68 (lv_at hl 1 rfl) ?_
                    refine lv_iload_n hx hb dX11_paste_70 rfl (lv_at hl 4 rfl) ?_
                    refine lv_iload hx hb dX11_paste_71 (lv_at hl 7 rfl) ?_
                    have hPc := hP.sub (ws' := (List.flatten [(wSlot qL1 k vL1 sL1 lL1)])) [2, 3] rfl
                    refine vp_callSi (va_Run.run (va_runV (As := [.int p2, .int p5]) (rest := []) ⟨hx, hb, hml, hown, hts⟩ (c_X6_spans l dC dI k qL1 vL1 sL1 lL1 p2 p5 hsL1) (cwV 2 hts (gk_V (wl_mem 6 rfl) (wl_mem 7 rfl) (wl_mem 8 rfl) (wl_mem 9 rfl) (fun w h => List.mem_cons_of_mem _ (List.mem_append_right _ (List.mem_append_right _ (List.mem_append_right _ (List.mem_append_right _ (List.mem_append_left _ h)))))) wkg_c_X6_spans) rfl rfl rfl (by decide +kernel) ⟨Nat.le_of_ble_eq_true rfl, Nat.le_of_ble_eq_true rfl⟩) ⟨fun a U g mk q => by obtain ⟨q0, qP, qK⟩ := q; exact ⟨q0, qP, va_K.moved (u := U) (U := U.calling g mk a) (Vm.Alike.refl U.vm) qK⟩, va_recv hK hPc (ci := 6) (q0 := 0) rfl rfl, fun U hU hW => ⟨rfl, by rw [hU]; exact hPc, va_K.moved hW.alike hK⟩⟩ rfl rfl hl.1 rfl (lv_room (Nat.le_of_ble_eq_true rfl)) dX11_paste_73 ⟨Nat.le_of_ble_eq_true rfl, Nat.le_of_ble_eq_true rfl⟩)) (fun rz211 gz210 => ?_)
                    clear hPc
                    obtain ⟨pz212, pz213⟩ := gz210
                    have pz212 : rz211.toInt = 0 ∨ (0 ≤ p2.toInt ∧ 0 ≤ p5.toInt ∧ p2.toInt + p5.toInt ≤ (sL1 0).toInt) := pz212
                    have pz213 : rz211.toInt = 0 ∨ rz211.toInt = 1 := pz213
                    have bz214 := hsL1 0
                    refine lv_if_eq (tgt := 91) hx hb dX11_paste_76 (by decide) (fun cz215 => ?_) (fun cz215 => ?_)
                    · skip
                      have zz216 : rz211.toInt = (0 : Int) := zi_eq.mp cz215
                      refine lv_bipush (v := (-7)) hx hb dX11_paste_91 (by decide) ?_
                      rw [hQ]
                      exact W.iret (v := (-7 : Int32)) hx hb hr (fun t ht hW => ⟨⟨(-7 : Int32), (), rfl, trivial, vL0, sL0, lL0, vL1, sL1, lL1, vL2, sL2, lL2, vL3, sL3, lL3, hsL0, hsL1, hsL2, hsL3, by rw [ht]; exact hP⟩, hS.F ht⟩) hS.2.2 dX11_paste_93
                    · skip
                      have zz217 : ¬ rz211.toInt = (0 : Int) := fun h9 => cz215 (zi_eq.mpr h9)
                      refine lv_aload hx hb dX11_paste_79 (lv_at hl 0 rfl) ?_
                      refine lv_iload hx hb dX11_paste_81 (lv_at hl 6 rfl) ?_
                      refine lv_iload hx hb dX11_paste_83 (lv_at hl 7 rfl) ?_
                      have hPc := hP.sub (ws' := (List.flatten [(wSlot qL2 k vL2 sL2 lL2)])) [4, 5] rfl
                      refine vp_callSi (va_Run.run (va_runV (As := [.int p4, .int p5]) (rest := []) ⟨hx, hb, hml, hown, hts⟩ (c_X6_spans l dC dI k qL2 vL2 sL2 lL2 p4 p5 hsL2) (cwV 2 hts (gk_V (wl_mem 6 rfl) (wl_mem 7 rfl) (wl_mem 8 rfl) (wl_mem 9 rfl) (fun w h => List.mem_cons_of_mem _ (List.mem_append_right _ (List.mem_append_right _ (List.mem_append_right _ (List.mem_append_right _ (List.mem_append_left _ h)))))) wkg_c_X6_spans) rfl rfl rfl (by decide +kernel) ⟨Nat.le_of_ble_eq_true rfl, Nat.le_of_ble_eq_true rfl⟩) ⟨fun a U g mk q => by obtain ⟨q0, qP, qK⟩ := q; exact ⟨q0, qP, va_K.moved (u := U) (U := U.calling g mk a) (Vm.Alike.refl U.vm) qK⟩, va_recv hK hPc (ci := 6) (q0 := 0) rfl rfl, fun U hU hW => ⟨rfl, by rw [hU]; exact hPc, va_K.moved hW.alike hK⟩⟩ rfl rfl hl.1 rfl (lv_room (Nat.le_of_ble_eq_true rfl)) dX11_paste_85 ⟨Nat.le_of_ble_eq_true rfl, Nat.le_of_ble_eq_true rfl⟩)) (fun rz219 gz218 => ?_)
                      clear hPc
                      obtain ⟨pz220, pz221⟩ := gz218
                      have pz220 : rz219.toInt = 0 ∨ (0 ≤ p4.toInt ∧ 0 ≤ p5.toInt ∧ p4.toInt + p5.toInt ≤ (sL2 0).toInt) := pz220
                      have pz221 : rz219.toInt = 0 ∨ rz219.toInt = 1 := pz221
                      have bz222 := hsL2 0
                      refine lv_if_ne (tgt := 94) hx hb dX11_paste_88 (by decide) (fun cz223 => ?_) (fun cz223 => ?_)
                      · skip
                        have zz224 : ¬ rz219.toInt = (0 : Int) := fun h9 => cz223 (zi_eq.mpr h9)
                        refine lv_aload hx hb dX11_paste_94 (lv_at hl 1 rfl) ?_
                        refine va_get (D := (dC, dI)) (ci := 6) (v := .ref (qL1 1)) (C := RX6) (T := TX6) (N := 4) hx hb hts (fun w h => List.mem_cons_of_mem _ (List.mem_append_right _ (List.mem_append_right _ (List.mem_append_right _ (List.mem_append_left _ h))))) hown hK hP 2 rfl rfl 0 (by decide) (hts (.fieldLink RX11 388 "SagMemory$Slot" "numbers" "[J") (wl_mem 10 rfl)) (fun _ h9 => h9) rfl dX11_paste_96 ?_
                        refine lv_iload_n hx hb dX11_paste_99 rfl (lv_at hl 4 rfl) ?_
                        refine lv_aload hx hb dX11_paste_100 (lv_at hl 0 rfl) ?_
                        refine va_get (D := (dC, dI)) (ci := 6) (v := .ref (qL2 1)) (C := RX6) (T := TX6) (N := 4) hx hb hts (fun w h => List.mem_cons_of_mem _ (List.mem_append_right _ (List.mem_append_right _ (List.mem_append_right _ (List.mem_append_left _ h))))) hown hK hP 4 rfl rfl 0 (by decide) (hts (.fieldLink RX11 388 "SagMemory$Slot" "numbers" "[J") (wl_mem 10 rfl)) (fun _ h9 => h9) rfl dX11_paste_102 ?_
                        refine lv_iload hx hb dX11_paste_105 (lv_at hl 6 rfl) ?_
                        refine lv_iload hx hb dX11_paste_107 (lv_at hl 7 rfl) ?_
                        refine va_copyl (ty := .long) hx hb (by rw [hml]; exact hl.1.symm) hown (hts (.methodLink RX11 402 arraycopyName) (wl_mem 11 rfl)) (hts (.native arraycopyName) (wl_mem 12 rfl)) (hts (.static arraycopyName) (wl_mem 13 rfl)) (hts (.initialized "java/lang/System") (wl_mem 14 rfl)) hK hP hD hS 3 5 1 1 rfl rfl rfl rfl rfl (fun h9 => by have h8 := zi_lt.mp h9; have h8 : p2.toInt < (0 : Int) := h8; omega) (fun h9 => by have h8 := zi_lt.mp h9; have h8 : p4.toInt < (0 : Int) := h8; omega) (fun h9 => by have h8 := zi_lt.mp h9; have h8 : p5.toInt < (0 : Int) := h8; omega) (by have h8 := zc_nat p2 (by show 0 ≤ p2.toInt; omega); have h9 := zc_nat p5 (by show 0 ≤ p5.toInt; omega); have h8 : ((p2).toNatClampNeg : Int) = p2.toInt := h8; have h9 : ((p5).toNatClampNeg : Int) = p5.toInt := h9; omega) (by have h8 := zc_nat p4 (by show 0 ≤ p4.toInt; omega); have h9 := zc_nat p5 (by show 0 ≤ p5.toInt; omega); have h8 : ((p4).toNatClampNeg : Int) = p4.toInt := h8; have h9 : ((p5).toNatClampNeg : Int) = p5.toInt := h9; omega) (fun _ _ => rfl) (Nat.le_of_ble_eq_true rfl) (Nat.le_of_ble_eq_true rfl) dX11_paste_109 (fun H locs hP hD hS => ?_)
                        obtain ⟨fz225, efz225, hP, hD⟩ : ∃ fz225 : Nat → Int64, fz225 = va_cpy (lL1 0) (lL2 0) p2.toNatClampNeg p4.toNatClampNeg p5.toNatClampNeg ∧ va_P (dC, dI) vwCl (List.flatten [(wSlot qL0 k vL0 sL0 lL0), (wSlot qL1 k vL1 sL1 lL1), (wSlot qL2 k vL2 sL2 (va_up lL2 0 fz225)), (wSlot qL3 k vL3 sL3 lL3)] ++ List.flatten [(wSag qX k tapeX toldX actsX nowX trialX storyX attemptX orderSearchX routeSearchX setSearchX probeX (qL0 0) (qL1 0) (qL2 0) (qL3 0) image0X image1X image2X aX)]) H ∧ va_D A (List.flatten [(wSlot qL0 k vL0 sL0 lL0), (wSlot qL1 k vL1 sL1 lL1), (wSlot qL2 k vL2 sL2 (va_up lL2 0 fz225)), (wSlot qL3 k vL3 sL3 lL3)] ++ List.flatten [(wSag qX k tapeX toldX actsX nowX trialX storyX attemptX orderSearchX routeSearchX setSearchX probeX (qL0 0) (qL1 0) (qL2 0) (qL3 0) image0X image1X image2X aX)]) := ⟨_, rfl, hP, hD⟩
                        refine lv_iconst (v := 0) hx hb dX11_paste_112 (by decide) ?_
                        rw [hQ]
                        exact W.iret (v := (0 : Int32)) hx hb hr (fun t ht hW => ⟨⟨(0 : Int32), (), rfl, trivial, vL0, sL0, lL0, vL1, sL1, lL1, vL2, sL2, (va_up lL2 0 fz225), vL3, sL3, lL3, hsL0, hsL1, hsL2, hsL3, by rw [ht]; exact hP⟩, hS.F ht⟩) hS.2.2 dX11_paste_113
                      · skip
                        have zz226 : rz219.toInt = (0 : Int) := zi_eq.mp cz223
                        refine lv_bipush (v := (-7)) hx hb dX11_paste_91 (by decide) ?_
                        rw [hQ]
                        exact W.iret (v := (-7 : Int32)) hx hb hr (fun t ht hW => ⟨⟨(-7 : Int32), (), rfl, trivial, vL0, sL0, lL0, vL1, sL1, lL1, vL2, sL2, lL2, vL3, sL3, lL3, hsL0, hsL1, hsL2, hsL3, by rw [ht]; exact hP⟩, hS.F ht⟩) hS.2.2 dX11_paste_93
                  · skip
                    have zz227 : ¬ (vL1 1).toInt = (vL2 1).toInt := fun h9 => cz208 (zi_eq.mpr h9)
                    refine lv_bipush (v := (-8)) hx hb dX11_paste_65 (by decide) ?_
                    rw [hQ]
                    exact W.iret (v := (-8 : Int32)) hx hb hr (fun t ht hW => ⟨⟨(-8 : Int32), (), rfl, trivial, vL0, sL0, lL0, vL1, sL1, lL1, vL2, sL2, lL2, vL3, sL3, lL3, hsL0, hsL1, hsL2, hsL3, by rw [ht]; exact hP⟩, hS.F ht⟩) hS.2.2 dX11_paste_67
                · skip
                  have zz228 : (vL2 0).toInt = (0 : Int) := zi_eq.mp cz206
                  refine lv_bipush (v := (-6)) hx hb dX11_paste_49 (by decide) ?_
                  rw [hQ]
                  exact W.iret (v := (-6 : Int32)) hx hb hr (fun t ht hW => ⟨⟨(-6 : Int32), (), rfl, trivial, vL0, sL0, lL0, vL1, sL1, lL1, vL2, sL2, lL2, vL3, sL3, lL3, hsL0, hsL1, hsL2, hsL3, by rw [ht]; exact hP⟩, hS.F ht⟩) hS.2.2 dX11_paste_51
            · skip
              have zz229 : p3.toInt = (3 : Int) := zi_eq.mp cz148
              refine W.eq (g2 := F0 m 30 ls [.int 3, .ref (qX 3)]) (by rw [cz148]) ?_
              refine va_aldq hx hb hK hP 11 6 rfl rfl (by unfold vp_in; decide) dX11_paste_30 ?_
              refine W.eq (g2 := F0 m 31 ls [.ref (qL3 0)]) rfl ?_
              refine lv_astore (lv' := [(7, .ref (qL3 0)), (6, .ref (qL1 0)), (0, .ref (qX 0)), (1, .int p1), (2, .int p2), (3, .int p3), (4, .int p4), (5, .int p5)]) hx hb dX11_paste_31 hl (by decide) rfl (fun ls hl => ?_)
              refine lv_aload hx hb dX11_paste_33 (lv_at hl 1 rfl) ?_
              refine va_get (D := (dC, dI)) (ci := 6) (v := .int (vL1 0)) (C := RX6) (T := TX6) (N := 4) hx hb hts (fun w h => List.mem_cons_of_mem _ (List.mem_append_right _ (List.mem_append_right _ (List.mem_append_right _ (List.mem_append_left _ h))))) hown hK hP 2 rfl rfl 1 (by decide) (hts (.fieldLink RX11 386 "SagMemory$Slot" "has" "Z") (wl_mem 4 rfl)) (fun _ h9 => h9) rfl dX11_paste_35 ?_
              refine lv_if_eq (tgt := 49) hx hb dX11_paste_38 (by decide) (fun cz230 => ?_) (fun cz230 => ?_)
              · skip
                have zz231 : (vL1 0).toInt = (0 : Int) := zi_eq.mp cz230
                refine lv_bipush (v := (-6)) hx hb dX11_paste_49 (by decide) ?_
                rw [hQ]
                exact W.iret (v := (-6 : Int32)) hx hb hr (fun t ht hW => ⟨⟨(-6 : Int32), (), rfl, trivial, vL0, sL0, lL0, vL1, sL1, lL1, vL2, sL2, lL2, vL3, sL3, lL3, hsL0, hsL1, hsL2, hsL3, by rw [ht]; exact hP⟩, hS.F ht⟩) hS.2.2 dX11_paste_51
              · skip
                have zz232 : ¬ (vL1 0).toInt = (0 : Int) := fun h9 => cz230 (zi_eq.mpr h9)
                refine lv_aload hx hb dX11_paste_41 (lv_at hl 0 rfl) ?_
                refine va_get (D := (dC, dI)) (ci := 6) (v := .int (vL3 0)) (C := RX6) (T := TX6) (N := 4) hx hb hts (fun w h => List.mem_cons_of_mem _ (List.mem_append_right _ (List.mem_append_right _ (List.mem_append_right _ (List.mem_append_left _ h))))) hown hK hP 6 rfl rfl 1 (by decide) (hts (.fieldLink RX11 386 "SagMemory$Slot" "has" "Z") (wl_mem 4 rfl)) (fun _ h9 => h9) rfl dX11_paste_43 ?_
                refine lv_if_ne (tgt := 52) hx hb dX11_paste_46 (by decide) (fun cz233 => ?_) (fun cz233 => ?_)
                · skip
                  have zz234 : ¬ (vL3 0).toInt = (0 : Int) := fun h9 => cz233 (zi_eq.mpr h9)
                  refine lv_aload hx hb dX11_paste_52 (lv_at hl 1 rfl) ?_
                  refine va_get (D := (dC, dI)) (ci := 6) (v := .int (vL1 1)) (C := RX6) (T := TX6) (N := 4) hx hb hts (fun w h => List.mem_cons_of_mem _ (List.mem_append_right _ (List.mem_append_right _ (List.mem_append_right _ (List.mem_append_left _ h))))) hown hK hP 2 rfl rfl 2 (by decide) (hts (.fieldLink RX11 396 "SagMemory$Slot" "width" "I") (wl_mem 5 rfl)) (fun _ h9 => h9) rfl dX11_paste_54 ?_
                  refine lv_aload hx hb dX11_paste_57 (lv_at hl 0 rfl) ?_
                  refine va_get (D := (dC, dI)) (ci := 6) (v := .int (vL3 1)) (C := RX6) (T := TX6) (N := 4) hx hb hts (fun w h => List.mem_cons_of_mem _ (List.mem_append_right _ (List.mem_append_right _ (List.mem_append_right _ (List.mem_append_left _ h))))) hown hK hP 6 rfl rfl 2 (by decide) (hts (.fieldLink RX11 396 "SagMemory$Slot" "width" "I") (wl_mem 5 rfl)) (fun _ h9 => h9) rfl dX11_paste_59 ?_
                  refine lv_icmp_eq (tgt := 68) hx hb dX11_paste_62 (by decide) (fun cz235 => ?_) (fun cz235 => ?_)
                  · skip
                    have zz236 : (vL1 1).toInt = (vL3 1).toInt := zi_eq.mp cz235
                    refine lv_aload hx hb dX11_paste_68 (lv_at hl 1 rfl) ?_
                    refine lv_iload_n hx hb dX11_paste_70 rfl (lv_at hl 4 rfl) ?_
                    refine lv_iload hx hb dX11_paste_71 (lv_at hl 7 rfl) ?_
                    have hPc := hP.sub (ws' := (List.flatten [(wSlot qL1 k vL1 sL1 lL1)])) [2, 3] rfl
                    refine vp_callSi (va_Run.run (va_runV (As := [.int p2, .int p5]) (rest := []) ⟨hx, hb, hml, hown, hts⟩ (c_X6_spans l dC dI k qL1 vL1 sL1 lL1 p2 p5 hsL1) (cwV 2 hts (gk_V (wl_mem 6 rfl) (wl_mem 7 rfl) (wl_mem 8 rfl) (wl_mem 9 rfl) (fun w h => List.mem_cons_of_mem _ (List.mem_append_right _ (List.mem_append_right _ (List.mem_append_right _ (List.mem_append_right _ (List.mem_append_left _ h)))))) wkg_c_X6_spans) rfl rfl rfl (by decide +kernel) ⟨Nat.le_of_ble_eq_true rfl, Nat.le_of_ble_eq_true rfl⟩) ⟨fun a U g mk q => by obtain ⟨q0, qP, qK⟩ := q; exact ⟨q0, qP, va_K.moved (u := U) (U := U.calling g mk a) (Vm.Alike.refl U.vm) qK⟩, va_recv hK hPc (ci := 6) (q0 := 0) rfl rfl, fun U hU hW => ⟨rfl, by rw [hU]; exact hPc, va_K.moved hW.alike hK⟩⟩ rfl rfl hl.1 rfl (lv_room (Nat.le_of_ble_eq_true rfl)) dX11_paste_73 ⟨Nat.le_of_ble_eq_true rfl, Nat.le_of_ble_eq_true rfl⟩)) (fun rz238 gz237 => ?_)
                    clear hPc
                    obtain ⟨pz239, pz240⟩ := gz237
                    have pz239 : rz238.toInt = 0 ∨ (0 ≤ p2.toInt ∧ 0 ≤ p5.toInt ∧ p2.toInt + p5.toInt ≤ (sL1 0).toInt) := pz239
                    have pz240 : rz238.toInt = 0 ∨ rz238.toInt = 1 := pz240
                    have bz241 := hsL1 0
                    refine lv_if_eq (tgt := 91) hx hb dX11_paste_76 (by decide) (fun cz242 => ?_) (fun cz242 => ?_)
                    · skip
                      have zz243 : rz238.toInt = (0 : Int) := zi_eq.mp cz242
                      refine lv_bipush (v := (-7)) hx hb dX11_paste_91 (by decide) ?_
                      rw [hQ]
                      exact W.iret (v := (-7 : Int32)) hx hb hr (fun t ht hW => ⟨⟨(-7 : Int32), (), rfl, trivial, vL0, sL0, lL0, vL1, sL1, lL1, vL2, sL2, lL2, vL3, sL3, lL3, hsL0, hsL1, hsL2, hsL3, by rw [ht]; exact hP⟩, hS.F ht⟩) hS.2.2 dX11_paste_93
                    · skip
                      have zz244 : ¬ rz238.toInt = (0 : Int) := fun h9 => cz242 (zi_eq.mpr h9)
                      refine lv_aload hx hb dX11_paste_79 (lv_at hl 0 rfl) ?_
                      refine lv_iload hx hb dX11_paste_81 (lv_at hl 6 rfl) ?_
                      refine lv_iload hx hb dX11_paste_83 (lv_at hl 7 rfl) ?_
                      have hPc := hP.sub (ws' := (List.flatten [(wSlot qL3 k vL3 sL3 lL3)])) [6, 7] rfl
                      refine vp_callSi (va_Run.run (va_runV (As := [.int p4, .int p5]) (rest := []) ⟨hx, hb, hml, hown, hts⟩ (c_X6_spans l dC dI k qL3 vL3 sL3 lL3 p4 p5 hsL3) (cwV 2 hts (gk_V (wl_mem 6 rfl) (wl_mem 7 rfl) (wl_mem 8 rfl) (wl_mem 9 rfl) (fun w h => List.mem_cons_of_mem _ (List.mem_append_right _ (List.mem_append_right _ (List.mem_append_right _ (List.mem_append_right _ (List.mem_append_left _ h)))))) wkg_c_X6_spans) rfl rfl rfl (by decide +kernel) ⟨Nat.le_of_ble_eq_true rfl, Nat.le_of_ble_eq_true rfl⟩) ⟨fun a U g mk q => by obtain ⟨q0, qP, qK⟩ := q; exact ⟨q0, qP, va_K.moved (u := U) (U := U.calling g mk a) (Vm.Alike.refl U.vm) qK⟩, va_recv hK hPc (ci := 6) (q0 := 0) rfl rfl, fun U hU hW => ⟨rfl, by rw [hU]; exact hPc, va_K.moved hW.alike hK⟩⟩ rfl rfl hl.1 rfl (lv_room (Nat.le_of_ble_eq_true rfl)) dX11_paste_85 ⟨Nat.le_of_ble_eq_true rfl, Nat.le_of_ble_eq_true rfl⟩)) (fun rz246 gz245 => ?_)
                      clear hPc
                      obtain ⟨pz247, pz248⟩ := gz245
                      have pz247 : rz246.toInt = 0 ∨ (0 ≤ p4.toInt ∧ 0 ≤ p5.toInt ∧ p4.toInt + p5.toInt ≤ (sL3 0).toInt) := pz247
                      have pz248 : rz246.toInt = 0 ∨ rz246.toInt = 1 := pz248
                      have bz249 := hsL3 0
                      refine lv_if_ne (tgt := 94) hx hb dX11_paste_88 (by decide) (fun cz250 => ?_) (fun cz250 => ?_)
                      · skip
                        have zz251 : ¬ rz246.toInt = (0 : Int) := fun h9 => cz250 (zi_eq.mpr h9)
                        refine lv_aload hx hb dX11_paste_94 (lv_at hl 1 rfl) ?_
                        refine va_get (D := (dC, dI)) (ci := 6) (v := .ref (qL1 1)) (C := RX6) (T := TX6) (N := 4) hx hb hts (fun w h => List.mem_cons_of_mem _ (List.mem_append_right _ (List.mem_append_right _ (List.mem_append_right _ (List.mem_append_left _ h))))) hown hK hP 2 rfl rfl 0 (by decide) (hts (.fieldLink RX11 388 "SagMemory$Slot" "numbers" "[J") (wl_mem 10 rfl)) (fun _ h9 => h9) rfl dX11_paste_96 ?_
                        refine lv_iload_n hx hb dX11_paste_99 rfl (lv_at hl 4 rfl) ?_
                        refine lv_aload hx hb dX11_paste_100 (lv_at hl 0 rfl) ?_
                        refine va_get (D := (dC, dI)) (ci := 6) (v := .ref (qL3 1)) (C := RX6) (T := TX6) (N := 4) hx hb hts (fun w h => List.mem_cons_of_mem _ (List.mem_append_right _ (List.mem_append_right _ (List.mem_append_right _ (List.mem_append_left _ h))))) hown hK hP 6 rfl rfl 0 (by decide) (hts (.fieldLink RX11 388 "SagMemory$Slot" "numbers" "[J") (wl_mem 10 rfl)) (fun _ h9 => h9) rfl dX11_paste_102 ?_
                        refine lv_iload hx hb dX11_paste_105 (lv_at hl 6 rfl) ?_
                        refine lv_iload hx hb dX11_paste_107 (lv_at hl 7 rfl) ?_
                        refine va_copyl (ty := .long) hx hb (by rw [hml]; exact hl.1.symm) hown (hts (.methodLink RX11 402 arraycopyName) (wl_mem 11 rfl)) (hts (.native arraycopyName) (wl_mem 12 rfl)) (hts (.static arraycopyName) (wl_mem 13 rfl)) (hts (.initialized "java/lang/System") (wl_mem 14 rfl)) hK hP hD hS 3 7 1 1 rfl rfl rfl rfl rfl (fun h9 => by have h8 := zi_lt.mp h9; have h8 : p2.toInt < (0 : Int) := h8; omega) (fun h9 => by have h8 := zi_lt.mp h9; have h8 : p4.toInt < (0 : Int) := h8; omega) (fun h9 => by have h8 := zi_lt.mp h9; have h8 : p5.toInt < (0 : Int) := h8; omega) (by have h8 := zc_nat p2 (by show 0 ≤ p2.toInt; omega); have h9 := zc_nat p5 (by show 0 ≤ p5.toInt; omega); have h8 : ((p2).toNatClampNeg : Int) = p2.toInt := h8; have h9 : ((p5).toNatClampNeg : Int) = p5.toInt := h9; omega) (by have h8 := zc_nat p4 (by show 0 ≤ p4.toInt; omega); have h9 := zc_nat p5 (by show 0 ≤ p5.toInt; omega); have h8 : ((p4).toNatClampNeg : Int) = p4.toInt := h8; have h9 : ((p5).toNatClampNeg : Int) = p5.toInt := h9; omega) (fun _ _ => rfl) (Nat.le_of_ble_eq_true rfl) (Nat.le_of_ble_eq_true rfl) dX11_paste_109 (fun H locs hP hD hS => ?_)
                        obtain ⟨fz252, efz252, hP, hD⟩ : ∃ fz252 : Nat → Int64, fz252 = va_cpy (lL1 0) (lL3 0) p2.toNatClampNeg p4.toNatClampNeg p5.toNatClampNeg ∧ va_P (dC, dI) vwCl (List.flatten [(wSlot qL0 k vL0 sL0 lL0), (wSlot qL1 k vL1 sL1 lL1), (wSlot qL2 k vL2 sL2 lL2), (wSlot qL3 k vL3 sL3 (va_up lL3 0 fz252))] ++ List.flatten [(wSag qX k tapeX toldX actsX nowX trialX storyX attemptX orderSearchX routeSearchX setSearchX probeX (qL0 0) (qL1 0) (qL2 0) (qL3 0) image0X image1X image2X aX)]) H ∧ va_D A (List.flatten [(wSlot qL0 k vL0 sL0 lL0), (wSlot qL1 k vL1 sL1 lL1), (wSlot qL2 k vL2 sL2 lL2), (wSlot qL3 k vL3 sL3 (va_up lL3 0 fz252))] ++ List.flatten [(wSag qX k tapeX toldX actsX nowX trialX storyX attemptX orderSearchX routeSearchX setSearchX probeX (qL0 0) (qL1 0) (qL2 0) (qL3 0) image0X image1X image2X aX)]) := ⟨_, rfl, hP, hD⟩
                        refine lv_iconst (v := 0) hx hb dX11_paste_112 (by decide) ?_
                        rw [hQ]
                        exact W.iret (v := (0 : Int32)) hx hb hr (fun t ht hW => ⟨⟨(0 : Int32), (), rfl, trivial, vL0, sL0, lL0, vL1, sL1, lL1, vL2, sL2, lL2, vL3, sL3, (va_up lL3 0 fz252), hsL0, hsL1, hsL2, hsL3, by rw [ht]; exact hP⟩, hS.F ht⟩) hS.2.2 dX11_paste_113
                      · skip
                        have zz253 : rz246.toInt = (0 : Int) := zi_eq.mp cz250
                        refine lv_bipush (v := (-7)) hx hb dX11_paste_91 (by decide) ?_
                        rw [hQ]
                        exact W.iret (v := (-7 : Int32)) hx hb hr (fun t ht hW => ⟨⟨(-7 : Int32), (), rfl, trivial, vL0, sL0, lL0, vL1, sL1, lL1, vL2, sL2, lL2, vL3, sL3, lL3, hsL0, hsL1, hsL2, hsL3, by rw [ht]; exact hP⟩, hS.F ht⟩) hS.2.2 dX11_paste_93
                  · skip
                    have zz254 : ¬ (vL1 1).toInt = (vL3 1).toInt := fun h9 => cz235 (zi_eq.mpr h9)
                    refine lv_bipush (v := (-8)) hx hb dX11_paste_65 (by decide) ?_
                    rw [hQ]
                    exact W.iret (v := (-8 : Int32)) hx hb hr (fun t ht hW => ⟨⟨(-8 : Int32), (), rfl, trivial, vL0, sL0, lL0, vL1, sL1, lL1, vL2, sL2, lL2, vL3, sL3, lL3, hsL0, hsL1, hsL2, hsL3, by rw [ht]; exact hP⟩, hS.F ht⟩) hS.2.2 dX11_paste_67
                · skip
                  have zz255 : (vL3 0).toInt = (0 : Int) := zi_eq.mp cz233
                  refine lv_bipush (v := (-6)) hx hb dX11_paste_49 (by decide) ?_
                  rw [hQ]
                  exact W.iret (v := (-6 : Int32)) hx hb hr (fun t ht hW => ⟨⟨(-6 : Int32), (), rfl, trivial, vL0, sL0, lL0, vL1, sL1, lL1, vL2, sL2, lL2, vL3, sL3, lL3, hsL0, hsL1, hsL2, hsL3, by rw [ht]; exact hP⟩, hS.F ht⟩) hS.2.2 dX11_paste_51
          · skip
            have zz256 : p1.toInt = (2 : Int) := zi_eq.mp cz37
            refine W.eq (g2 := F0 m 22 ls [.int 2, .ref (qX 3)]) (by rw [cz37]) ?_
            refine va_aldq hx hb hK hP 11 6 rfl rfl (by unfold vp_in; decide) dX11_paste_22 ?_
            refine W.eq (g2 := F0 m 23 ls [.ref (qL2 0)]) rfl ?_
            refine lv_astore (lv' := [(6, .ref (qL2 0)), (0, .ref (qX 0)), (1, .int p1), (2, .int p2), (3, .int p3), (4, .int p4), (5, .int p5)]) hx hb dX11_paste_23 hl (by decide) rfl (fun ls hl => ?_)
            refine lv_aload_n hx hb dX11_paste_25 rfl (lv_at hl 1 rfl) ?_
            refine va_get (D := (dC, dI)) (ci := 11) (v := .ref (qX 3)) (C := RX11) (T := TX11) (N := 15) hx hb hts (fun w h => List.mem_cons_of_mem _ (List.mem_append_right _ (List.mem_append_right _ (List.mem_append_left _ h)))) hown hK hP 8 rfl rfl 13 (by decide) (hts (.fieldLink RX11 85 "SagMemory" "slots" "[LSagMemory$Slot;") (wl_mem 3 rfl)) (fun _ h9 => h9) rfl dX11_paste_26 ?_
            refine lv_iload_n hx hb dX11_paste_29 rfl (lv_at hl 4 rfl) ?_
            rcases (show p3 = 0 ∨ p3 = 1 ∨ p3 = 2 ∨ p3 = 3 by simp only [zi_eq]; show p3.toInt = 0 ∨ p3.toInt = 1 ∨ p3.toInt = 2 ∨ p3.toInt = 3; omega) with cz257 | cz257 | cz257 | cz257
            · skip
              have zz258 : p3.toInt = (0 : Int) := zi_eq.mp cz257
              refine W.eq (g2 := F0 m 30 ls [.int 0, .ref (qX 3)]) (by rw [cz257]) ?_
              refine va_aldq hx hb hK hP 11 6 rfl rfl (by unfold vp_in; decide) dX11_paste_30 ?_
              refine W.eq (g2 := F0 m 31 ls [.ref (qL0 0)]) rfl ?_
              refine lv_astore (lv' := [(7, .ref (qL0 0)), (6, .ref (qL2 0)), (0, .ref (qX 0)), (1, .int p1), (2, .int p2), (3, .int p3), (4, .int p4), (5, .int p5)]) hx hb dX11_paste_31 hl (by decide) rfl (fun ls hl => ?_)
              refine lv_aload hx hb dX11_paste_33 (lv_at hl 1 rfl) ?_
              refine va_get (D := (dC, dI)) (ci := 6) (v := .int (vL2 0)) (C := RX6) (T := TX6) (N := 4) hx hb hts (fun w h => List.mem_cons_of_mem _ (List.mem_append_right _ (List.mem_append_right _ (List.mem_append_right _ (List.mem_append_left _ h))))) hown hK hP 4 rfl rfl 1 (by decide) (hts (.fieldLink RX11 386 "SagMemory$Slot" "has" "Z") (wl_mem 4 rfl)) (fun _ h9 => h9) rfl dX11_paste_35 ?_
              refine lv_if_eq (tgt := 49) hx hb dX11_paste_38 (by decide) (fun cz259 => ?_) (fun cz259 => ?_)
              · skip
                have zz260 : (vL2 0).toInt = (0 : Int) := zi_eq.mp cz259
                refine lv_bipush (v := (-6)) hx hb dX11_paste_49 (by decide) ?_
                rw [hQ]
                exact W.iret (v := (-6 : Int32)) hx hb hr (fun t ht hW => ⟨⟨(-6 : Int32), (), rfl, trivial, vL0, sL0, lL0, vL1, sL1, lL1, vL2, sL2, lL2, vL3, sL3, lL3, hsL0, hsL1, hsL2, hsL3, by rw [ht]; exact hP⟩, hS.F ht⟩) hS.2.2 dX11_paste_51
              · skip
                have zz261 : ¬ (vL2 0).toInt = (0 : Int) := fun h9 => cz259 (zi_eq.mpr h9)
                refine lv_aload hx hb dX11_paste_41 (lv_at hl 0 rfl) ?_
                refine va_get (D := (dC, dI)) (ci := 6) (v := .int (vL0 0)) (C := RX6) (T := TX6) (N := 4) hx hb hts (fun w h => List.mem_cons_of_mem _ (List.mem_append_right _ (List.mem_append_right _ (List.mem_append_right _ (List.mem_append_left _ h))))) hown hK hP 0 rfl rfl 1 (by decide) (hts (.fieldLink RX11 386 "SagMemory$Slot" "has" "Z") (wl_mem 4 rfl)) (fun _ h9 => h9) rfl dX11_paste_43 ?_
                refine lv_if_ne (tgt := 52) hx hb dX11_paste_46 (by decide) (fun cz262 => ?_) (fun cz262 => ?_)
                · skip
                  have zz263 : ¬ (vL0 0).toInt = (0 : Int) := fun h9 => cz262 (zi_eq.mpr h9)
                  refine lv_aload hx hb dX11_paste_52 (lv_at hl 1 rfl) ?_
                  refine va_get (D := (dC, dI)) (ci := 6) (v := .int (vL2 1)) (C := RX6) (T := TX6) (N := 4) hx hb hts (fun w h => List.mem_cons_of_mem _ (List.mem_append_right _ (List.mem_append_right _ (List.mem_append_right _ (List.mem_append_left _ h))))) hown hK hP 4 rfl rfl 2 (by decide) (hts (.fieldLink RX11 396 "SagMemory$Slot" "width" "I") (wl_mem 5 rfl)) (fun _ h9 => h9) rfl dX11_paste_54 ?_
                  refine lv_aload hx hb dX11_paste_57 (lv_at hl 0 rfl) ?_
                  refine va_get (D := (dC, dI)) (ci := 6) (v := .int (vL0 1)) (C := RX6) (T := TX6) (N := 4) hx hb hts (fun w h => List.mem_cons_of_mem _ (List.mem_append_right _ (List.mem_append_right _ (List.mem_append_right _ (List.mem_append_left _ h))))) hown hK hP 0 rfl rfl 2 (by decide) (hts (.fieldLink RX11 396 "SagMemory$Slot" "width" "I") (wl_mem 5 rfl)) (fun _ h9 => h9) rfl dX11_paste_59 ?_
                  refine lv_icmp_eq (tgt := 68) hx hb dX11_paste_62 (by decide) (fun cz264 => ?_) (fun cz264 => ?_)
                  · skip
                    have zz265 : (vL2 1).toInt = (vL0 1).toInt := zi_eq.mp cz264
                    refine lv_aload hx hb dX11_paste_68 (lv_at hl 1 rfl) ?_
                    refine lv_iload_n hx hb dX11_paste_70 rfl (lv_at hl 4 rfl) ?_
                    refine lv_iload hx hb dX11_paste_71 (lv_at hl 7 rfl) ?_
                    have hPc := hP.sub (ws' := (List.flatten [(wSlot qL2 k vL2 sL2 lL2)])) [4, 5] rfl
                    refine vp_callSi (va_Run.run (va_runV (As := [.int p2, .int p5]) (rest := []) ⟨hx, hb, hml, hown, hts⟩ (c_X6_spans l dC dI k qL2 vL2 sL2 lL2 p2 p5 hsL2) (cwV 2 hts (gk_V (wl_mem 6 rfl) (wl_mem 7 rfl) (wl_mem 8 rfl) (wl_mem 9 rfl) (fun w h => List.mem_cons_of_mem _ (List.mem_append_right _ (List.mem_append_right _ (List.mem_append_right _ (List.mem_append_right _ (List.mem_append_left _ h)))))) wkg_c_X6_spans) rfl rfl rfl (by decide +kernel) ⟨Nat.le_of_ble_eq_true rfl, Nat.le_of_ble_eq_true rfl⟩) ⟨fun a U g mk q => by obtain ⟨q0, qP, qK⟩ := q; exact ⟨q0, qP, va_K.moved (u := U) (U := U.calling g mk a) (Vm.Alike.refl U.vm) qK⟩, va_recv hK hPc (ci := 6) (q0 := 0) rfl rfl, fun U hU hW => ⟨rfl, by rw [hU]; exact hPc, va_K.moved hW.alike hK⟩⟩ rfl rfl hl.1 rfl (lv_room (Nat.le_of_ble_eq_true rfl)) dX11_paste_73 ⟨Nat.le_of_ble_eq_true rfl, Nat.le_of_ble_eq_true rfl⟩)) (fun rz267 gz266 => ?_)
                    clear hPc
                    obtain ⟨pz268, pz269⟩ := gz266
                    have pz268 : rz267.toInt = 0 ∨ (0 ≤ p2.toInt ∧ 0 ≤ p5.toInt ∧ p2.toInt + p5.toInt ≤ (sL2 0).toInt) := pz268
                    have pz269 : rz267.toInt = 0 ∨ rz267.toInt = 1 := pz269
                    have bz270 := hsL2 0
                    refine lv_if_eq (tgt := 91) hx hb dX11_paste_76 (by decide) (fun cz271 => ?_) (fun cz271 => ?_)
                    · skip
                      have zz272 : rz267.toInt = (0 : Int) := zi_eq.mp cz271
                      refine lv_bipush (v := (-7)) hx hb dX11_paste_91 (by decide) ?_
                      rw [hQ]
                      exact W.iret (v := (-7 : Int32)) hx hb hr (fun t ht hW => ⟨⟨(-7 : Int32), (), rfl, trivial, vL0, sL0, lL0, vL1, sL1, lL1, vL2, sL2, lL2, vL3, sL3, lL3, hsL0, hsL1, hsL2, hsL3, by rw [ht]; exact hP⟩, hS.F ht⟩) hS.2.2 dX11_paste_93
                    · skip
                      have zz273 : ¬ rz267.toInt = (0 : Int) := fun h9 => cz271 (zi_eq.mpr h9)
                      refine lv_aload hx hb dX11_paste_79 (lv_at hl 0 rfl) ?_
                      refine lv_iload hx hb dX11_paste_81 (lv_at hl 6 rfl) ?_
                      refine lv_iload hx hb dX11_paste_83 (lv_at hl 7 rfl) ?_
                      have hPc := hP.sub (ws' := (List.flatten [(wSlot qL0 k vL0 sL0 lL0)])) [0, 1] rfl
                      refine vp_callSi (va_Run.run (va_runV (As := [.int p4, .int p5]) (rest := []) ⟨hx, hb, hml, hown, hts⟩ (c_X6_spans l dC dI k qL0 vL0 sL0 lL0 p4 p5 hsL0) (cwV 2 hts (gk_V (wl_mem 6 rfl) (wl_mem 7 rfl) (wl_mem 8 rfl) (wl_mem 9 rfl) (fun w h => List.mem_cons_of_mem _ (List.mem_append_right _ (List.mem_append_right _ (List.mem_append_right _ (List.mem_append_right _ (List.mem_append_left _ h)))))) wkg_c_X6_spans) rfl rfl rfl (by decide +kernel) ⟨Nat.le_of_ble_eq_true rfl, Nat.le_of_ble_eq_true rfl⟩) ⟨fun a U g mk q => by obtain ⟨q0, qP, qK⟩ := q; exact ⟨q0, qP, va_K.moved (u := U) (U := U.calling g mk a) (Vm.Alike.refl U.vm) qK⟩, va_recv hK hPc (ci := 6) (q0 := 0) rfl rfl, fun U hU hW => ⟨rfl, by rw [hU]; exact hPc, va_K.moved hW.alike hK⟩⟩ rfl rfl hl.1 rfl (lv_room (Nat.le_of_ble_eq_true rfl)) dX11_paste_85 ⟨Nat.le_of_ble_eq_true rfl, Nat.le_of_ble_eq_true rfl⟩)) (fun rz275 gz274 => ?_)
                      clear hPc
                      obtain ⟨pz276, pz277⟩ := gz274
                      have pz276 : rz275.toInt = 0 ∨ (0 ≤ p4.toInt ∧ 0 ≤ p5.toInt ∧ p4.toInt + p5.toInt ≤ (sL0 0).toInt) := pz276
                      have pz277 : rz275.toInt = 0 ∨ rz275.toInt = 1 := pz277
                      have bz278 := hsL0 0
                      refine lv_if_ne (tgt := 94) hx hb dX11_paste_88 (by decide) (fun cz279 => ?_) (fun cz279 => ?_)
                      · skip
                        have zz280 : ¬ rz275.toInt = (0 : Int) := fun h9 => cz279 (zi_eq.mpr h9)
                        refine lv_aload hx hb dX11_paste_94 (lv_at hl 1 rfl) ?_
                        refine va_get (D := (dC, dI)) (ci := 6) (v := .ref (qL2 1)) (C := RX6) (T := TX6) (N := 4) hx hb hts (fun w h => List.mem_cons_of_mem _ (List.mem_append_right _ (List.mem_append_right _ (List.mem_append_right _ (List.mem_append_left _ h))))) hown hK hP 4 rfl rfl 0 (by decide) (hts (.fieldLink RX11 388 "SagMemory$Slot" "numbers" "[J") (wl_mem 10 rfl)) (fun _ h9 => h9) rfl dX11_paste_96 ?_
                        refine lv_iload_n hx hb dX11_paste_99 rfl (lv_at hl 4 rfl) ?_
                        refine lv_aload hx hb dX11_paste_100 (lv_at hl 0 rfl) ?_
                        refine va_get (D := (dC, dI)) (ci := 6) (v := .ref (qL0 1)) (C := RX6) (T := TX6) (N := 4) hx hb hts (fun w h => List.mem_cons_of_mem _ (List.mem_append_right _ (List.mem_append_right _ (List.mem_append_right _ (List.mem_append_left _ h))))) hown hK hP 0 rfl rfl 0 (by decide) (hts (.fieldLink RX11 388 "SagMemory$Slot" "numbers" "[J") (wl_mem 10 rfl)) (fun _ h9 => h9) rfl dX11_paste_102 ?_
                        refine lv_iload hx hb dX11_paste_105 (lv_at hl 6 rfl) ?_
                        refine lv_iload hx hb dX11_paste_107 (lv_at hl 7 rfl) ?_
                        refine va_copyl (ty := .long) hx hb (by rw [hml]; exact hl.1.symm) hown (hts (.methodLink RX11 402 arraycopyName) (wl_mem 11 rfl)) (hts (.native arraycopyName) (wl_mem 12 rfl)) (hts (.static arraycopyName) (wl_mem 13 rfl)) (hts (.initialized "java/lang/System") (wl_mem 14 rfl)) hK hP hD hS 5 1 1 1 rfl rfl rfl rfl rfl (fun h9 => by have h8 := zi_lt.mp h9; have h8 : p2.toInt < (0 : Int) := h8; omega) (fun h9 => by have h8 := zi_lt.mp h9; have h8 : p4.toInt < (0 : Int) := h8; omega) (fun h9 => by have h8 := zi_lt.mp h9; have h8 : p5.toInt < (0 : Int) := h8; omega) (by have h8 := zc_nat p2 (by show 0 ≤ p2.toInt; omega); have h9 := zc_nat p5 (by show 0 ≤ p5.toInt; omega); have h8 : ((p2).toNatClampNeg : Int) = p2.toInt := h8; have h9 : ((p5).toNatClampNeg : Int) = p5.toInt := h9; omega) (by have h8 := zc_nat p4 (by show 0 ≤ p4.toInt; omega); have h9 := zc_nat p5 (by show 0 ≤ p5.toInt; omega); have h8 : ((p4).toNatClampNeg : Int) = p4.toInt := h8; have h9 : ((p5).toNatClampNeg : Int) = p5.toInt := h9; omega) (fun _ _ => rfl) (Nat.le_of_ble_eq_true rfl) (Nat.le_of_ble_eq_true rfl) dX11_paste_109 (fun H locs hP hD hS => ?_)
                        obtain ⟨fz281, efz281, hP, hD⟩ : ∃ fz281 : Nat → Int64, fz281 = va_cpy (lL2 0) (lL0 0) p2.toNatClampNeg p4.toNatClampNeg p5.toNatClampNeg ∧ va_P (dC, dI) vwCl (List.flatten [(wSlot qL0 k vL0 sL0 (va_up lL0 0 fz281)), (wSlot qL1 k vL1 sL1 lL1), (wSlot qL2 k vL2 sL2 lL2), (wSlot qL3 k vL3 sL3 lL3)] ++ List.flatten [(wSag qX k tapeX toldX actsX nowX trialX storyX attemptX orderSearchX routeSearchX setSearchX probeX (qL0 0) (qL1 0) (qL2 0) (qL3 0) image0X image1X image2X aX)]) H ∧ va_D A (List.flatten [(wSlot qL0 k vL0 sL0 (va_up lL0 0 fz281)), (wSlot qL1 k vL1 sL1 lL1), (wSlot qL2 k vL2 sL2 lL2), (wSlot qL3 k vL3 sL3 lL3)] ++ List.flatten [(wSag qX k tapeX toldX actsX nowX trialX storyX attemptX orderSearchX routeSearchX setSearchX probeX (qL0 0) (qL1 0) (qL2 0) (qL3 0) image0X image1X image2X aX)]) := ⟨_, rfl, hP, hD⟩
                        refine lv_iconst (v := 0) hx hb dX11_paste_112 (by decide) ?_
                        rw [hQ]
                        exact W.iret (v := (0 : Int32)) hx hb hr (fun t ht hW => ⟨⟨(0 : Int32), (), rfl, trivial, vL0, sL0, (va_up lL0 0 fz281), vL1, sL1, lL1, vL2, sL2, lL2, vL3, sL3, lL3, hsL0, hsL1, hsL2, hsL3, by rw [ht]; exact hP⟩, hS.F ht⟩) hS.2.2 dX11_paste_113
                      · skip
                        have zz282 : rz275.toInt = (0 : Int) := zi_eq.mp cz279
                        refine lv_bipush (v := (-7)) hx hb dX11_paste_91 (by decide) ?_
                        rw [hQ]
                        exact W.iret (v := (-7 : Int32)) hx hb hr (fun t ht hW => ⟨⟨(-7 : Int32), (), rfl, trivial, vL0, sL0, lL0, vL1, sL1, lL1, vL2, sL2, lL2, vL3, sL3, lL3, hsL0, hsL1, hsL2, hsL3, by rw [ht]; exact hP⟩, hS.F ht⟩) hS.2.2 dX11_paste_93
                  · skip
                    have zz283 : ¬ (vL2 1).toInt = (vL0 1).toInt := fun h9 => cz264 (zi_eq.mpr h9)
                    refine lv_bipush (v := (-8)) hx hb dX11_paste_65 (by decide) ?_
                    rw [hQ]
                    exact W.iret (v := (-8 : Int32)) hx hb hr (fun t ht hW => ⟨⟨(-8 : Int32), (), rfl, trivial, vL0, sL0, lL0, vL1, sL1, lL1, vL2, sL2, lL2, vL3, sL3, lL3, hsL0, hsL1, hsL2, hsL3, by rw [ht]; exact hP⟩, hS.F ht⟩) hS.2.2 dX11_paste_67
                · skip
                  have zz284 : (vL0 0).toInt = (0 : Int) := zi_eq.mp cz262
                  refine lv_bipush (v := (-6)) hx hb dX11_paste_49 (by decide) ?_
                  rw [hQ]
                  exact W.iret (v := (-6 : Int32)) hx hb hr (fun t ht hW => ⟨⟨(-6 : Int32), (), rfl, trivial, vL0, sL0, lL0, vL1, sL1, lL1, vL2, sL2, lL2, vL3, sL3, lL3, hsL0, hsL1, hsL2, hsL3, by rw [ht]; exact hP⟩, hS.F ht⟩) hS.2.2 dX11_paste_51
            · skip
              have zz285 : p3.toInt = (1 : Int) := zi_eq.mp cz257
              refine W.eq (g2 := F0 m 30 ls [.int 1, .ref (qX 3)]) (by rw [cz257]) ?_
              refine va_aldq hx hb hK hP 11 6 rfl rfl (by unfold vp_in; decide) dX11_paste_30 ?_
              refine W.eq (g2 := F0 m 31 ls [.ref (qL1 0)]) rfl ?_
              refine lv_astore (lv' := [(7, .ref (qL1 0)), (6, .ref (qL2 0)), (0, .ref (qX 0)), (1, .int p1), (2, .int p2), (3, .int p3), (4, .int p4), (5, .int p5)]) hx hb dX11_paste_31 hl (by decide) rfl (fun ls hl => ?_)
              refine lv_aload hx hb dX11_paste_33 (lv_at hl 1 rfl) ?_
              refine va_get (D := (dC, dI)) (ci := 6) (v := .int (vL2 0)) (C := RX6) (T := TX6) (N := 4) hx hb hts (fun w h => List.mem_cons_of_mem _ (List.mem_append_right _ (List.mem_append_right _ (List.mem_append_right _ (List.mem_append_left _ h))))) hown hK hP 4 rfl rfl 1 (by decide) (hts (.fieldLink RX11 386 "SagMemory$Slot" "has" "Z") (wl_mem 4 rfl)) (fun _ h9 => h9) rfl dX11_paste_35 ?_
              refine lv_if_eq (tgt := 49) hx hb dX11_paste_38 (by decide) (fun cz286 => ?_) (fun cz286 => ?_)
              · skip
                have zz287 : (vL2 0).toInt = (0 : Int) := zi_eq.mp cz286
                refine lv_bipush (v := (-6)) hx hb dX11_paste_49 (by decide) ?_
                rw [hQ]
                exact W.iret (v := (-6 : Int32)) hx hb hr (fun t ht hW => ⟨⟨(-6 : Int32), (), rfl, trivial, vL0, sL0, lL0, vL1, sL1, lL1, vL2, sL2, lL2, vL3, sL3, lL3, hsL0, hsL1, hsL2, hsL3, by rw [ht]; exact hP⟩, hS.F ht⟩) hS.2.2 dX11_paste_51
              · skip
                have zz288 : ¬ (vL2 0).toInt = (0 : Int) := fun h9 => cz286 (zi_eq.mpr h9)
                refine lv_aload hx hb dX11_paste_41 (lv_at hl 0 rfl) ?_
                refine va_get (D := (dC, dI)) (ci := 6) (v := .int (vL1 0)) (C := RX6) (T := TX6) (N := 4) hx hb hts (fun w h => List.mem_cons_of_mem _ (List.mem_append_right _ (List.mem_append_right _ (List.mem_append_right _ (List.mem_append_left _ h))))) hown hK hP 2 rfl rfl 1 (by decide) (hts (.fieldLink RX11 386 "SagMemory$Slot" "has" "Z") (wl_mem 4 rfl)) (fun _ h9 => h9) rfl dX11_paste_43 ?_
                refine lv_if_ne (tgt := 52) hx hb dX11_paste_46 (by decide) (fun cz289 => ?_) (fun cz289 => ?_)
                · skip
                  have zz290 : ¬ (vL1 0).toInt = (0 : Int) := fun h9 => cz289 (zi_eq.mpr h9)
                  refine lv_aload hx hb dX11_paste_52 (lv_at hl 1 rfl) ?_
                  refine va_get (D := (dC, dI)) (ci := 6) (v := .int (vL2 1)) (C := RX6) (T := TX6) (N := 4) hx hb hts (fun w h => List.mem_cons_of_mem _ (List.mem_append_right _ (List.mem_append_right _ (List.mem_append_right _ (List.mem_append_left _ h))))) hown hK hP 4 rfl rfl 2 (by decide) (hts (.fieldLink RX11 396 "SagMemory$Slot" "width" "I") (wl_mem 5 rfl)) (fun _ h9 => h9) rfl dX11_paste_54 ?_
                  refine lv_aload hx hb dX11_paste_57 (lv_at hl 0 rfl) ?_
                  refine va_get (D := (dC, dI)) (ci := 6) (v := .int (vL1 1)) (C := RX6) (T := TX6) (N := 4) hx hb hts (fun w h => List.mem_cons_of_mem _ (List.mem_append_right _ (List.mem_append_right _ (List.mem_append_right _ (List.mem_append_left _ h))))) hown hK hP 2 rfl rfl 2 (by decide) (hts (.fieldLink RX11 396 "SagMemory$Slot" "width" "I") (wl_mem 5 rfl)) (fun _ h9 => h9) rfl dX11_paste_59 ?_
                  refine lv_icmp_eq (tgt := 68) hx hb dX11_paste_62 (by decide) (fun cz291 => ?_) (fun cz291 => ?_)
                  · skip
                    have zz292 : (vL2 1).toInt = (vL1 1).toInt := zi_eq.mp cz291
                    refine lv_aload hx hb dX11_paste_68 (lv_at hl 1 rfl) ?_
                    refine lv_iload_n hx hb dX11_paste_70 rfl (lv_at hl 4 rfl) ?_
                    refine lv_iload hx hb dX11_paste_71 (lv_at hl 7 rfl) ?_
                    have hPc := hP.sub (ws' := (List.flatten [(wSlot qL2 k vL2 sL2 lL2)])) [4, 5] rfl
                    refine vp_callSi (va_Run.run (va_runV (As := [.int p2, .int p5]) (rest := []) ⟨hx, hb, hml, hown, hts⟩ (c_X6_spans l dC dI k qL2 vL2 sL2 lL2 p2 p5 hsL2) (cwV 2 hts (gk_V (wl_mem 6 rfl) (wl_mem 7 rfl) (wl_mem 8 rfl) (wl_mem 9 rfl) (fun w h => List.mem_cons_of_mem _ (List.mem_append_right _ (List.mem_append_right _ (List.mem_append_right _ (List.mem_append_right _ (List.mem_append_left _ h)))))) wkg_c_X6_spans) rfl rfl rfl (by decide +kernel) ⟨Nat.le_of_ble_eq_true rfl, Nat.le_of_ble_eq_true rfl⟩) ⟨fun a U g mk q => by obtain ⟨q0, qP, qK⟩ := q; exact ⟨q0, qP, va_K.moved (u := U) (U := U.calling g mk a) (Vm.Alike.refl U.vm) qK⟩, va_recv hK hPc (ci := 6) (q0 := 0) rfl rfl, fun U hU hW => ⟨rfl, by rw [hU]; exact hPc, va_K.moved hW.alike hK⟩⟩ rfl rfl hl.1 rfl (lv_room (Nat.le_of_ble_eq_true rfl)) dX11_paste_73 ⟨Nat.le_of_ble_eq_true rfl, Nat.le_of_ble_eq_true rfl⟩)) (fun rz294 gz293 => ?_)
                    clear hPc
                    obtain ⟨pz295, pz296⟩ := gz293
                    have pz295 : rz294.toInt = 0 ∨ (0 ≤ p2.toInt ∧ 0 ≤ p5.toInt ∧ p2.toInt + p5.toInt ≤ (sL2 0).toInt) := pz295
                    have pz296 : rz294.toInt = 0 ∨ rz294.toInt = 1 := pz296
                    have bz297 := hsL2 0
                    refine lv_if_eq (tgt := 91) hx hb dX11_paste_76 (by decide) (fun cz298 => ?_) (fun cz298 => ?_)
                    · skip
                      have zz299 : rz294.toInt = (0 : Int) := zi_eq.mp cz298
                      refine lv_bipush (v := (-7)) hx hb dX11_paste_91 (by decide) ?_
                      rw [hQ]
                      exact W.iret (v := (-7 : Int32)) hx hb hr (fun t ht hW => ⟨⟨(-7 : Int32), (), rfl, trivial, vL0, sL0, lL0, vL1, sL1, lL1, vL2, sL2, lL2, vL3, sL3, lL3, hsL0, hsL1, hsL2, hsL3, by rw [ht]; exact hP⟩, hS.F ht⟩) hS.2.2 dX11_paste_93
                    · skip
                      have zz300 : ¬ rz294.toInt = (0 : Int) := fun h9 => cz298 (zi_eq.mpr h9)
                      refine lv_aload hx hb dX11_paste_79 (lv_at hl 0 rfl) ?_
                      refine lv_iload hx hb dX11_paste_81 (lv_at hl 6 rfl) ?_
                      refine lv_iload hx hb dX11_paste_83 (lv_at hl 7 rfl) ?_
                      have hPc := hP.sub (ws' := (List.flatten [(wSlot qL1 k vL1 sL1 lL1)])) [2, 3] rfl
                      refine vp_callSi (va_Run.run (va_runV (As := [.int p4, .int p5]) (rest := []) ⟨hx, hb, hml, hown, hts⟩ (c_X6_spans l dC dI k qL1 vL1 sL1 lL1 p4 p5 hsL1) (cwV 2 hts (gk_V (wl_mem 6 rfl) (wl_mem 7 rfl) (wl_mem 8 rfl) (wl_mem 9 rfl) (fun w h => List.mem_cons_of_mem _ (List.mem_append_right _ (List.mem_append_right _ (List.mem_append_right _ (List.mem_append_right _ (List.mem_append_left _ h)))))) wkg_c_X6_spans) rfl rfl rfl (by decide +kernel) ⟨Nat.le_of_ble_eq_true rfl, Nat.le_of_ble_eq_true rfl⟩) ⟨fun a U g mk q => by obtain ⟨q0, qP, qK⟩ := q; exact ⟨q0, qP, va_K.moved (u := U) (U := U.calling g mk a) (Vm.Alike.refl U.vm) qK⟩, va_recv hK hPc (ci := 6) (q0 := 0) rfl rfl, fun U hU hW => ⟨rfl, by rw [hU]; exact hPc, va_K.moved hW.alike hK⟩⟩ rfl rfl hl.1 rfl (lv_room (Nat.le_of_ble_eq_true rfl)) dX11_paste_85 ⟨Nat.le_of_ble_eq_true rfl, Nat.le_of_ble_eq_true rfl⟩)) (fun rz302 gz301 => ?_)
                      clear hPc
                      obtain ⟨pz303, pz304⟩ := gz301
                      have pz303 : rz302.toInt = 0 ∨ (0 ≤ p4.toInt ∧ 0 ≤ p5.toInt ∧ p4.toInt + p5.toInt ≤ (sL1 0).toInt) := pz303
                      have pz304 : rz302.toInt = 0 ∨ rz302.toInt = 1 := pz304
                      have bz305 := hsL1 0
                      refine lv_if_ne (tgt := 94) hx hb dX11_paste_88 (by decide) (fun cz306 => ?_) (fun cz306 => ?_)
                      · skip
                        have zz307 : ¬ rz302.toInt = (0 : Int) := fun h9 => cz306 (zi_eq.mpr h9)
                        refine lv_aload hx hb dX11_paste_94 (lv_at hl 1 rfl) ?_
                        refine va_get (D := (dC, dI)) (ci := 6) (v := .ref (qL2 1)) (C := RX6) (T := TX6) (N := 4) hx hb hts (fun w h => List.mem_cons_of_mem _ (List.mem_append_right _ (List.mem_append_right _ (List.mem_append_right _ (List.mem_append_left _ h))))) hown hK hP 4 rfl rfl 0 (by decide) (hts (.fieldLink RX11 388 "SagMemory$Slot" "numbers" "[J") (wl_mem 10 rfl)) (fun _ h9 => h9) rfl dX11_paste_96 ?_
                        refine lv_iload_n hx hb dX11_paste_99 rfl (lv_at hl 4 rfl) ?_
                        refine lv_aload hx hb dX11_paste_100 (lv_at hl 0 rfl) ?_
                        refine va_get (D := (dC, dI)) (ci := 6) (v := .ref (qL1 1)) (C := RX6) (T := TX6) (N := 4) hx hb hts (fun w h => List.mem_cons_of_mem _ (List.mem_append_right _ (List.mem_append_right _ (List.mem_append_right _ (List.mem_append_left _ h))))) hown hK hP 2 rfl rfl 0 (by decide) (hts (.fieldLink RX11 388 "SagMemory$Slot" "numbers" "[J") (wl_mem 10 rfl)) (fun _ h9 => h9) rfl dX11_paste_102 ?_
                        refine lv_iload hx hb dX11_paste_105 (lv_at hl 6 rfl) ?_
                        refine lv_iload hx hb dX11_paste_107 (lv_at hl 7 rfl) ?_
                        refine va_copyl (ty := .long) hx hb (by rw [hml]; exact hl.1.symm) hown (hts (.methodLink RX11 402 arraycopyName) (wl_mem 11 rfl)) (hts (.native arraycopyName) (wl_mem 12 rfl)) (hts (.static arraycopyName) (wl_mem 13 rfl)) (hts (.initialized "java/lang/System") (wl_mem 14 rfl)) hK hP hD hS 5 3 1 1 rfl rfl rfl rfl rfl (fun h9 => by have h8 := zi_lt.mp h9; have h8 : p2.toInt < (0 : Int) := h8; omega) (fun h9 => by have h8 := zi_lt.mp h9; have h8 : p4.toInt < (0 : Int) := h8; omega) (fun h9 => by have h8 := zi_lt.mp h9; have h8 : p5.toInt < (0 : Int) := h8; omega) (by have h8 := zc_nat p2 (by show 0 ≤ p2.toInt; omega); have h9 := zc_nat p5 (by show 0 ≤ p5.toInt; omega); have h8 : ((p2).toNatClampNeg : Int) = p2.toInt := h8; have h9 : ((p5).toNatClampNeg : Int) = p5.toInt := h9; omega) (by have h8 := zc_nat p4 (by show 0 ≤ p4.toInt; omega); have h9 := zc_nat p5 (by show 0 ≤ p5.toInt; omega); have h8 : ((p4).toNatClampNeg : Int) = p4.toInt := h8; have h9 : ((p5).toNatClampNeg : Int) = p5.toInt := h9; omega) (fun _ _ => rfl) (Nat.le_of_ble_eq_true rfl) (Nat.le_of_ble_eq_true rfl) dX11_paste_109 (fun H locs hP hD hS => ?_)
                        obtain ⟨fz308, efz308, hP, hD⟩ : ∃ fz308 : Nat → Int64, fz308 = va_cpy (lL2 0) (lL1 0) p2.toNatClampNeg p4.toNatClampNeg p5.toNatClampNeg ∧ va_P (dC, dI) vwCl (List.flatten [(wSlot qL0 k vL0 sL0 lL0), (wSlot qL1 k vL1 sL1 (va_up lL1 0 fz308)), (wSlot qL2 k vL2 sL2 lL2), (wSlot qL3 k vL3 sL3 lL3)] ++ List.flatten [(wSag qX k tapeX toldX actsX nowX trialX storyX attemptX orderSearchX routeSearchX setSearchX probeX (qL0 0) (qL1 0) (qL2 0) (qL3 0) image0X image1X image2X aX)]) H ∧ va_D A (List.flatten [(wSlot qL0 k vL0 sL0 lL0), (wSlot qL1 k vL1 sL1 (va_up lL1 0 fz308)), (wSlot qL2 k vL2 sL2 lL2), (wSlot qL3 k vL3 sL3 lL3)] ++ List.flatten [(wSag qX k tapeX toldX actsX nowX trialX storyX attemptX orderSearchX routeSearchX setSearchX probeX (qL0 0) (qL1 0) (qL2 0) (qL3 0) image0X image1X image2X aX)]) := ⟨_, rfl, hP, hD⟩
                        refine lv_iconst (v := 0) hx hb dX11_paste_112 (by decide) ?_
                        rw [hQ]
                        exact W.iret (v := (0 : Int32)) hx hb hr (fun t ht hW => ⟨⟨(0 : Int32), (), rfl, trivial, vL0, sL0, lL0, vL1, sL1, (va_up lL1 0 fz308), vL2, sL2, lL2, vL3, sL3, lL3, hsL0, hsL1, hsL2, hsL3, by rw [ht]; exact hP⟩, hS.F ht⟩) hS.2.2 dX11_paste_113
                      · skip
                        have zz309 : rz302.toInt = (0 : Int) := zi_eq.mp cz306
                        refine lv_bipush (v := (-7)) hx hb dX11_paste_91 (by decide) ?_
                        rw [hQ]
                        exact W.iret (v := (-7 : Int32)) hx hb hr (fun t ht hW => ⟨⟨(-7 : Int32), (), rfl, trivial, vL0, sL0, lL0, vL1, sL1, lL1, vL2, sL2, lL2, vL3, sL3, lL3, hsL0, hsL1, hsL2, hsL3, by rw [ht]; exact hP⟩, hS.F ht⟩) hS.2.2 dX11_paste_93
                  · skip
                    have zz310 : ¬ (vL2 1).toInt = (vL1 1).toInt := fun h9 => cz291 (zi_eq.mpr h9)
                    refine lv_bipush (v := (-8)) hx hb dX11_paste_65 (by decide) ?_
                    rw [hQ]
                    exact W.iret (v := (-8 : Int32)) hx hb hr (fun t ht hW => ⟨⟨(-8 : Int32), (), rfl, trivial, vL0, sL0, lL0, vL1, sL1, lL1, vL2, sL2, lL2, vL3, sL3, lL3, hsL0, hsL1, hsL2, hsL3, by rw [ht]; exact hP⟩, hS.F ht⟩) hS.2.2 dX11_paste_67
                · skip
                  have zz311 : (vL1 0).toInt = (0 : Int) := zi_eq.mp cz289
                  refine lv_bipush (v := (-6)) hx hb dX11_paste_49 (by decide) ?_
                  rw [hQ]
                  exact W.iret (v := (-6 : Int32)) hx hb hr (fun t ht hW => ⟨⟨(-6 : Int32), (), rfl, trivial, vL0, sL0, lL0, vL1, sL1, lL1, vL2, sL2, lL2, vL3, sL3, lL3, hsL0, hsL1, hsL2, hsL3, by rw [ht]; exact hP⟩, hS.F ht⟩) hS.2.2 dX11_paste_51
            · skip
              have zz312 : p3.toInt = (2 : Int) := zi_eq.mp cz257
              refine W.eq (g2 := F0 m 30 ls [.int 2, .ref (qX 3)]) (by rw [cz257]) ?_
              refine va_aldq hx hb hK hP 11 6 rfl rfl (by unfold vp_in; decide) dX11_paste_30 ?_
              refine W.eq (g2 := F0 m 31 ls [.ref (qL2 0)]) rfl ?_
              refine lv_astore (lv' := [(7, .ref (qL2 0)), (6, .ref (qL2 0)), (0, .ref (qX 0)), (1, .int p1), (2, .int p2), (3, .int p3), (4, .int p4), (5, .int p5)]) hx hb dX11_paste_31 hl (by decide) rfl (fun ls hl => ?_)
              refine lv_aload hx hb dX11_paste_33 (lv_at hl 1 rfl) ?_
              refine va_get (D := (dC, dI)) (ci := 6) (v := .int (vL2 0)) (C := RX6) (T := TX6) (N := 4) hx hb hts (fun w h => List.mem_cons_of_mem _ (List.mem_append_right _ (List.mem_append_right _ (List.mem_append_right _ (List.mem_append_left _ h))))) hown hK hP 4 rfl rfl 1 (by decide) (hts (.fieldLink RX11 386 "SagMemory$Slot" "has" "Z") (wl_mem 4 rfl)) (fun _ h9 => h9) rfl dX11_paste_35 ?_
              refine lv_if_eq (tgt := 49) hx hb dX11_paste_38 (by decide) (fun cz313 => ?_) (fun cz313 => ?_)
              · skip
                have zz314 : (vL2 0).toInt = (0 : Int) := zi_eq.mp cz313
                refine lv_bipush (v := (-6)) hx hb dX11_paste_49 (by decide) ?_
                rw [hQ]
                exact W.iret (v := (-6 : Int32)) hx hb hr (fun t ht hW => ⟨⟨(-6 : Int32), (), rfl, trivial, vL0, sL0, lL0, vL1, sL1, lL1, vL2, sL2, lL2, vL3, sL3, lL3, hsL0, hsL1, hsL2, hsL3, by rw [ht]; exact hP⟩, hS.F ht⟩) hS.2.2 dX11_paste_51
              · skip
                have zz315 : ¬ (vL2 0).toInt = (0 : Int) := fun h9 => cz313 (zi_eq.mpr h9)
                refine lv_aload hx hb dX11_paste_41 (lv_at hl 0 rfl) ?_
                refine va_get (D := (dC, dI)) (ci := 6) (v := .int (vL2 0)) (C := RX6) (T := TX6) (N := 4) hx hb hts (fun w h => List.mem_cons_of_mem _ (List.mem_append_right _ (List.mem_append_right _ (List.mem_append_right _ (List.mem_append_left _ h))))) hown hK hP 4 rfl rfl 1 (by decide) (hts (.fieldLink RX11 386 "SagMemory$Slot" "has" "Z") (wl_mem 4 rfl)) (fun _ h9 => h9) rfl dX11_paste_43 ?_
                refine lv_if_ne (tgt := 52) hx hb dX11_paste_46 (by decide) (fun cz316 => ?_) (fun cz316 => ?_)
                · skip
                  have zz317 : ¬ (vL2 0).toInt = (0 : Int) := fun h9 => cz316 (zi_eq.mpr h9)
                  refine lv_aload hx hb dX11_paste_52 (lv_at hl 1 rfl) ?_
                  refine va_get (D := (dC, dI)) (ci := 6) (v := .int (vL2 1)) (C := RX6) (T := TX6) (N := 4) hx hb hts (fun w h => List.mem_cons_of_mem _ (List.mem_append_right _ (List.mem_append_right _ (List.mem_append_right _ (List.mem_append_left _ h))))) hown hK hP 4 rfl rfl 2 (by decide) (hts (.fieldLink RX11 396 "SagMemory$Slot" "width" "I") (wl_mem 5 rfl)) (fun _ h9 => h9) rfl dX11_paste_54 ?_
                  refine lv_aload hx hb dX11_paste_57 (lv_at hl 0 rfl) ?_
                  refine va_get (D := (dC, dI)) (ci := 6) (v := .int (vL2 1)) (C := RX6) (T := TX6) (N := 4) hx hb hts (fun w h => List.mem_cons_of_mem _ (List.mem_append_right _ (List.mem_append_right _ (List.mem_append_right _ (List.mem_append_left _ h))))) hown hK hP 4 rfl rfl 2 (by decide) (hts (.fieldLink RX11 396 "SagMemory$Slot" "width" "I") (wl_mem 5 rfl)) (fun _ h9 => h9) rfl dX11_paste_59 ?_
                  refine lv_icmp_eq (tgt := 68) hx hb dX11_paste_62 (by decide) (fun cz318 => ?_) (fun cz318 => ?_)
                  · skip
                    have zz319 : (vL2 1).toInt = (vL2 1).toInt := zi_eq.mp cz318
                    refine lv_aload hx hb dX11_paste_68 (lv_at hl 1 rfl) ?_
                    refine lv_iload_n hx hb dX11_paste_70 rfl (lv_at hl 4 rfl) ?_
                    refine lv_iload hx hb dX11_paste_71 (lv_at hl 7 rfl) ?_
                    have hPc := hP.sub (ws' := (List.flatten [(wSlot qL2 k vL2 sL2 lL2)])) [4, 5] rfl
                    refine vp_callSi (va_Run.run (va_runV (As := [.int p2, .int p5]) (rest := []) ⟨hx, hb, hml, hown, hts⟩ (c_X6_spans l dC dI k qL2 vL2 sL2 lL2 p2 p5 hsL2) (cwV 2 hts (gk_V (wl_mem 6 rfl) (wl_mem 7 rfl) (wl_mem 8 rfl) (wl_mem 9 rfl) (fun w h => List.mem_cons_of_mem _ (List.mem_append_right _ (List.mem_append_right _ (List.mem_append_right _ (List.mem_append_right _ (List.mem_append_left _ h)))))) wkg_c_X6_spans) rfl rfl rfl (by decide +kernel) ⟨Nat.le_of_ble_eq_true rfl, Nat.le_of_ble_eq_true rfl⟩) ⟨fun a U g mk q => by obtain ⟨q0, qP, qK⟩ := q; exact ⟨q0, qP, va_K.moved (u := U) (U := U.calling g mk a) (Vm.Alike.refl U.vm) qK⟩, va_recv hK hPc (ci := 6) (q0 := 0) rfl rfl, fun U hU hW => ⟨rfl, by rw [hU]; exact hPc, va_K.moved hW.alike hK⟩⟩ rfl rfl hl.1 rfl (lv_room (Nat.le_of_ble_eq_true rfl)) dX11_paste_73 ⟨Nat.le_of_ble_eq_true rfl, Nat.le_of_ble_eq_true rfl⟩)) (fun rz321 gz320 => ?_)
                    clear hPc
                    obtain ⟨pz322, pz323⟩ := gz320
                    have pz322 : rz321.toInt = 0 ∨ (0 ≤ p2.toInt ∧ 0 ≤ p5.toInt ∧ p2.toInt + p5.toInt ≤ (sL2 0).toInt) := pz322
                    have pz323 : rz321.toInt = 0 ∨ rz321.toInt = 1 := pz323
                    have bz324 := hsL2 0
                    refine lv_if_eq (tgt := 91) hx hb dX11_paste_76 (by decide) (fun cz325 => ?_) (fun cz325 => ?_)
                    · skip
                      have zz326 : rz321.toInt = (0 : Int) := zi_eq.mp cz325
                      refine lv_bipush (v := (-7)) hx hb dX11_paste_91 (by decide) ?_
                      rw [hQ]
                      exact W.iret (v := (-7 : Int32)) hx hb hr (fun t ht hW => ⟨⟨(-7 : Int32), (), rfl, trivial, vL0, sL0, lL0, vL1, sL1, lL1, vL2, sL2, lL2, vL3, sL3, lL3, hsL0, hsL1, hsL2, hsL3, by rw [ht]; exact hP⟩, hS.F ht⟩) hS.2.2 dX11_paste_93
                    · skip
                      have zz327 : ¬ rz321.toInt = (0 : Int) := fun h9 => cz325 (zi_eq.mpr h9)
                      refine lv_aload hx hb dX11_paste_79 (lv_at hl 0 rfl) ?_
                      refine lv_iload hx hb dX11_paste_81 (lv_at hl 6 rfl) ?_
                      refine lv_iload hx hb dX11_paste_83 (lv_at hl 7 rfl) ?_
                      have hPc := hP.sub (ws' := (List.flatten [(wSlot qL2 k vL2 sL2 lL2)])) [4, 5] rfl
                      refine vp_callSi (va_Run.run (va_runV (As := [.int p4, .int p5]) (rest := []) ⟨hx, hb, hml, hown, hts⟩ (c_X6_spans l dC dI k qL2 vL2 sL2 lL2 p4 p5 hsL2) (cwV 2 hts (gk_V (wl_mem 6 rfl) (wl_mem 7 rfl) (wl_mem 8 rfl) (wl_mem 9 rfl) (fun w h => List.mem_cons_of_mem _ (List.mem_append_right _ (List.mem_append_right _ (List.mem_append_right _ (List.mem_append_right _ (List.mem_append_left _ h)))))) wkg_c_X6_spans) rfl rfl rfl (by decide +kernel) ⟨Nat.le_of_ble_eq_true rfl, Nat.le_of_ble_eq_true rfl⟩) ⟨fun a U g mk q => by obtain ⟨q0, qP, qK⟩ := q; exact ⟨q0, qP, va_K.moved (u := U) (U := U.calling g mk a) (Vm.Alike.refl U.vm) qK⟩, va_recv hK hPc (ci := 6) (q0 := 0) rfl rfl, fun U hU hW => ⟨rfl, by rw [hU]; exact hPc, va_K.moved hW.alike hK⟩⟩ rfl rfl hl.1 rfl (lv_room (Nat.le_of_ble_eq_true rfl)) dX11_paste_85 ⟨Nat.le_of_ble_eq_true rfl, Nat.le_of_ble_eq_true rfl⟩)) (fun rz329 gz328 => ?_)
                      clear hPc
                      obtain ⟨pz330, pz331⟩ := gz328
                      have pz330 : rz329.toInt = 0 ∨ (0 ≤ p4.toInt ∧ 0 ≤ p5.toInt ∧ p4.toInt + p5.toInt ≤ (sL2 0).toInt) := pz330
                      have pz331 : rz329.toInt = 0 ∨ rz329.toInt = 1 := pz331
                      refine lv_if_ne (tgt := 94) hx hb dX11_paste_88 (by decide) (fun cz332 => ?_) (fun cz332 => ?_)
                      · skip
                        have zz333 : ¬ rz329.toInt = (0 : Int) := fun h9 => cz332 (zi_eq.mpr h9)
                        refine lv_aload hx hb dX11_paste_94 (lv_at hl 1 rfl) ?_
                        refine va_get (D := (dC, dI)) (ci := 6) (v := .ref (qL2 1)) (C := RX6) (T := TX6) (N := 4) hx hb hts (fun w h => List.mem_cons_of_mem _ (List.mem_append_right _ (List.mem_append_right _ (List.mem_append_right _ (List.mem_append_left _ h))))) hown hK hP 4 rfl rfl 0 (by decide) (hts (.fieldLink RX11 388 "SagMemory$Slot" "numbers" "[J") (wl_mem 10 rfl)) (fun _ h9 => h9) rfl dX11_paste_96 ?_
                        refine lv_iload_n hx hb dX11_paste_99 rfl (lv_at hl 4 rfl) ?_
                        refine lv_aload hx hb dX11_paste_100 (lv_at hl 0 rfl) ?_
                        refine va_get (D := (dC, dI)) (ci := 6) (v := .ref (qL2 1)) (C := RX6) (T := TX6) (N := 4) hx hb hts (fun w h => List.mem_cons_of_mem _ (List.mem_append_right _ (List.mem_append_right _ (List.mem_append_right _ (List.mem_append_left _ h))))) hown hK hP 4 rfl rfl 0 (by decide) (hts (.fieldLink RX11 388 "SagMemory$Slot" "numbers" "[J") (wl_mem 10 rfl)) (fun _ h9 => h9) rfl dX11_paste_102 ?_
                        refine lv_iload hx hb dX11_paste_105 (lv_at hl 6 rfl) ?_
                        refine lv_iload hx hb dX11_paste_107 (lv_at hl 7 rfl) ?_
                        refine va_copyl (ty := .long) hx hb (by rw [hml]; exact hl.1.symm) hown (hts (.methodLink RX11 402 arraycopyName) (wl_mem 11 rfl)) (hts (.native arraycopyName) (wl_mem 12 rfl)) (hts (.static arraycopyName) (wl_mem 13 rfl)) (hts (.initialized "java/lang/System") (wl_mem 14 rfl)) hK hP hD hS 5 5 1 1 rfl rfl rfl rfl rfl (fun h9 => by have h8 := zi_lt.mp h9; have h8 : p2.toInt < (0 : Int) := h8; omega) (fun h9 => by have h8 := zi_lt.mp h9; have h8 : p4.toInt < (0 : Int) := h8; omega) (fun h9 => by have h8 := zi_lt.mp h9; have h8 : p5.toInt < (0 : Int) := h8; omega) (by have h8 := zc_nat p2 (by show 0 ≤ p2.toInt; omega); have h9 := zc_nat p5 (by show 0 ≤ p5.toInt; omega); have h8 : ((p2).toNatClampNeg : Int) = p2.toInt := h8; have h9 : ((p5).toNatClampNeg : Int) = p5.toInt := h9; omega) (by have h8 := zc_nat p4 (by show 0 ≤ p4.toInt; omega); have h9 := zc_nat p5 (by show 0 ≤ p5.toInt; omega); have h8 : ((p4).toNatClampNeg : Int) = p4.toInt := h8; have h9 : ((p5).toNatClampNeg : Int) = p5.toInt := h9; omega) (fun _ _ => rfl) (Nat.le_of_ble_eq_true rfl) (Nat.le_of_ble_eq_true rfl) dX11_paste_109 (fun H locs hP hD hS => ?_)
                        obtain ⟨fz334, efz334, hP, hD⟩ : ∃ fz334 : Nat → Int64, fz334 = va_cpy (lL2 0) (lL2 0) p2.toNatClampNeg p4.toNatClampNeg p5.toNatClampNeg ∧ va_P (dC, dI) vwCl (List.flatten [(wSlot qL0 k vL0 sL0 lL0), (wSlot qL1 k vL1 sL1 lL1), (wSlot qL2 k vL2 sL2 (va_up lL2 0 fz334)), (wSlot qL3 k vL3 sL3 lL3)] ++ List.flatten [(wSag qX k tapeX toldX actsX nowX trialX storyX attemptX orderSearchX routeSearchX setSearchX probeX (qL0 0) (qL1 0) (qL2 0) (qL3 0) image0X image1X image2X aX)]) H ∧ va_D A (List.flatten [(wSlot qL0 k vL0 sL0 lL0), (wSlot qL1 k vL1 sL1 lL1), (wSlot qL2 k vL2 sL2 (va_up lL2 0 fz334)), (wSlot qL3 k vL3 sL3 lL3)] ++ List.flatten [(wSag qX k tapeX toldX actsX nowX trialX storyX attemptX orderSearchX routeSearchX setSearchX probeX (qL0 0) (qL1 0) (qL2 0) (qL3 0) image0X image1X image2X aX)]) := ⟨_, rfl, hP, hD⟩
                        refine lv_iconst (v := 0) hx hb dX11_paste_112 (by decide) ?_
                        rw [hQ]
                        exact W.iret (v := (0 : Int32)) hx hb hr (fun t ht hW => ⟨⟨(0 : Int32), (), rfl, trivial, vL0, sL0, lL0, vL1, sL1, lL1, vL2, sL2, (va_up lL2 0 fz334), vL3, sL3, lL3, hsL0, hsL1, hsL2, hsL3, by rw [ht]; exact hP⟩, hS.F ht⟩) hS.2.2 dX11_paste_113
                      · skip
                        have zz335 : rz329.toInt = (0 : Int) := zi_eq.mp cz332
                        refine lv_bipush (v := (-7)) hx hb dX11_paste_91 (by decide) ?_
                        rw [hQ]
                        exact W.iret (v := (-7 : Int32)) hx hb hr (fun t ht hW => ⟨⟨(-7 : Int32), (), rfl, trivial, vL0, sL0, lL0, vL1, sL1, lL1, vL2, sL2, lL2, vL3, sL3, lL3, hsL0, hsL1, hsL2, hsL3, by rw [ht]; exact hP⟩, hS.F ht⟩) hS.2.2 dX11_paste_93
                  · skip
                    have zz336 : ¬ (vL2 1).toInt = (vL2 1).toInt := fun h9 => cz318 (zi_eq.mpr h9)
                    exact absurd rfl cz318
                · skip
                  have zz337 : (vL2 0).toInt = (0 : Int) := zi_eq.mp cz316
                  omega
            · skip
              have zz338 : p3.toInt = (3 : Int) := zi_eq.mp cz257
              refine W.eq (g2 := F0 m 30 ls [.int 3, .ref (qX 3)]) (by rw [cz257]) ?_
              refine va_aldq hx hb hK hP 11 6 rfl rfl (by unfold vp_in; decide) dX11_paste_30 ?_
              refine W.eq (g2 := F0 m 31 ls [.ref (qL3 0)]) rfl ?_
              refine lv_astore (lv' := [(7, .ref (qL3 0)), (6, .ref (qL2 0)), (0, .ref (qX 0)), (1, .int p1), (2, .int p2), (3, .int p3), (4, .int p4), (5, .int p5)]) hx hb dX11_paste_31 hl (by decide) rfl (fun ls hl => ?_)
              refine lv_aload hx hb dX11_paste_33 (lv_at hl 1 rfl) ?_
              refine va_get (D := (dC, dI)) (ci := 6) (v := .int (vL2 0)) (C := RX6) (T := TX6) (N := 4) hx hb hts (fun w h => List.mem_cons_of_mem _ (List.mem_append_right _ (List.mem_append_right _ (List.mem_append_right _ (List.mem_append_left _ h))))) hown hK hP 4 rfl rfl 1 (by decide) (hts (.fieldLink RX11 386 "SagMemory$Slot" "has" "Z") (wl_mem 4 rfl)) (fun _ h9 => h9) rfl dX11_paste_35 ?_
              refine lv_if_eq (tgt := 49) hx hb dX11_paste_38 (by decide) (fun cz339 => ?_) (fun cz339 => ?_)
              · skip
                have zz340 : (vL2 0).toInt = (0 : Int) := zi_eq.mp cz339
                refine lv_bipush (v := (-6)) hx hb dX11_paste_49 (by decide) ?_
                rw [hQ]
                exact W.iret (v := (-6 : Int32)) hx hb hr (fun t ht hW => ⟨⟨(-6 : Int32), (), rfl, trivial, vL0, sL0, lL0, vL1, sL1, lL1, vL2, sL2, lL2, vL3, sL3, lL3, hsL0, hsL1, hsL2, hsL3, by rw [ht]; exact hP⟩, hS.F ht⟩) hS.2.2 dX11_paste_51
              · skip
                have zz341 : ¬ (vL2 0).toInt = (0 : Int) := fun h9 => cz339 (zi_eq.mpr h9)
                refine lv_aload hx hb dX11_paste_41 (lv_at hl 0 rfl) ?_
                refine va_get (D := (dC, dI)) (ci := 6) (v := .int (vL3 0)) (C := RX6) (T := TX6) (N := 4) hx hb hts (fun w h => List.mem_cons_of_mem _ (List.mem_append_right _ (List.mem_append_right _ (List.mem_append_right _ (List.mem_append_left _ h))))) hown hK hP 6 rfl rfl 1 (by decide) (hts (.fieldLink RX11 386 "SagMemory$Slot" "has" "Z") (wl_mem 4 rfl)) (fun _ h9 => h9) rfl dX11_paste_43 ?_
                refine lv_if_ne (tgt := 52) hx hb dX11_paste_46 (by decide) (fun cz342 => ?_) (fun cz342 => ?_)
                · skip
                  have zz343 : ¬ (vL3 0).toInt = (0 : Int) := fun h9 => cz342 (zi_eq.mpr h9)
                  refine lv_aload hx hb dX11_paste_52 (lv_at hl 1 rfl) ?_
                  refine va_get (D := (dC, dI)) (ci := 6) (v := .int (vL2 1)) (C := RX6) (T := TX6) (N := 4) hx hb hts (fun w h => List.mem_cons_of_mem _ (List.mem_append_right _ (List.mem_append_right _ (List.mem_append_right _ (List.mem_append_left _ h))))) hown hK hP 4 rfl rfl 2 (by decide) (hts (.fieldLink RX11 396 "SagMemory$Slot" "width" "I") (wl_mem 5 rfl)) (fun _ h9 => h9) rfl dX11_paste_54 ?_
                  refine lv_aload hx hb dX11_paste_57 (lv_at hl 0 rfl) ?_
                  refine va_get (D := (dC, dI)) (ci := 6) (v := .int (vL3 1)) (C := RX6) (T := TX6) (N := 4) hx hb hts (fun w h => List.mem_cons_of_mem _ (List.mem_append_right _ (List.mem_append_right _ (List.mem_append_right _ (List.mem_append_left _ h))))) hown hK hP 6 rfl rfl 2 (by decide) (hts (.fieldLink RX11 396 "SagMemory$Slot" "width" "I") (wl_mem 5 rfl)) (fun _ h9 => h9) rfl dX11_paste_59 ?_
                  refine lv_icmp_eq (tgt := 68) hx hb dX11_paste_62 (by decide) (fun cz344 => ?_) (fun cz344 => ?_)
                  · skip
                    have zz345 : (vL2 1).toInt = (vL3 1).toInt := zi_eq.mp cz344
                    refine lv_aload hx hb dX11_paste_68 (lv_at hl 1 rfl) ?_
                    refine lv_iload_n hx hb dX11_paste_70 rfl (lv_at hl 4 rfl) ?_
                    refine lv_iload hx hb dX11_paste_71 (lv_at hl 7 rfl) ?_
                    have hPc := hP.sub (ws' := (List.flatten [(wSlot qL2 k vL2 sL2 lL2)])) [4, 5] rfl
                    refine vp_callSi (va_Run.run (va_runV (As := [.int p2, .int p5]) (rest := []) ⟨hx, hb, hml, hown, hts⟩ (c_X6_spans l dC dI k qL2 vL2 sL2 lL2 p2 p5 hsL2) (cwV 2 hts (gk_V (wl_mem 6 rfl) (wl_mem 7 rfl) (wl_mem 8 rfl) (wl_mem 9 rfl) (fun w h => List.mem_cons_of_mem _ (List.mem_append_right _ (List.mem_append_right _ (List.mem_append_right _ (List.mem_append_right _ (List.mem_append_left _ h)))))) wkg_c_X6_spans) rfl rfl rfl (by decide +kernel) ⟨Nat.le_of_ble_eq_true rfl, Nat.le_of_ble_eq_true rfl⟩) ⟨fun a U g mk q => by obtain ⟨q0, qP, qK⟩ := q; exact ⟨q0, qP, va_K.moved (u := U) (U := U.calling g mk a) (Vm.Alike.refl U.vm) qK⟩, va_recv hK hPc (ci := 6) (q0 := 0) rfl rfl, fun U hU hW => ⟨rfl, by rw [hU]; exact hPc, va_K.moved hW.alike hK⟩⟩ rfl rfl hl.1 rfl (lv_room (Nat.le_of_ble_eq_true rfl)) dX11_paste_73 ⟨Nat.le_of_ble_eq_true rfl, Nat.le_of_ble_eq_true rfl⟩)) (fun rz347 gz346 => ?_)
                    clear hPc
                    obtain ⟨pz348, pz349⟩ := gz346
                    have pz348 : rz347.toInt = 0 ∨ (0 ≤ p2.toInt ∧ 0 ≤ p5.toInt ∧ p2.toInt + p5.toInt ≤ (sL2 0).toInt) := pz348
                    have pz349 : rz347.toInt = 0 ∨ rz347.toInt = 1 := pz349
                    have bz350 := hsL2 0
                    refine lv_if_eq (tgt := 91) hx hb dX11_paste_76 (by decide) (fun cz351 => ?_) (fun cz351 => ?_)
                    · skip
                      have zz352 : rz347.toInt = (0 : Int) := zi_eq.mp cz351
                      refine lv_bipush (v := (-7)) hx hb dX11_paste_91 (by decide) ?_
                      rw [hQ]
                      exact W.iret (v := (-7 : Int32)) hx hb hr (fun t ht hW => ⟨⟨(-7 : Int32), (), rfl, trivial, vL0, sL0, lL0, vL1, sL1, lL1, vL2, sL2, lL2, vL3, sL3, lL3, hsL0, hsL1, hsL2, hsL3, by rw [ht]; exact hP⟩, hS.F ht⟩) hS.2.2 dX11_paste_93
                    · skip
                      have zz353 : ¬ rz347.toInt = (0 : Int) := fun h9 => cz351 (zi_eq.mpr h9)
                      refine lv_aload hx hb dX11_paste_79 (lv_at hl 0 rfl) ?_
                      refine lv_iload hx hb dX11_paste_81 (lv_at hl 6 rfl) ?_
                      refine lv_iload hx hb dX11_paste_83 (lv_at hl 7 rfl) ?_
                      have hPc := hP.sub (ws' := (List.flatten [(wSlot qL3 k vL3 sL3 lL3)])) [6, 7] rfl
                      refine vp_callSi (va_Run.run (va_runV (As := [.int p4, .int p5]) (rest := []) ⟨hx, hb, hml, hown, hts⟩ (c_X6_spans l dC dI k qL3 vL3 sL3 lL3 p4 p5 hsL3) (cwV 2 hts (gk_V (wl_mem 6 rfl) (wl_mem 7 rfl) (wl_mem 8 rfl) (wl_mem 9 rfl) (fun w h => List.mem_cons_of_mem _ (List.mem_append_right _ (List.mem_append_right _ (List.mem_append_right _ (List.mem_append_right _ (List.mem_append_left _ h)))))) wkg_c_X6_spans) rfl rfl rfl (by decide +kernel) ⟨Nat.le_of_ble_eq_true rfl, Nat.le_of_ble_eq_true rfl⟩) ⟨fun a U g mk q => by obtain ⟨q0, qP, qK⟩ := q; exact ⟨q0, qP, va_K.moved (u := U) (U := U.calling g mk a) (Vm.Alike.refl U.vm) qK⟩, va_recv hK hPc (ci := 6) (q0 := 0) rfl rfl, fun U hU hW => ⟨rfl, by rw [hU]; exact hPc, va_K.moved hW.alike hK⟩⟩ rfl rfl hl.1 rfl (lv_room (Nat.le_of_ble_eq_true rfl)) dX11_paste_85 ⟨Nat.le_of_ble_eq_true rfl, Nat.le_of_ble_eq_true rfl⟩)) (fun rz355 gz354 => ?_)
                      clear hPc
                      obtain ⟨pz356, pz357⟩ := gz354
                      have pz356 : rz355.toInt = 0 ∨ (0 ≤ p4.toInt ∧ 0 ≤ p5.toInt ∧ p4.toInt + p5.toInt ≤ (sL3 0).toInt) := pz356
                      have pz357 : rz355.toInt = 0 ∨ rz355.toInt = 1 := pz357
                      have bz358 := hsL3 0
                      refine lv_if_ne (tgt := 94) hx hb dX11_paste_88 (by decide) (fun cz359 => ?_) (fun cz359 => ?_)
                      · skip
                        have zz360 : ¬ rz355.toInt = (0 : Int) := fun h9 => cz359 (zi_eq.mpr h9)
                        refine lv_aload hx hb dX11_paste_94 (lv_at hl 1 rfl) ?_
                        refine va_get (D := (dC, dI)) (ci := 6) (v := .ref (qL2 1)) (C := RX6) (T := TX6) (N := 4) hx hb hts (fun w h => List.mem_cons_of_mem _ (List.mem_append_right _ (List.mem_append_right _ (List.mem_append_right _ (List.mem_append_left _ h))))) hown hK hP 4 rfl rfl 0 (by decide) (hts (.fieldLink RX11 388 "SagMemory$Slot" "numbers" "[J") (wl_mem 10 rfl)) (fun _ h9 => h9) rfl dX11_paste_96 ?_
                        refine lv_iload_n hx hb dX11_paste_99 rfl (lv_at hl 4 rfl) ?_
                        refine lv_aload hx hb dX11_paste_100 (lv_at hl 0 rfl) ?_
                        refine va_get (D := (dC, dI)) (ci := 6) (v := .ref (qL3 1)) (C := RX6) (T := TX6) (N := 4) hx hb hts (fun w h => List.mem_cons_of_mem _ (List.mem_append_right _ (List.mem_append_right _ (List.mem_append_right _ (List.mem_append_left _ h))))) hown hK hP 6 rfl rfl 0 (by decide) (hts (.fieldLink RX11 388 "SagMemory$Slot" "numbers" "[J") (wl_mem 10 rfl)) (fun _ h9 => h9) rfl dX11_paste_102 ?_
                        refine lv_iload hx hb dX11_paste_105 (lv_at hl 6 rfl) ?_
                        refine lv_iload hx hb dX11_paste_107 (lv_at hl 7 rfl) ?_
                        refine va_copyl (ty := .long) hx hb (by rw [hml]; exact hl.1.symm) hown (hts (.methodLink RX11 402 arraycopyName) (wl_mem 11 rfl)) (hts (.native arraycopyName) (wl_mem 12 rfl)) (hts (.static arraycopyName) (wl_mem 13 rfl)) (hts (.initialized "java/lang/System") (wl_mem 14 rfl)) hK hP hD hS 5 7 1 1 rfl rfl rfl rfl rfl (fun h9 => by have h8 := zi_lt.mp h9; have h8 : p2.toInt < (0 : Int) := h8; omega) (fun h9 => by have h8 := zi_lt.mp h9; have h8 : p4.toInt < (0 : Int) := h8; omega) (fun h9 => by have h8 := zi_lt.mp h9; have h8 : p5.toInt < (0 : Int) := h8; omega) (by have h8 := zc_nat p2 (by show 0 ≤ p2.toInt; omega); have h9 := zc_nat p5 (by show 0 ≤ p5.toInt; omega); have h8 : ((p2).toNatClampNeg : Int) = p2.toInt := h8; have h9 : ((p5).toNatClampNeg : Int) = p5.toInt := h9; omega) (by have h8 := zc_nat p4 (by show 0 ≤ p4.toInt; omega); have h9 := zc_nat p5 (by show 0 ≤ p5.toInt; omega); have h8 : ((p4).toNatClampNeg : Int) = p4.toInt := h8; have h9 : ((p5).toNatClampNeg : Int) = p5.toInt := h9; omega) (fun _ _ => rfl) (Nat.le_of_ble_eq_true rfl) (Nat.le_of_ble_eq_true rfl) dX11_paste_109 (fun H locs hP hD hS => ?_)
                        obtain ⟨fz361, efz361, hP, hD⟩ : ∃ fz361 : Nat → Int64, fz361 = va_cpy (lL2 0) (lL3 0) p2.toNatClampNeg p4.toNatClampNeg p5.toNatClampNeg ∧ va_P (dC, dI) vwCl (List.flatten [(wSlot qL0 k vL0 sL0 lL0), (wSlot qL1 k vL1 sL1 lL1), (wSlot qL2 k vL2 sL2 lL2), (wSlot qL3 k vL3 sL3 (va_up lL3 0 fz361))] ++ List.flatten [(wSag qX k tapeX toldX actsX nowX trialX storyX attemptX orderSearchX routeSearchX setSearchX probeX (qL0 0) (qL1 0) (qL2 0) (qL3 0) image0X image1X image2X aX)]) H ∧ va_D A (List.flatten [(wSlot qL0 k vL0 sL0 lL0), (wSlot qL1 k vL1 sL1 lL1), (wSlot qL2 k vL2 sL2 lL2), (wSlot qL3 k vL3 sL3 (va_up lL3 0 fz361))] ++ List.flatten [(wSag qX k tapeX toldX actsX nowX trialX storyX attemptX orderSearchX routeSearchX setSearchX probeX (qL0 0) (qL1 0) (qL2 0) (qL3 0) image0X image1X image2X aX)]) := ⟨_, rfl, hP, hD⟩
                        refine lv_iconst (v := 0) hx hb dX11_paste_112 (by decide) ?_
                        rw [hQ]
                        exact W.iret (v := (0 : Int32)) hx hb hr (fun t ht hW => ⟨⟨(0 : Int32), (), rfl, trivial, vL0, sL0, lL0, vL1, sL1, lL1, vL2, sL2, lL2, vL3, sL3, (va_up lL3 0 fz361), hsL0, hsL1, hsL2, hsL3, by rw [ht]; exact hP⟩, hS.F ht⟩) hS.2.2 dX11_paste_113
                      · skip
                        have zz362 : rz355.toInt = (0 : Int) := zi_eq.mp cz359
                        refine lv_bipush (v := (-7)) hx hb dX11_paste_91 (by decide) ?_
                        rw [hQ]
                        exact W.iret (v := (-7 : Int32)) hx hb hr (fun t ht hW => ⟨⟨(-7 : Int32), (), rfl, trivial, vL0, sL0, lL0, vL1, sL1, lL1, vL2, sL2, lL2, vL3, sL3, lL3, hsL0, hsL1, hsL2, hsL3, by rw [ht]; exact hP⟩, hS.F ht⟩) hS.2.2 dX11_paste_93
                  · skip
                    have zz363 : ¬ (vL2 1).toInt = (vL3 1).toInt := fun h9 => cz344 (zi_eq.mpr h9)
                    refine lv_bipush (v := (-8)) hx hb dX11_paste_65 (by decide) ?_
                    rw [hQ]
                    exact W.iret (v := (-8 : Int32)) hx hb hr (fun t ht hW => ⟨⟨(-8 : Int32), (), rfl, trivial, vL0, sL0, lL0, vL1, sL1, lL1, vL2, sL2, lL2, vL3, sL3, lL3, hsL0, hsL1, hsL2, hsL3, by rw [ht]; exact hP⟩, hS.F ht⟩) hS.2.2 dX11_paste_67
                · skip
                  have zz364 : (vL3 0).toInt = (0 : Int) := zi_eq.mp cz342
                  refine lv_bipush (v := (-6)) hx hb dX11_paste_49 (by decide) ?_
                  rw [hQ]
                  exact W.iret (v := (-6 : Int32)) hx hb hr (fun t ht hW => ⟨⟨(-6 : Int32), (), rfl, trivial, vL0, sL0, lL0, vL1, sL1, lL1, vL2, sL2, lL2, vL3, sL3, lL3, hsL0, hsL1, hsL2, hsL3, by rw [ht]; exact hP⟩, hS.F ht⟩) hS.2.2 dX11_paste_51
          · skip
            have zz365 : p1.toInt = (3 : Int) := zi_eq.mp cz37
            refine W.eq (g2 := F0 m 22 ls [.int 3, .ref (qX 3)]) (by rw [cz37]) ?_
            refine va_aldq hx hb hK hP 11 6 rfl rfl (by unfold vp_in; decide) dX11_paste_22 ?_
            refine W.eq (g2 := F0 m 23 ls [.ref (qL3 0)]) rfl ?_
            refine lv_astore (lv' := [(6, .ref (qL3 0)), (0, .ref (qX 0)), (1, .int p1), (2, .int p2), (3, .int p3), (4, .int p4), (5, .int p5)]) hx hb dX11_paste_23 hl (by decide) rfl (fun ls hl => ?_)
            refine lv_aload_n hx hb dX11_paste_25 rfl (lv_at hl 1 rfl) ?_
            refine va_get (D := (dC, dI)) (ci := 11) (v := .ref (qX 3)) (C := RX11) (T := TX11) (N := 15) hx hb hts (fun w h => List.mem_cons_of_mem _ (List.mem_append_right _ (List.mem_append_right _ (List.mem_append_left _ h)))) hown hK hP 8 rfl rfl 13 (by decide) (hts (.fieldLink RX11 85 "SagMemory" "slots" "[LSagMemory$Slot;") (wl_mem 3 rfl)) (fun _ h9 => h9) rfl dX11_paste_26 ?_
            refine lv_iload_n hx hb dX11_paste_29 rfl (lv_at hl 4 rfl) ?_
            rcases (show p3 = 0 ∨ p3 = 1 ∨ p3 = 2 ∨ p3 = 3 by simp only [zi_eq]; show p3.toInt = 0 ∨ p3.toInt = 1 ∨ p3.toInt = 2 ∨ p3.toInt = 3; omega) with cz366 | cz366 | cz366 | cz366
            · skip
              have zz367 : p3.toInt = (0 : Int) := zi_eq.mp cz366
              refine W.eq (g2 := F0 m 30 ls [.int 0, .ref (qX 3)]) (by rw [cz366]) ?_
              refine va_aldq hx hb hK hP 11 6 rfl rfl (by unfold vp_in; decide) dX11_paste_30 ?_
              refine W.eq (g2 := F0 m 31 ls [.ref (qL0 0)]) rfl ?_
              refine lv_astore (lv' := [(7, .ref (qL0 0)), (6, .ref (qL3 0)), (0, .ref (qX 0)), (1, .int p1), (2, .int p2), (3, .int p3), (4, .int p4), (5, .int p5)]) hx hb dX11_paste_31 hl (by decide) rfl (fun ls hl => ?_)
              refine lv_aload hx hb dX11_paste_33 (lv_at hl 1 rfl) ?_
              refine va_get (D := (dC, dI)) (ci := 6) (v := .int (vL3 0)) (C := RX6) (T := TX6) (N := 4) hx hb hts (fun w h => List.mem_cons_of_mem _ (List.mem_append_right _ (List.mem_append_right _ (List.mem_append_right _ (List.mem_append_left _ h))))) hown hK hP 6 rfl rfl 1 (by decide) (hts (.fieldLink RX11 386 "SagMemory$Slot" "has" "Z") (wl_mem 4 rfl)) (fun _ h9 => h9) rfl dX11_paste_35 ?_
              refine lv_if_eq (tgt := 49) hx hb dX11_paste_38 (by decide) (fun cz368 => ?_) (fun cz368 => ?_)
              · skip
                have zz369 : (vL3 0).toInt = (0 : Int) := zi_eq.mp cz368
                refine lv_bipush (v := (-6)) hx hb dX11_paste_49 (by decide) ?_
                rw [hQ]
                exact W.iret (v := (-6 : Int32)) hx hb hr (fun t ht hW => ⟨⟨(-6 : Int32), (), rfl, trivial, vL0, sL0, lL0, vL1, sL1, lL1, vL2, sL2, lL2, vL3, sL3, lL3, hsL0, hsL1, hsL2, hsL3, by rw [ht]; exact hP⟩, hS.F ht⟩) hS.2.2 dX11_paste_51
              · skip
                have zz370 : ¬ (vL3 0).toInt = (0 : Int) := fun h9 => cz368 (zi_eq.mpr h9)
                refine lv_aload hx hb dX11_paste_41 (lv_at hl 0 rfl) ?_
                refine va_get (D := (dC, dI)) (ci := 6) (v := .int (vL0 0)) (C := RX6) (T := TX6) (N := 4) hx hb hts (fun w h => List.mem_cons_of_mem _ (List.mem_append_right _ (List.mem_append_right _ (List.mem_append_right _ (List.mem_append_left _ h))))) hown hK hP 0 rfl rfl 1 (by decide) (hts (.fieldLink RX11 386 "SagMemory$Slot" "has" "Z") (wl_mem 4 rfl)) (fun _ h9 => h9) rfl dX11_paste_43 ?_
                refine lv_if_ne (tgt := 52) hx hb dX11_paste_46 (by decide) (fun cz371 => ?_) (fun cz371 => ?_)
                · skip
                  have zz372 : ¬ (vL0 0).toInt = (0 : Int) := fun h9 => cz371 (zi_eq.mpr h9)
                  refine lv_aload hx hb dX11_paste_52 (lv_at hl 1 rfl) ?_
                  refine va_get (D := (dC, dI)) (ci := 6) (v := .int (vL3 1)) (C := RX6) (T := TX6) (N := 4) hx hb hts (fun w h => List.mem_cons_of_mem _ (List.mem_append_right _ (List.mem_append_right _ (List.mem_append_right _ (List.mem_append_left _ h))))) hown hK hP 6 rfl rfl 2 (by decide) (hts (.fieldLink RX11 396 "SagMemory$Slot" "width" "I") (wl_mem 5 rfl)) (fun _ h9 => h9) rfl dX11_paste_54 ?_
                  refine lv_aload hx hb dX11_paste_57 (lv_at hl 0 rfl) ?_
                  refine va_get (D := (dC, dI)) (ci := 6) (v := .int (vL0 1)) (C := RX6) (T := TX6) (N := 4) hx hb hts (fun w h => List.mem_cons_of_mem _ (List.mem_append_right _ (List.mem_append_right _ (List.mem_append_right _ (List.mem_append_left _ h))))) hown hK hP 0 rfl rfl 2 (by decide) (hts (.fieldLink RX11 396 "SagMemory$Slot" "width" "I") (wl_mem 5 rfl)) (fun _ h9 => h9) rfl dX11_paste_59 ?_
                  refine lv_icmp_eq (tgt := 68) hx hb dX11_paste_62 (by decide) (fun cz373 => ?_) (fun cz373 => ?_)
                  · skip
                    have zz374 : (vL3 1).toInt = (vL0 1).toInt := zi_eq.mp cz373
                    refine lv_aload hx hb dX11_paste_68 (lv_at hl 1 rfl) ?_
                    refine lv_iload_n hx hb dX11_paste_70 rfl (lv_at hl 4 rfl) ?_
                    refine lv_iload hx hb dX11_paste_71 (lv_at hl 7 rfl) ?_
                    have hPc := hP.sub (ws' := (List.flatten [(wSlot qL3 k vL3 sL3 lL3)])) [6, 7] rfl
                    refine vp_callSi (va_Run.run (va_runV (As := [.int p2, .int p5]) (rest := []) ⟨hx, hb, hml, hown, hts⟩ (c_X6_spans l dC dI k qL3 vL3 sL3 lL3 p2 p5 hsL3) (cwV 2 hts (gk_V (wl_mem 6 rfl) (wl_mem 7 rfl) (wl_mem 8 rfl) (wl_mem 9 rfl) (fun w h => List.mem_cons_of_mem _ (List.mem_append_right _ (List.mem_append_right _ (List.mem_append_right _ (List.mem_append_right _ (List.mem_append_left _ h)))))) wkg_c_X6_spans) rfl rfl rfl (by decide +kernel) ⟨Nat.le_of_ble_eq_true rfl, Nat.le_of_ble_eq_true rfl⟩) ⟨fun a U g mk q => by obtain ⟨q0, qP, qK⟩ := q; exact ⟨q0, qP, va_K.moved (u := U) (U := U.calling g mk a) (Vm.Alike.refl U.vm) qK⟩, va_recv hK hPc (ci := 6) (q0 := 0) rfl rfl, fun U hU hW => ⟨rfl, by rw [hU]; exact hPc, va_K.moved hW.alike hK⟩⟩ rfl rfl hl.1 rfl (lv_room (Nat.le_of_ble_eq_true rfl)) dX11_paste_73 ⟨Nat.le_of_ble_eq_true rfl, Nat.le_of_ble_eq_true rfl⟩)) (fun rz376 gz375 => ?_)
                    clear hPc
                    obtain ⟨pz377, pz378⟩ := gz375
                    have pz377 : rz376.toInt = 0 ∨ (0 ≤ p2.toInt ∧ 0 ≤ p5.toInt ∧ p2.toInt + p5.toInt ≤ (sL3 0).toInt) := pz377
                    have pz378 : rz376.toInt = 0 ∨ rz376.toInt = 1 := pz378
                    have bz379 := hsL3 0
                    refine lv_if_eq (tgt := 91) hx hb dX11_paste_76 (by decide) (fun cz380 => ?_) (fun cz380 => ?_)
                    · skip
                      have zz381 : rz376.toInt = (0 : Int) := zi_eq.mp cz380
                      refine lv_bipush (v := (-7)) hx hb dX11_paste_91 (by decide) ?_
                      rw [hQ]
                      exact W.iret (v := (-7 : Int32)) hx hb hr (fun t ht hW => ⟨⟨(-7 : Int32), (), rfl, trivial, vL0, sL0, lL0, vL1, sL1, lL1, vL2, sL2, lL2, vL3, sL3, lL3, hsL0, hsL1, hsL2, hsL3, by rw [ht]; exact hP⟩, hS.F ht⟩) hS.2.2 dX11_paste_93
                    · skip
                      have zz382 : ¬ rz376.toInt = (0 : Int) := fun h9 => cz380 (zi_eq.mpr h9)
                      refine lv_aload hx hb dX11_paste_79 (lv_at hl 0 rfl) ?_
                      refine lv_iload hx hb dX11_paste_81 (lv_at hl 6 rfl) ?_
                      refine lv_iload hx hb dX11_paste_83 (lv_at hl 7 rfl) ?_
                      have hPc := hP.sub (ws' := (List.flatten [(wSlot qL0 k vL0 sL0 lL0)])) [0, 1] rfl
                      refine vp_callSi (va_Run.run (va_runV (As := [.int p4, .int p5]) (rest := []) ⟨hx, hb, hml, hown, hts⟩ (c_X6_spans l dC dI k qL0 vL0 sL0 lL0 p4 p5 hsL0) (cwV 2 hts (gk_V (wl_mem 6 rfl) (wl_mem 7 rfl) (wl_mem 8 rfl) (wl_mem 9 rfl) (fun w h => List.mem_cons_of_mem _ (List.mem_append_right _ (List.mem_append_right _ (List.mem_append_right _ (List.mem_append_right _ (List.mem_append_left _ h)))))) wkg_c_X6_spans) rfl rfl rfl (by decide +kernel) ⟨Nat.le_of_ble_eq_true rfl, Nat.le_of_ble_eq_true rfl⟩) ⟨fun a U g mk q => by obtain ⟨q0, qP, qK⟩ := q; exact ⟨q0, qP, va_K.moved (u := U) (U := U.calling g mk a) (Vm.Alike.refl U.vm) qK⟩, va_recv hK hPc (ci := 6) (q0 := 0) rfl rfl, fun U hU hW => ⟨rfl, by rw [hU]; exact hPc, va_K.moved hW.alike hK⟩⟩ rfl rfl hl.1 rfl (lv_room (Nat.le_of_ble_eq_true rfl)) dX11_paste_85 ⟨Nat.le_of_ble_eq_true rfl, Nat.le_of_ble_eq_true rfl⟩)) (fun rz384 gz383 => ?_)
                      clear hPc
                      obtain ⟨pz385, pz386⟩ := gz383
                      have pz385 : rz384.toInt = 0 ∨ (0 ≤ p4.toInt ∧ 0 ≤ p5.toInt ∧ p4.toInt + p5.toInt ≤ (sL0 0).toInt) := pz385
                      have pz386 : rz384.toInt = 0 ∨ rz384.toInt = 1 := pz386
                      have bz387 := hsL0 0
                      refine lv_if_ne (tgt := 94) hx hb dX11_paste_88 (by decide) (fun cz388 => ?_) (fun cz388 => ?_)
                      · skip
                        have zz389 : ¬ rz384.toInt = (0 : Int) := fun h9 => cz388 (zi_eq.mpr h9)
                        refine lv_aload hx hb dX11_paste_94 (lv_at hl 1 rfl) ?_
                        refine va_get (D := (dC, dI)) (ci := 6) (v := .ref (qL3 1)) (C := RX6) (T := TX6) (N := 4) hx hb hts (fun w h => List.mem_cons_of_mem _ (List.mem_append_right _ (List.mem_append_right _ (List.mem_append_right _ (List.mem_append_left _ h))))) hown hK hP 6 rfl rfl 0 (by decide) (hts (.fieldLink RX11 388 "SagMemory$Slot" "numbers" "[J") (wl_mem 10 rfl)) (fun _ h9 => h9) rfl dX11_paste_96 ?_
                        refine lv_iload_n hx hb dX11_paste_99 rfl (lv_at hl 4 rfl) ?_
                        refine lv_aload hx hb dX11_paste_100 (lv_at hl 0 rfl) ?_
                        refine va_get (D := (dC, dI)) (ci := 6) (v := .ref (qL0 1)) (C := RX6) (T := TX6) (N := 4) hx hb hts (fun w h => List.mem_cons_of_mem _ (List.mem_append_right _ (List.mem_append_right _ (List.mem_append_right _ (List.mem_append_left _ h))))) hown hK hP 0 rfl rfl 0 (by decide) (hts (.fieldLink RX11 388 "SagMemory$Slot" "numbers" "[J") (wl_mem 10 rfl)) (fun _ h9 => h9) rfl dX11_paste_102 ?_
                        refine lv_iload hx hb dX11_paste_105 (lv_at hl 6 rfl) ?_
                        refine lv_iload hx hb dX11_paste_107 (lv_at hl 7 rfl) ?_
                        refine va_copyl (ty := .long) hx hb (by rw [hml]; exact hl.1.symm) hown (hts (.methodLink RX11 402 arraycopyName) (wl_mem 11 rfl)) (hts (.native arraycopyName) (wl_mem 12 rfl)) (hts (.static arraycopyName) (wl_mem 13 rfl)) (hts (.initialized "java/lang/System") (wl_mem 14 rfl)) hK hP hD hS 7 1 1 1 rfl rfl rfl rfl rfl (fun h9 => by have h8 := zi_lt.mp h9; have h8 : p2.toInt < (0 : Int) := h8; omega) (fun h9 => by have h8 := zi_lt.mp h9; have h8 : p4.toInt < (0 : Int) := h8; omega) (fun h9 => by have h8 := zi_lt.mp h9; have h8 : p5.toInt < (0 : Int) := h8; omega) (by have h8 := zc_nat p2 (by show 0 ≤ p2.toInt; omega); have h9 := zc_nat p5 (by show 0 ≤ p5.toInt; omega); have h8 : ((p2).toNatClampNeg : Int) = p2.toInt := h8; have h9 : ((p5).toNatClampNeg : Int) = p5.toInt := h9; omega) (by have h8 := zc_nat p4 (by show 0 ≤ p4.toInt; omega); have h9 := zc_nat p5 (by show 0 ≤ p5.toInt; omega); have h8 : ((p4).toNatClampNeg : Int) = p4.toInt := h8; have h9 : ((p5).toNatClampNeg : Int) = p5.toInt := h9; omega) (fun _ _ => rfl) (Nat.le_of_ble_eq_true rfl) (Nat.le_of_ble_eq_true rfl) dX11_paste_109 (fun H locs hP hD hS => ?_)
                        obtain ⟨fz390, efz390, hP, hD⟩ : ∃ fz390 : Nat → Int64, fz390 = va_cpy (lL3 0) (lL0 0) p2.toNatClampNeg p4.toNatClampNeg p5.toNatClampNeg ∧ va_P (dC, dI) vwCl (List.flatten [(wSlot qL0 k vL0 sL0 (va_up lL0 0 fz390)), (wSlot qL1 k vL1 sL1 lL1), (wSlot qL2 k vL2 sL2 lL2), (wSlot qL3 k vL3 sL3 lL3)] ++ List.flatten [(wSag qX k tapeX toldX actsX nowX trialX storyX attemptX orderSearchX routeSearchX setSearchX probeX (qL0 0) (qL1 0) (qL2 0) (qL3 0) image0X image1X image2X aX)]) H ∧ va_D A (List.flatten [(wSlot qL0 k vL0 sL0 (va_up lL0 0 fz390)), (wSlot qL1 k vL1 sL1 lL1), (wSlot qL2 k vL2 sL2 lL2), (wSlot qL3 k vL3 sL3 lL3)] ++ List.flatten [(wSag qX k tapeX toldX actsX nowX trialX storyX attemptX orderSearchX routeSearchX setSearchX probeX (qL0 0) (qL1 0) (qL2 0) (qL3 0) image0X image1X image2X aX)]) := ⟨_, rfl, hP, hD⟩
                        refine lv_iconst (v := 0) hx hb dX11_paste_112 (by decide) ?_
                        rw [hQ]
                        exact W.iret (v := (0 : Int32)) hx hb hr (fun t ht hW => ⟨⟨(0 : Int32), (), rfl, trivial, vL0, sL0, (va_up lL0 0 fz390), vL1, sL1, lL1, vL2, sL2, lL2, vL3, sL3, lL3, hsL0, hsL1, hsL2, hsL3, by rw [ht]; exact hP⟩, hS.F ht⟩) hS.2.2 dX11_paste_113
                      · skip
                        have zz391 : rz384.toInt = (0 : Int) := zi_eq.mp cz388
                        refine lv_bipush (v := (-7)) hx hb dX11_paste_91 (by decide) ?_
                        rw [hQ]
                        exact W.iret (v := (-7 : Int32)) hx hb hr (fun t ht hW => ⟨⟨(-7 : Int32), (), rfl, trivial, vL0, sL0, lL0, vL1, sL1, lL1, vL2, sL2, lL2, vL3, sL3, lL3, hsL0, hsL1, hsL2, hsL3, by rw [ht]; exact hP⟩, hS.F ht⟩) hS.2.2 dX11_paste_93
                  · skip
                    have zz392 : ¬ (vL3 1).toInt = (vL0 1).toInt := fun h9 => cz373 (zi_eq.mpr h9)
                    refine lv_bipush (v := (-8)) hx hb dX11_paste_65 (by decide) ?_
                    rw [hQ]
                    exact W.iret (v := (-8 : Int32)) hx hb hr (fun t ht hW => ⟨⟨(-8 : Int32), (), rfl, trivial, vL0, sL0, lL0, vL1, sL1, lL1, vL2, sL2, lL2, vL3, sL3, lL3, hsL0, hsL1, hsL2, hsL3, by rw [ht]; exact hP⟩, hS.F ht⟩) hS.2.2 dX11_paste_67
                · skip
                  have zz393 : (vL0 0).toInt = (0 : Int) := zi_eq.mp cz371
                  refine lv_bipush (v := (-6)) hx hb dX11_paste_49 (by decide) ?_
                  rw [hQ]
                  exact W.iret (v := (-6 : Int32)) hx hb hr (fun t ht hW => ⟨⟨(-6 : Int32), (), rfl, trivial, vL0, sL0, lL0, vL1, sL1, lL1, vL2, sL2, lL2, vL3, sL3, lL3, hsL0, hsL1, hsL2, hsL3, by rw [ht]; exact hP⟩, hS.F ht⟩) hS.2.2 dX11_paste_51
            · skip
              have zz394 : p3.toInt = (1 : Int) := zi_eq.mp cz366
              refine W.eq (g2 := F0 m 30 ls [.int 1, .ref (qX 3)]) (by rw [cz366]) ?_
              refine va_aldq hx hb hK hP 11 6 rfl rfl (by unfold vp_in; decide) dX11_paste_30 ?_
              refine W.eq (g2 := F0 m 31 ls [.ref (qL1 0)]) rfl ?_
              refine lv_astore (lv' := [(7, .ref (qL1 0)), (6, .ref (qL3 0)), (0, .ref (qX 0)), (1, .int p1), (2, .int p2), (3, .int p3), (4, .int p4), (5, .int p5)]) hx hb dX11_paste_31 hl (by decide) rfl (fun ls hl => ?_)
              refine lv_aload hx hb dX11_paste_33 (lv_at hl 1 rfl) ?_
              refine va_get (D := (dC, dI)) (ci := 6) (v := .int (vL3 0)) (C := RX6) (T := TX6) (N := 4) hx hb hts (fun w h => List.mem_cons_of_mem _ (List.mem_append_right _ (List.mem_append_right _ (List.mem_append_right _ (List.mem_append_left _ h))))) hown hK hP 6 rfl rfl 1 (by decide) (hts (.fieldLink RX11 386 "SagMemory$Slot" "has" "Z") (wl_mem 4 rfl)) (fun _ h9 => h9) rfl dX11_paste_35 ?_
              refine lv_if_eq (tgt := 49) hx hb dX11_paste_38 (by decide) (fun cz395 => ?_) (fun cz395 => ?_)
              · skip
                have zz396 : (vL3 0).toInt = (0 : Int) := zi_eq.mp cz395
                refine lv_bipush (v := (-6)) hx hb dX11_paste_49 (by decide) ?_
                rw [hQ]
                exact W.iret (v := (-6 : Int32)) hx hb hr (fun t ht hW => ⟨⟨(-6 : Int32), (), rfl, trivial, vL0, sL0, lL0, vL1, sL1, lL1, vL2, sL2, lL2, vL3, sL3, lL3, hsL0, hsL1, hsL2, hsL3, by rw [ht]; exact hP⟩, hS.F ht⟩) hS.2.2 dX11_paste_51
              · skip
                have zz397 : ¬ (vL3 0).toInt = (0 : Int) := fun h9 => cz395 (zi_eq.mpr h9)
                refine lv_aload hx hb dX11_paste_41 (lv_at hl 0 rfl) ?_
                refine va_get (D := (dC, dI)) (ci := 6) (v := .int (vL1 0)) (C := RX6) (T := TX6) (N := 4) hx hb hts (fun w h => List.mem_cons_of_mem _ (List.mem_append_right _ (List.mem_append_right _ (List.mem_append_right _ (List.mem_append_left _ h))))) hown hK hP 2 rfl rfl 1 (by decide) (hts (.fieldLink RX11 386 "SagMemory$Slot" "has" "Z") (wl_mem 4 rfl)) (fun _ h9 => h9) rfl dX11_paste_43 ?_
                refine lv_if_ne (tgt := 52) hx hb dX11_paste_46 (by decide) (fun cz398 => ?_) (fun cz398 => ?_)
                · skip
                  have zz399 : ¬ (vL1 0).toInt = (0 : Int) := fun h9 => cz398 (zi_eq.mpr h9)
                  refine lv_aload hx hb dX11_paste_52 (lv_at hl 1 rfl) ?_
                  refine va_get (D := (dC, dI)) (ci := 6) (v := .int (vL3 1)) (C := RX6) (T := TX6) (N := 4) hx hb hts (fun w h => List.mem_cons_of_mem _ (List.mem_append_right _ (List.mem_append_right _ (List.mem_append_right _ (List.mem_append_left _ h))))) hown hK hP 6 rfl rfl 2 (by decide) (hts (.fieldLink RX11 396 "SagMemory$Slot" "width" "I") (wl_mem 5 rfl)) (fun _ h9 => h9) rfl dX11_paste_54 ?_
                  refine lv_aload hx hb dX11_paste_57 (lv_at hl 0 rfl) ?_
                  refine va_get (D := (dC, dI)) (ci := 6) (v := .int (vL1 1)) (C := RX6) (T := TX6) (N := 4) hx hb hts (fun w h => List.mem_cons_of_mem _ (List.mem_append_right _ (List.mem_append_right _ (List.mem_append_right _ (List.mem_append_left _ h))))) hown hK hP 2 rfl rfl 2 (by decide) (hts (.fieldLink RX11 396 "SagMemory$Slot" "width" "I") (wl_mem 5 rfl)) (fun _ h9 => h9) rfl dX11_paste_59 ?_
                  refine lv_icmp_eq (tgt := 68) hx hb dX11_paste_62 (by decide) (fun cz400 => ?_) (fun cz400 => ?_)
                  · skip
                    have zz401 : (vL3 1).toInt = (vL1 1).toInt := zi_eq.mp cz400
                    refine lv_aload hx hb dX11_paste_68 (lv_at hl 1 rfl) ?_
                    refine lv_iload_n hx hb dX11_paste_70 rfl (lv_at hl 4 rfl) ?_
                    refine lv_iload hx hb dX11_paste_71 (lv_at hl 7 rfl) ?_
                    have hPc := hP.sub (ws' := (List.flatten [(wSlot qL3 k vL3 sL3 lL3)])) [6, 7] rfl
                    refine vp_callSi (va_Run.run (va_runV (As := [.int p2, .int p5]) (rest := []) ⟨hx, hb, hml, hown, hts⟩ (c_X6_spans l dC dI k qL3 vL3 sL3 lL3 p2 p5 hsL3) (cwV 2 hts (gk_V (wl_mem 6 rfl) (wl_mem 7 rfl) (wl_mem 8 rfl) (wl_mem 9 rfl) (fun w h => List.mem_cons_of_mem _ (List.mem_append_right _ (List.mem_append_right _ (List.mem_append_right _ (List.mem_append_right _ (List.mem_append_left _ h)))))) wkg_c_X6_spans) rfl rfl rfl (by decide +kernel) ⟨Nat.le_of_ble_eq_true rfl, Nat.le_of_ble_eq_true rfl⟩) ⟨fun a U g mk q => by obtain ⟨q0, qP, qK⟩ := q; exact ⟨q0, qP, va_K.moved (u := U) (U := U.calling g mk a) (Vm.Alike.refl U.vm) qK⟩, va_recv hK hPc (ci := 6) (q0 := 0) rfl rfl, fun U hU hW => ⟨rfl, by rw [hU]; exact hPc, va_K.moved hW.alike hK⟩⟩ rfl rfl hl.1 rfl (lv_room (Nat.le_of_ble_eq_true rfl)) dX11_paste_73 ⟨Nat.le_of_ble_eq_true rfl, Nat.le_of_ble_eq_true rfl⟩)) (fun rz403 gz402 => ?_)
                    clear hPc
                    obtain ⟨pz404, pz405⟩ := gz402
                    have pz404 : rz403.toInt = 0 ∨ (0 ≤ p2.toInt ∧ 0 ≤ p5.toInt ∧ p2.toInt + p5.toInt ≤ (sL3 0).toInt) := pz404
                    have pz405 : rz403.toInt = 0 ∨ rz403.toInt = 1 := pz405
                    have bz406 := hsL3 0
                    refine lv_if_eq (tgt := 91) hx hb dX11_paste_76 (by decide) (fun cz407 => ?_) (fun cz407 => ?_)
                    · skip
                      have zz408 : rz403.toInt = (0 : Int) := zi_eq.mp cz407
                      refine lv_bipush (v := (-7)) hx hb dX11_paste_91 (by decide) ?_
                      rw [hQ]
                      exact W.iret (v := (-7 : Int32)) hx hb hr (fun t ht hW => ⟨⟨(-7 : Int32), (), rfl, trivial, vL0, sL0, lL0, vL1, sL1, lL1, vL2, sL2, lL2, vL3, sL3, lL3, hsL0, hsL1, hsL2, hsL3, by rw [ht]; exact hP⟩, hS.F ht⟩) hS.2.2 dX11_paste_93
                    · skip
                      have zz409 : ¬ rz403.toInt = (0 : Int) := fun h9 => cz407 (zi_eq.mpr h9)
                      refine lv_aload hx hb dX11_paste_79 (lv_at hl 0 rfl) ?_
                      refine lv_iload hx hb dX11_paste_81 (lv_at hl 6 rfl) ?_
                      refine lv_iload hx hb dX11_paste_83 (lv_at hl 7 rfl) ?_
                      have hPc := hP.sub (ws' := (List.flatten [(wSlot qL1 k vL1 sL1 lL1)])) [2, 3] rfl
                      refine vp_callSi (va_Run.run (va_runV (As := [.int p4, .int p5]) (rest := []) ⟨hx, hb, hml, hown, hts⟩ (c_X6_spans l dC dI k qL1 vL1 sL1 lL1 p4 p5 hsL1) (cwV 2 hts (gk_V (wl_mem 6 rfl) (wl_mem 7 rfl) (wl_mem 8 rfl) (wl_mem 9 rfl) (fun w h => List.mem_cons_of_mem _ (List.mem_append_right _ (List.mem_append_right _ (List.mem_append_right _ (List.mem_append_right _ (List.mem_append_left _ h)))))) wkg_c_X6_spans) rfl rfl rfl (by decide +kernel) ⟨Nat.le_of_ble_eq_true rfl, Nat.le_of_ble_eq_true rfl⟩) ⟨fun a U g mk q => by obtain ⟨q0, qP, qK⟩ := q; exact ⟨q0, qP, va_K.moved (u := U) (U := U.calling g mk a) (Vm.Alike.refl U.vm) qK⟩, va_recv hK hPc (ci := 6) (q0 := 0) rfl rfl, fun U hU hW => ⟨rfl, by rw [hU]; exact hPc, va_K.moved hW.alike hK⟩⟩ rfl rfl hl.1 rfl (lv_room (Nat.le_of_ble_eq_true rfl)) dX11_paste_85 ⟨Nat.le_of_ble_eq_true rfl, Nat.le_of_ble_eq_true rfl⟩)) (fun rz411 gz410 => ?_)
                      clear hPc
                      obtain ⟨pz412, pz413⟩ := gz410
                      have pz412 : rz411.toInt = 0 ∨ (0 ≤ p4.toInt ∧ 0 ≤ p5.toInt ∧ p4.toInt + p5.toInt ≤ (sL1 0).toInt) := pz412
                      have pz413 : rz411.toInt = 0 ∨ rz411.toInt = 1 := pz413
                      have bz414 := hsL1 0
                      refine lv_if_ne (tgt := 94) hx hb dX11_paste_88 (by decide) (fun cz415 => ?_) (fun cz415 => ?_)
                      · skip
                        have zz416 : ¬ rz411.toInt = (0 : Int) := fun h9 => cz415 (zi_eq.mpr h9)
                        refine lv_aload hx hb dX11_paste_94 (lv_at hl 1 rfl) ?_
                        refine va_get (D := (dC, dI)) (ci := 6) (v := .ref (qL3 1)) (C := RX6) (T := TX6) (N := 4) hx hb hts (fun w h => List.mem_cons_of_mem _ (List.mem_append_right _ (List.mem_append_right _ (List.mem_append_right _ (List.mem_append_left _ h))))) hown hK hP 6 rfl rfl 0 (by decide) (hts (.fieldLink RX11 388 "SagMemory$Slot" "numbers" "[J") (wl_mem 10 rfl)) (fun _ h9 => h9) rfl dX11_paste_96 ?_
                        refine lv_iload_n hx hb dX11_paste_99 rfl (lv_at hl 4 rfl) ?_
                        refine lv_aload hx hb dX11_paste_100 (lv_at hl 0 rfl) ?_
                        refine va_get (D := (dC, dI)) (ci := 6) (v := .ref (qL1 1)) (C := RX6) (T := TX6) (N := 4) hx hb hts (fun w h => List.mem_cons_of_mem _ (List.mem_append_right _ (List.mem_append_right _ (List.mem_append_right _ (List.mem_append_left _ h))))) hown hK hP 2 rfl rfl 0 (by decide) (hts (.fieldLink RX11 388 "SagMemory$Slot" "numbers" "[J") (wl_mem 10 rfl)) (fun _ h9 => h9) rfl dX11_paste_102 ?_
                        refine lv_iload hx hb dX11_paste_105 (lv_at hl 6 rfl) ?_
                        refine lv_iload hx hb dX11_paste_107 (lv_at hl 7 rfl) ?_
                        refine va_copyl (ty := .long) hx hb (by rw [hml]; exact hl.1.symm) hown (hts (.methodLink RX11 402 arraycopyName) (wl_mem 11 rfl)) (hts (.native arraycopyName) (wl_mem 12 rfl)) (hts (.static arraycopyName) (wl_mem 13 rfl)) (hts (.initialized "java/lang/System") (wl_mem 14 rfl)) hK hP hD hS 7 3 1 1 rfl rfl rfl rfl rfl (fun h9 => by have h8 := zi_lt.mp h9; have h8 : p2.toInt < (0 : Int) := h8; omega) (fun h9 => by have h8 := zi_lt.mp h9; have h8 : p4.toInt < (0 : Int) := h8; omega) (fun h9 => by have h8 := zi_lt.mp h9; have h8 : p5.toInt < (0 : Int) := h8; omega) (by have h8 := zc_nat p2 (by show 0 ≤ p2.toInt; omega); have h9 := zc_nat p5 (by show 0 ≤ p5.toInt; omega); have h8 : ((p2).toNatClampNeg : Int) = p2.toInt := h8; have h9 : ((p5).toNatClampNeg : Int) = p5.toInt := h9; omega) (by have h8 := zc_nat p4 (by show 0 ≤ p4.toInt; omega); have h9 := zc_nat p5 (by show 0 ≤ p5.toInt; omega); have h8 : ((p4).toNatClampNeg : Int) = p4.toInt := h8; have h9 : ((p5).toNatClampNeg : Int) = p5.toInt := h9; omega) (fun _ _ => rfl) (Nat.le_of_ble_eq_true rfl) (Nat.le_of_ble_eq_true rfl) dX11_paste_109 (fun H locs hP hD hS => ?_)
                        obtain ⟨fz417, efz417, hP, hD⟩ : ∃ fz417 : Nat → Int64, fz417 = va_cpy (lL3 0) (lL1 0) p2.toNatClampNeg p4.toNatClampNeg p5.toNatClampNeg ∧ va_P (dC, dI) vwCl (List.flatten [(wSlot qL0 k vL0 sL0 lL0), (wSlot qL1 k vL1 sL1 (va_up lL1 0 fz417)), (wSlot qL2 k vL2 sL2 lL2), (wSlot qL3 k vL3 sL3 lL3)] ++ List.flatten [(wSag qX k tapeX toldX actsX nowX trialX storyX attemptX orderSearchX routeSearchX setSearchX probeX (qL0 0) (qL1 0) (qL2 0) (qL3 0) image0X image1X image2X aX)]) H ∧ va_D A (List.flatten [(wSlot qL0 k vL0 sL0 lL0), (wSlot qL1 k vL1 sL1 (va_up lL1 0 fz417)), (wSlot qL2 k vL2 sL2 lL2), (wSlot qL3 k vL3 sL3 lL3)] ++ List.flatten [(wSag qX k tapeX toldX actsX nowX trialX storyX attemptX orderSearchX routeSearchX setSearchX probeX (qL0 0) (qL1 0) (qL2 0) (qL3 0) image0X image1X image2X aX)]) := ⟨_, rfl, hP, hD⟩
                        refine lv_iconst (v := 0) hx hb dX11_paste_112 (by decide) ?_
                        rw [hQ]
                        exact W.iret (v := (0 : Int32)) hx hb hr (fun t ht hW => ⟨⟨(0 : Int32), (), rfl, trivial, vL0, sL0, lL0, vL1, sL1, (va_up lL1 0 fz417), vL2, sL2, lL2, vL3, sL3, lL3, hsL0, hsL1, hsL2, hsL3, by rw [ht]; exact hP⟩, hS.F ht⟩) hS.2.2 dX11_paste_113
                      · skip
                        have zz418 : rz411.toInt = (0 : Int) := zi_eq.mp cz415
                        refine lv_bipush (v := (-7)) hx hb dX11_paste_91 (by decide) ?_
                        rw [hQ]
                        exact W.iret (v := (-7 : Int32)) hx hb hr (fun t ht hW => ⟨⟨(-7 : Int32), (), rfl, trivial, vL0, sL0, lL0, vL1, sL1, lL1, vL2, sL2, lL2, vL3, sL3, lL3, hsL0, hsL1, hsL2, hsL3, by rw [ht]; exact hP⟩, hS.F ht⟩) hS.2.2 dX11_paste_93
                  · skip
                    have zz419 : ¬ (vL3 1).toInt = (vL1 1).toInt := fun h9 => cz400 (zi_eq.mpr h9)
                    refine lv_bipush (v := (-8)) hx hb dX11_paste_65 (by decide) ?_
                    rw [hQ]
                    exact W.iret (v := (-8 : Int32)) hx hb hr (fun t ht hW => ⟨⟨(-8 : Int32), (), rfl, trivial, vL0, sL0, lL0, vL1, sL1, lL1, vL2, sL2, lL2, vL3, sL3, lL3, hsL0, hsL1, hsL2, hsL3, by rw [ht]; exact hP⟩, hS.F ht⟩) hS.2.2 dX11_paste_67
                · skip
                  have zz420 : (vL1 0).toInt = (0 : Int) := zi_eq.mp cz398
                  refine lv_bipush (v := (-6)) hx hb dX11_paste_49 (by decide) ?_
                  rw [hQ]
                  exact W.iret (v := (-6 : Int32)) hx hb hr (fun t ht hW => ⟨⟨(-6 : Int32), (), rfl, trivial, vL0, sL0, lL0, vL1, sL1, lL1, vL2, sL2, lL2, vL3, sL3, lL3, hsL0, hsL1, hsL2, hsL3, by rw [ht]; exact hP⟩, hS.F ht⟩) hS.2.2 dX11_paste_51
            · skip
              have zz421 : p3.toInt = (2 : Int) := zi_eq.mp cz366
              refine W.eq (g2 := F0 m 30 ls [.int 2, .ref (qX 3)]) (by rw [cz366]) ?_
              refine va_aldq hx hb hK hP 11 6 rfl rfl (by unfold vp_in; decide) dX11_paste_30 ?_
              refine W.eq (g2 := F0 m 31 ls [.ref (qL2 0)]) rfl ?_
              refine lv_astore (lv' := [(7, .ref (qL2 0)), (6, .ref (qL3 0)), (0, .ref (qX 0)), (1, .int p1), (2, .int p2), (3, .int p3), (4, .int p4), (5, .int p5)]) hx hb dX11_paste_31 hl (by decide) rfl (fun ls hl => ?_)
              refine lv_aload hx hb dX11_paste_33 (lv_at hl 1 rfl) ?_
              refine va_get (D := (dC, dI)) (ci := 6) (v := .int (vL3 0)) (C := RX6) (T := TX6) (N := 4) hx hb hts (fun w h => List.mem_cons_of_mem _ (List.mem_append_right _ (List.mem_append_right _ (List.mem_append_right _ (List.mem_append_left _ h))))) hown hK hP 6 rfl rfl 1 (by decide) (hts (.fieldLink RX11 386 "SagMemory$Slot" "has" "Z") (wl_mem 4 rfl)) (fun _ h9 => h9) rfl dX11_paste_35 ?_
              refine lv_if_eq (tgt := 49) hx hb dX11_paste_38 (by decide) (fun cz422 => ?_) (fun cz422 => ?_)
              · skip
                have zz423 : (vL3 0).toInt = (0 : Int) := zi_eq.mp cz422
                refine lv_bipush (v := (-6)) hx hb dX11_paste_49 (by decide) ?_
                rw [hQ]
                exact W.iret (v := (-6 : Int32)) hx hb hr (fun t ht hW => ⟨⟨(-6 : Int32), (), rfl, trivial, vL0, sL0, lL0, vL1, sL1, lL1, vL2, sL2, lL2, vL3, sL3, lL3, hsL0, hsL1, hsL2, hsL3, by rw [ht]; exact hP⟩, hS.F ht⟩) hS.2.2 dX11_paste_51
              · skip
                have zz424 : ¬ (vL3 0).toInt = (0 : Int) := fun h9 => cz422 (zi_eq.mpr h9)
                refine lv_aload hx hb dX11_paste_41 (lv_at hl 0 rfl) ?_
                refine va_get (D := (dC, dI)) (ci := 6) (v := .int (vL2 0)) (C := RX6) (T := TX6) (N := 4) hx hb hts (fun w h => List.mem_cons_of_mem _ (List.mem_append_right _ (List.mem_append_right _ (List.mem_append_right _ (List.mem_append_left _ h))))) hown hK hP 4 rfl rfl 1 (by decide) (hts (.fieldLink RX11 386 "SagMemory$Slot" "has" "Z") (wl_mem 4 rfl)) (fun _ h9 => h9) rfl dX11_paste_43 ?_
                refine lv_if_ne (tgt := 52) hx hb dX11_paste_46 (by decide) (fun cz425 => ?_) (fun cz425 => ?_)
                · skip
                  have zz426 : ¬ (vL2 0).toInt = (0 : Int) := fun h9 => cz425 (zi_eq.mpr h9)
                  refine lv_aload hx hb dX11_paste_52 (lv_at hl 1 rfl) ?_
                  refine va_get (D := (dC, dI)) (ci := 6) (v := .int (vL3 1)) (C := RX6) (T := TX6) (N := 4) hx hb hts (fun w h => List.mem_cons_of_mem _ (List.mem_append_right _ (List.mem_append_right _ (List.mem_append_right _ (List.mem_append_left _ h))))) hown hK hP 6 rfl rfl 2 (by decide) (hts (.fieldLink RX11 396 "SagMemory$Slot" "width" "I") (wl_mem 5 rfl)) (fun _ h9 => h9) rfl dX11_paste_54 ?_
                  refine lv_aload hx hb dX11_paste_57 (lv_at hl 0 rfl) ?_
                  refine va_get (D := (dC, dI)) (ci := 6) (v := .int (vL2 1)) (C := RX6) (T := TX6) (N := 4) hx hb hts (fun w h => List.mem_cons_of_mem _ (List.mem_append_right _ (List.mem_append_right _ (List.mem_append_right _ (List.mem_append_left _ h))))) hown hK hP 4 rfl rfl 2 (by decide) (hts (.fieldLink RX11 396 "SagMemory$Slot" "width" "I") (wl_mem 5 rfl)) (fun _ h9 => h9) rfl dX11_paste_59 ?_
                  refine lv_icmp_eq (tgt := 68) hx hb dX11_paste_62 (by decide) (fun cz427 => ?_) (fun cz427 => ?_)
                  · skip
                    have zz428 : (vL3 1).toInt = (vL2 1).toInt := zi_eq.mp cz427
                    refine lv_aload hx hb dX11_paste_68 (lv_at hl 1 rfl) ?_
                    refine lv_iload_n hx hb dX11_paste_70 rfl (lv_at hl 4 rfl) ?_
                    refine lv_iload hx hb dX11_paste_71 (lv_at hl 7 rfl) ?_
                    have hPc := hP.sub (ws' := (List.flatten [(wSlot qL3 k vL3 sL3 lL3)])) [6, 7] rfl
                    refine vp_callSi (va_Run.run (va_runV (As := [.int p2, .int p5]) (rest := []) ⟨hx, hb, hml, hown, hts⟩ (c_X6_spans l dC dI k qL3 vL3 sL3 lL3 p2 p5 hsL3) (cwV 2 hts (gk_V (wl_mem 6 rfl) (wl_mem 7 rfl) (wl_mem 8 rfl) (wl_mem 9 rfl) (fun w h => List.mem_cons_of_mem _ (List.mem_append_right _ (List.mem_append_right _ (List.mem_append_right _ (List.mem_append_right _ (List.mem_append_left _ h)))))) wkg_c_X6_spans) rfl rfl rfl (by decide +kernel) ⟨Nat.le_of_ble_eq_true rfl, Nat.le_of_ble_eq_true rfl⟩) ⟨fun a U g mk q => by obtain ⟨q0, qP, qK⟩ := q; exact ⟨q0, qP, va_K.moved (u := U) (U := U.calling g mk a) (Vm.Alike.refl U.vm) qK⟩, va_recv hK hPc (ci := 6) (q0 := 0) rfl rfl, fun U hU hW => ⟨rfl, by rw [hU]; exact hPc, va_K.moved hW.alike hK⟩⟩ rfl rfl hl.1 rfl (lv_room (Nat.le_of_ble_eq_true rfl)) dX11_paste_73 ⟨Nat.le_of_ble_eq_true rfl, Nat.le_of_ble_eq_true rfl⟩)) (fun rz430 gz429 => ?_)
                    clear hPc
                    obtain ⟨pz431, pz432⟩ := gz429
                    have pz431 : rz430.toInt = 0 ∨ (0 ≤ p2.toInt ∧ 0 ≤ p5.toInt ∧ p2.toInt + p5.toInt ≤ (sL3 0).toInt) := pz431
                    have pz432 : rz430.toInt = 0 ∨ rz430.toInt = 1 := pz432
                    have bz433 := hsL3 0
                    refine lv_if_eq (tgt := 91) hx hb dX11_paste_76 (by decide) (fun cz434 => ?_) (fun cz434 => ?_)
                    · skip
                      have zz435 : rz430.toInt = (0 : Int) := zi_eq.mp cz434
                      refine lv_bipush (v := (-7)) hx hb dX11_paste_91 (by decide) ?_
                      rw [hQ]
                      exact W.iret (v := (-7 : Int32)) hx hb hr (fun t ht hW => ⟨⟨(-7 : Int32), (), rfl, trivial, vL0, sL0, lL0, vL1, sL1, lL1, vL2, sL2, lL2, vL3, sL3, lL3, hsL0, hsL1, hsL2, hsL3, by rw [ht]; exact hP⟩, hS.F ht⟩) hS.2.2 dX11_paste_93
                    · skip
                      have zz436 : ¬ rz430.toInt = (0 : Int) := fun h9 => cz434 (zi_eq.mpr h9)
                      refine lv_aload hx hb dX11_paste_79 (lv_at hl 0 rfl) ?_
                      refine lv_iload hx hb dX11_paste_81 (lv_at hl 6 rfl) ?_
                      refine lv_iload hx hb dX11_paste_83 (lv_at hl 7 rfl) ?_
                      have hPc := hP.sub (ws' := (List.flatten [(wSlot qL2 k vL2 sL2 lL2)])) [4, 5] rfl
                      refine vp_callSi (va_Run.run (va_runV (As := [.int p4, .int p5]) (rest := []) ⟨hx, hb, hml, hown, hts⟩ (c_X6_spans l dC dI k qL2 vL2 sL2 lL2 p4 p5 hsL2) (cwV 2 hts (gk_V (wl_mem 6 rfl) (wl_mem 7 rfl) (wl_mem 8 rfl) (wl_mem 9 rfl) (fun w h => List.mem_cons_of_mem _ (List.mem_append_right _ (List.mem_append_right _ (List.mem_append_right _ (List.mem_append_right _ (List.mem_append_left _ h)))))) wkg_c_X6_spans) rfl rfl rfl (by decide +kernel) ⟨Nat.le_of_ble_eq_true rfl, Nat.le_of_ble_eq_true rfl⟩) ⟨fun a U g mk q => by obtain ⟨q0, qP, qK⟩ := q; exact ⟨q0, qP, va_K.moved (u := U) (U := U.calling g mk a) (Vm.Alike.refl U.vm) qK⟩, va_recv hK hPc (ci := 6) (q0 := 0) rfl rfl, fun U hU hW => ⟨rfl, by rw [hU]; exact hPc, va_K.moved hW.alike hK⟩⟩ rfl rfl hl.1 rfl (lv_room (Nat.le_of_ble_eq_true rfl)) dX11_paste_85 ⟨Nat.le_of_ble_eq_true rfl, Nat.le_of_ble_eq_true rfl⟩)) (fun rz438 gz437 => ?_)
                      clear hPc
                      obtain ⟨pz439, pz440⟩ := gz437
                      have pz439 : rz438.toInt = 0 ∨ (0 ≤ p4.toInt ∧ 0 ≤ p5.toInt ∧ p4.toInt + p5.toInt ≤ (sL2 0).toInt) := pz439
                      have pz440 : rz438.toInt = 0 ∨ rz438.toInt = 1 := pz440
                      have bz441 := hsL2 0
                      refine lv_if_ne (tgt := 94) hx hb dX11_paste_88 (by decide) (fun cz442 => ?_) (fun cz442 => ?_)
                      · skip
                        have zz443 : ¬ rz438.toInt = (0 : Int) := fun h9 => cz442 (zi_eq.mpr h9)
                        refine lv_aload hx hb dX11_paste_94 (lv_at hl 1 rfl) ?_
                        refine va_get (D := (dC, dI)) (ci := 6) (v := .ref (qL3 1)) (C := RX6) (T := TX6) (N := 4) hx hb hts (fun w h => List.mem_cons_of_mem _ (List.mem_append_right _ (List.mem_append_right _ (List.mem_append_right _ (List.mem_append_left _ h))))) hown hK hP 6 rfl rfl 0 (by decide) (hts (.fieldLink RX11 388 "SagMemory$Slot" "numbers" "[J") (wl_mem 10 rfl)) (fun _ h9 => h9) rfl dX11_paste_96 ?_
                        refine lv_iload_n hx hb dX11_paste_99 rfl (lv_at hl 4 rfl) ?_
                        refine lv_aload hx hb dX11_paste_100 (lv_at hl 0 rfl) ?_
                        refine va_get (D := (dC, dI)) (ci := 6) (v := .ref (qL2 1)) (C := RX6) (T := TX6) (N := 4) hx hb hts (fun w h => List.mem_cons_of_mem _ (List.mem_append_right _ (List.mem_append_right _ (List.mem_append_right _ (List.mem_append_left _ h))))) hown hK hP 4 rfl rfl 0 (by decide) (hts (.fieldLink RX11 388 "SagMemory$Slot" "numbers" "[J") (wl_mem 10 rfl)) (fun _ h9 => h9) rfl dX11_paste_102 ?_
                        refine lv_iload hx hb dX11_paste_105 (lv_at hl 6 rfl) ?_
                        refine lv_iload hx hb dX11_paste_107 (lv_at hl 7 rfl) ?_
                        refine va_copyl (ty := .long) hx hb (by rw [hml]; exact hl.1.symm) hown (hts (.methodLink RX11 402 arraycopyName) (wl_mem 11 rfl)) (hts (.native arraycopyName) (wl_mem 12 rfl)) (hts (.static arraycopyName) (wl_mem 13 rfl)) (hts (.initialized "java/lang/System") (wl_mem 14 rfl)) hK hP hD hS 7 5 1 1 rfl rfl rfl rfl rfl (fun h9 => by have h8 := zi_lt.mp h9; have h8 : p2.toInt < (0 : Int) := h8; omega) (fun h9 => by have h8 := zi_lt.mp h9; have h8 : p4.toInt < (0 : Int) := h8; omega) (fun h9 => by have h8 := zi_lt.mp h9; have h8 : p5.toInt < (0 : Int) := h8; omega) (by have h8 := zc_nat p2 (by show 0 ≤ p2.toInt; omega); have h9 := zc_nat p5 (by show 0 ≤ p5.toInt; omega); have h8 : ((p2).toNatClampNeg : Int) = p2.toInt := h8; have h9 : ((p5).toNatClampNeg : Int) = p5.toInt := h9; omega) (by have h8 := zc_nat p4 (by show 0 ≤ p4.toInt; omega); have h9 := zc_nat p5 (by show 0 ≤ p5.toInt; omega); have h8 : ((p4).toNatClampNeg : Int) = p4.toInt := h8; have h9 : ((p5).toNatClampNeg : Int) = p5.toInt := h9; omega) (fun _ _ => rfl) (Nat.le_of_ble_eq_true rfl) (Nat.le_of_ble_eq_true rfl) dX11_paste_109 (fun H locs hP hD hS => ?_)
                        obtain ⟨fz444, efz444, hP, hD⟩ : ∃ fz444 : Nat → Int64, fz444 = va_cpy (lL3 0) (lL2 0) p2.toNatClampNeg p4.toNatClampNeg p5.toNatClampNeg ∧ va_P (dC, dI) vwCl (List.flatten [(wSlot qL0 k vL0 sL0 lL0), (wSlot qL1 k vL1 sL1 lL1), (wSlot qL2 k vL2 sL2 (va_up lL2 0 fz444)), (wSlot qL3 k vL3 sL3 lL3)] ++ List.flatten [(wSag qX k tapeX toldX actsX nowX trialX storyX attemptX orderSearchX routeSearchX setSearchX probeX (qL0 0) (qL1 0) (qL2 0) (qL3 0) image0X image1X image2X aX)]) H ∧ va_D A (List.flatten [(wSlot qL0 k vL0 sL0 lL0), (wSlot qL1 k vL1 sL1 lL1), (wSlot qL2 k vL2 sL2 (va_up lL2 0 fz444)), (wSlot qL3 k vL3 sL3 lL3)] ++ List.flatten [(wSag qX k tapeX toldX actsX nowX trialX storyX attemptX orderSearchX routeSearchX setSearchX probeX (qL0 0) (qL1 0) (qL2 0) (qL3 0) image0X image1X image2X aX)]) := ⟨_, rfl, hP, hD⟩
                        refine lv_iconst (v := 0) hx hb dX11_paste_112 (by decide) ?_
                        rw [hQ]
                        exact W.iret (v := (0 : Int32)) hx hb hr (fun t ht hW => ⟨⟨(0 : Int32), (), rfl, trivial, vL0, sL0, lL0, vL1, sL1, lL1, vL2, sL2, (va_up lL2 0 fz444), vL3, sL3, lL3, hsL0, hsL1, hsL2, hsL3, by rw [ht]; exact hP⟩, hS.F ht⟩) hS.2.2 dX11_paste_113
                      · skip
                        have zz445 : rz438.toInt = (0 : Int) := zi_eq.mp cz442
                        refine lv_bipush (v := (-7)) hx hb dX11_paste_91 (by decide) ?_
                        rw [hQ]
                        exact W.iret (v := (-7 : Int32)) hx hb hr (fun t ht hW => ⟨⟨(-7 : Int32), (), rfl, trivial, vL0, sL0, lL0, vL1, sL1, lL1, vL2, sL2, lL2, vL3, sL3, lL3, hsL0, hsL1, hsL2, hsL3, by rw [ht]; exact hP⟩, hS.F ht⟩) hS.2.2 dX11_paste_93
                  · skip
                    have zz446 : ¬ (vL3 1).toInt = (vL2 1).toInt := fun h9 => cz427 (zi_eq.mpr h9)
                    refine lv_bipush (v := (-8)) hx hb dX11_paste_65 (by decide) ?_
                    rw [hQ]
                    exact W.iret (v := (-8 : Int32)) hx hb hr (fun t ht hW => ⟨⟨(-8 : Int32), (), rfl, trivial, vL0, sL0, lL0, vL1, sL1, lL1, vL2, sL2, lL2, vL3, sL3, lL3, hsL0, hsL1, hsL2, hsL3, by rw [ht]; exact hP⟩, hS.F ht⟩) hS.2.2 dX11_paste_67
                · skip
                  have zz447 : (vL2 0).toInt = (0 : Int) := zi_eq.mp cz425
                  refine lv_bipush (v := (-6)) hx hb dX11_paste_49 (by decide) ?_
                  rw [hQ]
                  exact W.iret (v := (-6 : Int32)) hx hb hr (fun t ht hW => ⟨⟨(-6 : Int32), (), rfl, trivial, vL0, sL0, lL0, vL1, sL1, lL1, vL2, sL2, lL2, vL3, sL3, lL3, hsL0, hsL1, hsL2, hsL3, by rw [ht]; exact hP⟩, hS.F ht⟩) hS.2.2 dX11_paste_51
            · skip
              have zz448 : p3.toInt = (3 : Int) := zi_eq.mp cz366
              refine W.eq (g2 := F0 m 30 ls [.int 3, .ref (qX 3)]) (by rw [cz366]) ?_
              refine va_aldq hx hb hK hP 11 6 rfl rfl (by unfold vp_in; decide) dX11_paste_30 ?_
              refine W.eq (g2 := F0 m 31 ls [.ref (qL3 0)]) rfl ?_
              refine lv_astore (lv' := [(7, .ref (qL3 0)), (6, .ref (qL3 0)), (0, .ref (qX 0)), (1, .int p1), (2, .int p2), (3, .int p3), (4, .int p4), (5, .int p5)]) hx hb dX11_paste_31 hl (by decide) rfl (fun ls hl => ?_)
              refine lv_aload hx hb dX11_paste_33 (lv_at hl 1 rfl) ?_
              refine va_get (D := (dC, dI)) (ci := 6) (v := .int (vL3 0)) (C := RX6) (T := TX6) (N := 4) hx hb hts (fun w h => List.mem_cons_of_mem _ (List.mem_append_right _ (List.mem_append_right _ (List.mem_append_right _ (List.mem_append_left _ h))))) hown hK hP 6 rfl rfl 1 (by decide) (hts (.fieldLink RX11 386 "SagMemory$Slot" "has" "Z") (wl_mem 4 rfl)) (fun _ h9 => h9) rfl dX11_paste_35 ?_
              refine lv_if_eq (tgt := 49) hx hb dX11_paste_38 (by decide) (fun cz449 => ?_) (fun cz449 => ?_)
              · skip
                have zz450 : (vL3 0).toInt = (0 : Int) := zi_eq.mp cz449
                refine lv_bipush (v := (-6)) hx hb dX11_paste_49 (by decide) ?_
                rw [hQ]
                exact W.iret (v := (-6 : Int32)) hx hb hr (fun t ht hW => ⟨⟨(-6 : Int32), (), rfl, trivial, vL0, sL0, lL0, vL1, sL1, lL1, vL2, sL2, lL2, vL3, sL3, lL3, hsL0, hsL1, hsL2, hsL3, by rw [ht]; exact hP⟩, hS.F ht⟩) hS.2.2 dX11_paste_51
              · skip
                have zz451 : ¬ (vL3 0).toInt = (0 : Int) := fun h9 => cz449 (zi_eq.mpr h9)
                refine lv_aload hx hb dX11_paste_41 (lv_at hl 0 rfl) ?_
                refine va_get (D := (dC, dI)) (ci := 6) (v := .int (vL3 0)) (C := RX6) (T := TX6) (N := 4) hx hb hts (fun w h => List.mem_cons_of_mem _ (List.mem_append_right _ (List.mem_append_right _ (List.mem_append_right _ (List.mem_append_left _ h))))) hown hK hP 6 rfl rfl 1 (by decide) (hts (.fieldLink RX11 386 "SagMemory$Slot" "has" "Z") (wl_mem 4 rfl)) (fun _ h9 => h9) rfl dX11_paste_43 ?_
                refine lv_if_ne (tgt := 52) hx hb dX11_paste_46 (by decide) (fun cz452 => ?_) (fun cz452 => ?_)
                · skip
                  have zz453 : ¬ (vL3 0).toInt = (0 : Int) := fun h9 => cz452 (zi_eq.mpr h9)
                  refine lv_aload hx hb dX11_paste_52 (lv_at hl 1 rfl) ?_
                  refine va_get (D := (dC, dI)) (ci := 6) (v := .int (vL3 1)) (C := RX6) (T := TX6) (N := 4) hx hb hts (fun w h => List.mem_cons_of_mem _ (List.mem_append_right _ (List.mem_append_right _ (List.mem_append_right _ (List.mem_append_left _ h))))) hown hK hP 6 rfl rfl 2 (by decide) (hts (.fieldLink RX11 396 "SagMemory$Slot" "width" "I") (wl_mem 5 rfl)) (fun _ h9 => h9) rfl dX11_paste_54 ?_
                  refine lv_aload hx hb dX11_paste_57 (lv_at hl 0 rfl) ?_
                  refine va_get (D := (dC, dI)) (ci := 6) (v := .int (vL3 1)) (C := RX6) (T := TX6) (N := 4) hx hb hts (fun w h => List.mem_cons_of_mem _ (List.mem_append_right _ (List.mem_append_right _ (List.mem_append_right _ (List.mem_append_left _ h))))) hown hK hP 6 rfl rfl 2 (by decide) (hts (.fieldLink RX11 396 "SagMemory$Slot" "width" "I") (wl_mem 5 rfl)) (fun _ h9 => h9) rfl dX11_paste_59 ?_
                  refine lv_icmp_eq (tgt := 68) hx hb dX11_paste_62 (by decide) (fun cz454 => ?_) (fun cz454 => ?_)
                  · skip
                    have zz455 : (vL3 1).toInt = (vL3 1).toInt := zi_eq.mp cz454
                    refine lv_aload hx hb dX11_paste_68 (lv_at hl 1 rfl) ?_
                    refine lv_iload_n hx hb dX11_paste_70 rfl (lv_at hl 4 rfl) ?_
                    refine lv_iload hx hb dX11_paste_71 (lv_at hl 7 rfl) ?_
                    have hPc := hP.sub (ws' := (List.flatten [(wSlot qL3 k vL3 sL3 lL3)])) [6, 7] rfl
                    refine vp_callSi (va_Run.run (va_runV (As := [.int p2, .int p5]) (rest := []) ⟨hx, hb, hml, hown, hts⟩ (c_X6_spans l dC dI k qL3 vL3 sL3 lL3 p2 p5 hsL3) (cwV 2 hts (gk_V (wl_mem 6 rfl) (wl_mem 7 rfl) (wl_mem 8 rfl) (wl_mem 9 rfl) (fun w h => List.mem_cons_of_mem _ (List.mem_append_right _ (List.mem_append_right _ (List.mem_append_right _ (List.mem_append_right _ (List.mem_append_left _ h)))))) wkg_c_X6_spans) rfl rfl rfl (by decide +kernel) ⟨Nat.le_of_ble_eq_true rfl, Nat.le_of_ble_eq_true rfl⟩) ⟨fun a U g mk q => by obtain ⟨q0, qP, qK⟩ := q; exact ⟨q0, qP, va_K.moved (u := U) (U := U.calling g mk a) (Vm.Alike.refl U.vm) qK⟩, va_recv hK hPc (ci := 6) (q0 := 0) rfl rfl, fun U hU hW => ⟨rfl, by rw [hU]; exact hPc, va_K.moved hW.alike hK⟩⟩ rfl rfl hl.1 rfl (lv_room (Nat.le_of_ble_eq_true rfl)) dX11_paste_73 ⟨Nat.le_of_ble_eq_true rfl, Nat.le_of_ble_eq_true rfl⟩)) (fun rz457 gz456 => ?_)
                    clear hPc
                    obtain ⟨pz458, pz459⟩ := gz456
                    have pz458 : rz457.toInt = 0 ∨ (0 ≤ p2.toInt ∧ 0 ≤ p5.toInt ∧ p2.toInt + p5.toInt ≤ (sL3 0).toInt) := pz458
                    have pz459 : rz457.toInt = 0 ∨ rz457.toInt = 1 := pz459
                    have bz460 := hsL3 0
                    refine lv_if_eq (tgt := 91) hx hb dX11_paste_76 (by decide) (fun cz461 => ?_) (fun cz461 => ?_)
                    · skip
                      have zz462 : rz457.toInt = (0 : Int) := zi_eq.mp cz461
                      refine lv_bipush (v := (-7)) hx hb dX11_paste_91 (by decide) ?_
                      rw [hQ]
                      exact W.iret (v := (-7 : Int32)) hx hb hr (fun t ht hW => ⟨⟨(-7 : Int32), (), rfl, trivial, vL0, sL0, lL0, vL1, sL1, lL1, vL2, sL2, lL2, vL3, sL3, lL3, hsL0, hsL1, hsL2, hsL3, by rw [ht]; exact hP⟩, hS.F ht⟩) hS.2.2 dX11_paste_93
                    · skip
                      have zz463 : ¬ rz457.toInt = (0 : Int) := fun h9 => cz461 (zi_eq.mpr h9)
                      refine lv_aload hx hb dX11_paste_79 (lv_at hl 0 rfl) ?_
                      refine lv_iload hx hb dX11_paste_81 (lv_at hl 6 rfl) ?_
                      refine lv_iload hx hb dX11_paste_83 (lv_at hl 7 rfl) ?_
                      have hPc := hP.sub (ws' := (List.flatten [(wSlot qL3 k vL3 sL3 lL3)])) [6, 7] rfl
                      refine vp_callSi (va_Run.run (va_runV (As := [.int p4, .int p5]) (rest := []) ⟨hx, hb, hml, hown, hts⟩ (c_X6_spans l dC dI k qL3 vL3 sL3 lL3 p4 p5 hsL3) (cwV 2 hts (gk_V (wl_mem 6 rfl) (wl_mem 7 rfl) (wl_mem 8 rfl) (wl_mem 9 rfl) (fun w h => List.mem_cons_of_mem _ (List.mem_append_right _ (List.mem_append_right _ (List.mem_append_right _ (List.mem_append_right _ (List.mem_append_left _ h)))))) wkg_c_X6_spans) rfl rfl rfl (by decide +kernel) ⟨Nat.le_of_ble_eq_true rfl, Nat.le_of_ble_eq_true rfl⟩) ⟨fun a U g mk q => by obtain ⟨q0, qP, qK⟩ := q; exact ⟨q0, qP, va_K.moved (u := U) (U := U.calling g mk a) (Vm.Alike.refl U.vm) qK⟩, va_recv hK hPc (ci := 6) (q0 := 0) rfl rfl, fun U hU hW => ⟨rfl, by rw [hU]; exact hPc, va_K.moved hW.alike hK⟩⟩ rfl rfl hl.1 rfl (lv_room (Nat.le_of_ble_eq_true rfl)) dX11_paste_85 ⟨Nat.le_of_ble_eq_true rfl, Nat.le_of_ble_eq_true rfl⟩)) (fun rz465 gz464 => ?_)
                      clear hPc
                      obtain ⟨pz466, pz467⟩ := gz464
                      have pz466 : rz465.toInt = 0 ∨ (0 ≤ p4.toInt ∧ 0 ≤ p5.toInt ∧ p4.toInt + p5.toInt ≤ (sL3 0).toInt) := pz466
                      have pz467 : rz465.toInt = 0 ∨ rz465.toInt = 1 := pz467
                      refine lv_if_ne (tgt := 94) hx hb dX11_paste_88 (by decide) (fun cz468 => ?_) (fun cz468 => ?_)
                      · skip
                        have zz469 : ¬ rz465.toInt = (0 : Int) := fun h9 => cz468 (zi_eq.mpr h9)
                        refine lv_aload hx hb dX11_paste_94 (lv_at hl 1 rfl) ?_
                        refine va_get (D := (dC, dI)) (ci := 6) (v := .ref (qL3 1)) (C := RX6) (T := TX6) (N := 4) hx hb hts (fun w h => List.mem_cons_of_mem _ (List.mem_append_right _ (List.mem_append_right _ (List.mem_append_right _ (List.mem_append_left _ h))))) hown hK hP 6 rfl rfl 0 (by decide) (hts (.fieldLink RX11 388 "SagMemory$Slot" "numbers" "[J") (wl_mem 10 rfl)) (fun _ h9 => h9) rfl dX11_paste_96 ?_
                        refine lv_iload_n hx hb dX11_paste_99 rfl (lv_at hl 4 rfl) ?_
                        refine lv_aload hx hb dX11_paste_100 (lv_at hl 0 rfl) ?_
                        refine va_get (D := (dC, dI)) (ci := 6) (v := .ref (qL3 1)) (C := RX6) (T := TX6) (N := 4) hx hb hts (fun w h => List.mem_cons_of_mem _ (List.mem_append_right _ (List.mem_append_right _ (List.mem_append_right _ (List.mem_append_left _ h))))) hown hK hP 6 rfl rfl 0 (by decide) (hts (.fieldLink RX11 388 "SagMemory$Slot" "numbers" "[J") (wl_mem 10 rfl)) (fun _ h9 => h9) rfl dX11_paste_102 ?_
                        refine lv_iload hx hb dX11_paste_105 (lv_at hl 6 rfl) ?_
                        refine lv_iload hx hb dX11_paste_107 (lv_at hl 7 rfl) ?_
                        refine va_copyl (ty := .long) hx hb (by rw [hml]; exact hl.1.symm) hown (hts (.methodLink RX11 402 arraycopyName) (wl_mem 11 rfl)) (hts (.native arraycopyName) (wl_mem 12 rfl)) (hts (.static arraycopyName) (wl_mem 13 rfl)) (hts (.initialized "java/lang/System") (wl_mem 14 rfl)) hK hP hD hS 7 7 1 1 rfl rfl rfl rfl rfl (fun h9 => by have h8 := zi_lt.mp h9; have h8 : p2.toInt < (0 : Int) := h8; omega) (fun h9 => by have h8 := zi_lt.mp h9; have h8 : p4.toInt < (0 : Int) := h8; omega) (fun h9 => by have h8 := zi_lt.mp h9; have h8 : p5.toInt < (0 : Int) := h8; omega) (by have h8 := zc_nat p2 (by show 0 ≤ p2.toInt; omega); have h9 := zc_nat p5 (by show 0 ≤ p5.toInt; omega); have h8 : ((p2).toNatClampNeg : Int) = p2.toInt := h8; have h9 : ((p5).toNatClampNeg : Int) = p5.toInt := h9; omega) (by have h8 := zc_nat p4 (by show 0 ≤ p4.toInt; omega); have h9 := zc_nat p5 (by show 0 ≤ p5.toInt; omega); have h8 : ((p4).toNatClampNeg : Int) = p4.toInt := h8; have h9 : ((p5).toNatClampNeg : Int) = p5.toInt := h9; omega) (fun _ _ => rfl) (Nat.le_of_ble_eq_true rfl) (Nat.le_of_ble_eq_true rfl) dX11_paste_109 (fun H locs hP hD hS => ?_)
                        obtain ⟨fz470, efz470, hP, hD⟩ : ∃ fz470 : Nat → Int64, fz470 = va_cpy (lL3 0) (lL3 0) p2.toNatClampNeg p4.toNatClampNeg p5.toNatClampNeg ∧ va_P (dC, dI) vwCl (List.flatten [(wSlot qL0 k vL0 sL0 lL0), (wSlot qL1 k vL1 sL1 lL1), (wSlot qL2 k vL2 sL2 lL2), (wSlot qL3 k vL3 sL3 (va_up lL3 0 fz470))] ++ List.flatten [(wSag qX k tapeX toldX actsX nowX trialX storyX attemptX orderSearchX routeSearchX setSearchX probeX (qL0 0) (qL1 0) (qL2 0) (qL3 0) image0X image1X image2X aX)]) H ∧ va_D A (List.flatten [(wSlot qL0 k vL0 sL0 lL0), (wSlot qL1 k vL1 sL1 lL1), (wSlot qL2 k vL2 sL2 lL2), (wSlot qL3 k vL3 sL3 (va_up lL3 0 fz470))] ++ List.flatten [(wSag qX k tapeX toldX actsX nowX trialX storyX attemptX orderSearchX routeSearchX setSearchX probeX (qL0 0) (qL1 0) (qL2 0) (qL3 0) image0X image1X image2X aX)]) := ⟨_, rfl, hP, hD⟩
                        refine lv_iconst (v := 0) hx hb dX11_paste_112 (by decide) ?_
                        rw [hQ]
                        exact W.iret (v := (0 : Int32)) hx hb hr (fun t ht hW => ⟨⟨(0 : Int32), (), rfl, trivial, vL0, sL0, lL0, vL1, sL1, lL1, vL2, sL2, lL2, vL3, sL3, (va_up lL3 0 fz470), hsL0, hsL1, hsL2, hsL3, by rw [ht]; exact hP⟩, hS.F ht⟩) hS.2.2 dX11_paste_113
                      · skip
                        have zz471 : rz465.toInt = (0 : Int) := zi_eq.mp cz468
                        refine lv_bipush (v := (-7)) hx hb dX11_paste_91 (by decide) ?_
                        rw [hQ]
                        exact W.iret (v := (-7 : Int32)) hx hb hr (fun t ht hW => ⟨⟨(-7 : Int32), (), rfl, trivial, vL0, sL0, lL0, vL1, sL1, lL1, vL2, sL2, lL2, vL3, sL3, lL3, hsL0, hsL1, hsL2, hsL3, by rw [ht]; exact hP⟩, hS.F ht⟩) hS.2.2 dX11_paste_93
                  · skip
                    have zz472 : ¬ (vL3 1).toInt = (vL3 1).toInt := fun h9 => cz454 (zi_eq.mpr h9)
                    exact absurd rfl cz454
                · skip
                  have zz473 : (vL3 0).toInt = (0 : Int) := zi_eq.mp cz452
                  omega
        · skip
          exact absurd cz36 (by decide)
