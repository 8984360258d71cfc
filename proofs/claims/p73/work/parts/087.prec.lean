def wk_c_X11_image_x : List Cond := .code yX11_image cX11_image 3 (some .int) :: ([.fieldLink RX11 91 "SagMemory" "images" "[LSagMemory$Image;", .fieldLink RX11 369 "SagMemory$Image" "valley" "LSagMemory$Valley;", .fieldLink RX11 19 "SagMemory" "told" "LSagMemory$Valley;", .methodLink RX11 112 yX10_take, .instanceMethod yX10_take, .selects RX10 yX10_take yX10_take, .initialized RX10, .fieldLink RX11 372 "SagMemory$Image" "acts" "LSagMemory$Acts;", .fieldLink RX11 26 "SagMemory" "acts" "LSagMemory$Acts;", .methodLink RX11 373 yX0_take, .instanceMethod yX0_take, .selects RX0 yX0_take yX0_take, .initialized RX0, .fieldLink RX11 376 "SagMemory$Image" "has" "Z"] ++ (wsX110 ++ (wsX10 ++ (wk_c_X10_take ++ (wk_c_X0_take ++ [])))))
theorem wkg_c_X11_image_x : wk_c_X11_image_x.all goodWord = true := by decide +kernel
set_option maxHeartbeats 4000000 in
set_option maxRecDepth 100000 in
theorem c_X11_image_x (l : Launch) (dC : Nat → ClassId) (dI : Nat → Nat → Nat) (k : Nat → ClassId) (sz : Nat) (qX : Nat → Nat) (tapeX : Nat) (nowX : Nat) (trialX : Nat) (storyX : Nat) (attemptX : Nat) (orderSearchX : Nat) (routeSearchX : Nat) (setSearchX : Nat) (probeX : Nat) (slot0X : Nat) (slot1X : Nat) (slot2X : Nat) (slot3X : Nat) (aX : Nat → Nat → Int32) (qV : Nat → Nat) (vV : Nat → Int32) (bV : Nat → Int32) (cV : Nat → Int32) (wV : Nat → Int32) (aV : Nat → Nat → Int32) (eV : Nat → Nat → Int32) (qA : Nat → Nat) (dA : Nat → Int32) (aA : Nat → Nat → Int32) (qI0 : Nat → Nat) (vI0 : Nat → Int32) (qI1 : Nat → Nat) (vI1 : Nat → Int32) (qI2 : Nat → Nat) (vI2 : Nat → Int32) (qJ0 : Nat → Nat) (vJ0 : Nat → Int32) (bJ0 : Nat → Int32) (cJ0 : Nat → Int32) (wJ0 : Nat → Int32) (aJ0 : Nat → Nat → Int32) (eJ0 : Nat → Nat → Int32) (qJ1 : Nat → Nat) (vJ1 : Nat → Int32) (bJ1 : Nat → Int32) (cJ1 : Nat → Int32) (wJ1 : Nat → Int32) (aJ1 : Nat → Nat → Int32) (eJ1 : Nat → Nat → Int32) (qJ2 : Nat → Nat) (vJ2 : Nat → Int32) (bJ2 : Nat → Int32) (cJ2 : Nat → Int32) (wJ2 : Nat → Int32) (aJ2 : Nat → Nat → Int32) (eJ2 : Nat → Nat → Int32) (qK0 : Nat → Nat) (dK0 : Nat → Int32) (aK0 : Nat → Nat → Int32) (qK1 : Nat → Nat) (dK1 : Nat → Int32) (aK1 : Nat → Nat → Int32) (qK2 : Nat → Nat) (dK2 : Nat → Int32) (aK2 : Nat → Nat → Int32) (p1 : Int32) (hbV : Rg 0 3 bV) (hcV : Rg 0 7 cV) (hwV : Rg 0 5 wV) (heV : RgA 0 99 eV) (hdA : Rg 0 30 dA) (hbJ0 : Rg 0 3 bJ0) (hcJ0 : Rg 0 7 cJ0) (hwJ0 : Rg 0 5 wJ0) (heJ0 : RgA 0 99 eJ0) (hbJ1 : Rg 0 3 bJ1) (hcJ1 : Rg 0 7 cJ1) (hwJ1 : Rg 0 5 wJ1) (heJ1 : RgA 0 99 eJ1) (hbJ2 : Rg 0 3 bJ2) (hcJ2 : Rg 0 7 cJ2) (hwJ2 : Rg 0 5 wJ2) (heJ2 : RgA 0 99 eJ2) (hdK0 : Rg 0 30 dK0) (hdK1 : Rg 0 30 dK1) (hdK2 : Rg 0 30 dK2) : Met l yX11_image wk_c_X11_image_x ({ frames := 2, cells := 0, slots := 0, locals := 101 }) (va_Pc [.ref (qX 0), .int p1] (fun U => U.heap.size = sz ∧ va_P (dC, dI) vwCl (List.flatten [(wImage qI0 k (qJ0 0) (qK0 0) vI0), (wImage qI1 k (qJ1 0) (qK1 0) vI1), (wImage qI2 k (qJ2 0) (qK2 0) vI2), (wValley qJ0 k vJ0 bJ0 cJ0 wJ0 aJ0 eJ0), (wValley qJ1 k vJ1 bJ1 cJ1 wJ1 aJ1 eJ1), (wValley qJ2 k vJ2 bJ2 cJ2 wJ2 aJ2 eJ2), (wActs qK0 k dK0 aK0), (wActs qK1 k dK1 aK1), (wActs qK2 k dK2 aK2)] ++ List.flatten [(wSag qX k tapeX (qV 0) (qA 0) nowX trialX storyX attemptX orderSearchX routeSearchX setSearchX probeX slot0X slot1X slot2X slot3X (qI0 0) (qI1 0) (qI2 0) aX), (wValley qV k vV bV cV wV aV eV), (wActs qA k dA aA)]) U.heap ∧ va_K (dC, dI) vwCl (tK k) U ∧ va_D (fun _ => True) (List.flatten [(wImage qI0 k (qJ0 0) (qK0 0) vI0), (wImage qI1 k (qJ1 0) (qK1 0) vI1), (wImage qI2 k (qJ2 0) (qK2 0) vI2), (wValley qJ0 k vJ0 bJ0 cJ0 wJ0 aJ0 eJ0), (wValley qJ1 k vJ1 bJ1 cJ1 wJ1 aJ1 eJ1), (wValley qJ2 k vJ2 bJ2 cJ2 wJ2 aJ2 eJ2), (wActs qK0 k dK0 aK0), (wActs qK1 k dK1 aK1), (wActs qK2 k dK2 aK2)] ++ List.flatten [(wSag qX k tapeX (qV 0) (qA 0) nowX trialX storyX attemptX orderSearchX routeSearchX setSearchX probeX slot0X slot1X slot2X slot3X (qI0 0) (qI1 0) (qI2 0) aX), (wValley qV k vV bV cV wV aV eV), (wActs qA k dA aA)]))) (va_Qi (fun (r : Int32) (_ : Unit) => ((0 ≤ p1.toInt ∧ p1.toInt ≤ 2 ∧ r.toInt = 0) ∨ ((p1.toInt < 0 ∨ 2 < p1.toInt) ∧ r.toInt = (-2)))) (fun (_ : Unit) (t : State) => ∃ (vI0' : Nat → Int32) (vI1' : Nat → Int32) (vI2' : Nat → Int32) (vJ0' : Nat → Int32) (bJ0' : Nat → Int32) (cJ0' : Nat → Int32) (wJ0' : Nat → Int32) (aJ0' : Nat → Nat → Int32) (eJ0' : Nat → Nat → Int32) (vJ1' : Nat → Int32) (bJ1' : Nat → Int32) (cJ1' : Nat → Int32) (wJ1' : Nat → Int32) (aJ1' : Nat → Nat → Int32) (eJ1' : Nat → Nat → Int32) (vJ2' : Nat → Int32) (bJ2' : Nat → Int32) (cJ2' : Nat → Int32) (wJ2' : Nat → Int32) (aJ2' : Nat → Nat → Int32) (eJ2' : Nat → Nat → Int32) (dK0' : Nat → Int32) (aK0' : Nat → Nat → Int32) (dK1' : Nat → Int32) (aK1' : Nat → Nat → Int32) (dK2' : Nat → Int32) (aK2' : Nat → Nat → Int32), Rg 0 3 bJ0' ∧ Rg 0 7 cJ0' ∧ Rg 0 5 wJ0' ∧ RgA 0 99 eJ0' ∧ Rg 0 3 bJ1' ∧ Rg 0 7 cJ1' ∧ Rg 0 5 wJ1' ∧ RgA 0 99 eJ1' ∧ Rg 0 3 bJ2' ∧ Rg 0 7 cJ2' ∧ Rg 0 5 wJ2' ∧ RgA 0 99 eJ2' ∧ Rg 0 30 dK0' ∧ Rg 0 30 dK1' ∧ Rg 0 30 dK2' ∧ va_P (dC, dI) vwCl (List.flatten [(wImage qI0 k (qJ0 0) (qK0 0) vI0'), (wImage qI1 k (qJ1 0) (qK1 0) vI1'), (wImage qI2 k (qJ2 0) (qK2 0) vI2'), (wValley qJ0 k vJ0' bJ0' cJ0' wJ0' aJ0' eJ0'), (wValley qJ1 k vJ1' bJ1' cJ1' wJ1' aJ1' eJ1'), (wValley qJ2 k vJ2' bJ2' cJ2' wJ2' aJ2' eJ2'), (wActs qK0 k dK0' aK0'), (wActs qK1 k dK1' aK1'), (wActs qK2 k dK2' aK2')] ++ List.flatten [(wSag qX k tapeX (qV 0) (qA 0) nowX trialX storyX attemptX orderSearchX routeSearchX setSearchX probeX slot0X slot1X slot2X slot3X (qI0 0) (qI1 0) (qI2 0) aX), (wValley qV k vV bV cV wV aV eV), (wActs qA k dA aA)]) t.heap) (va_A (List.flatten [(wImage qI0 k (qJ0 0) (qK0 0) vI0), (wImage qI1 k (qJ1 0) (qK1 0) vI1), (wImage qI2 k (qJ2 0) (qK2 0) vI2), (wValley qJ0 k vJ0 bJ0 cJ0 wJ0 aJ0 eJ0), (wValley qJ1 k vJ1 bJ1 cJ1 wJ1 aJ1 eJ1), (wValley qJ2 k vJ2 bJ2 cJ2 wJ2 aJ2 eJ2), (wActs qK0 k dK0 aK0), (wActs qK1 k dK1 aK1), (wActs qK2 k dK2 aK2)] ++ List.flatten [(wSag qX k tapeX (qV 0) (qA 0) nowX trialX storyX attemptX orderSearchX routeSearchX setSearchX probeX slot0X slot1X slot2X slot3X (qI0 0) (qI1 0) (qI2 0) aX), (wValley qV k vV bV cV wV aV eV), (wActs qA k dA aA)]) sz)) 0 0 (va_A (List.flatten [(wImage qI0 k (qJ0 0) (qK0 0) vI0), (wImage qI1 k (qJ1 0) (qK1 0) vI1), (wImage qI2 k (qJ2 0) (qK2 0) vI2), (wValley qJ0 k vJ0 bJ0 cJ0 wJ0 aJ0 eJ0), (wValley qJ1 k vJ1 bJ1 cJ1 wJ1 aJ1 eJ1), (wValley qJ2 k vJ2 bJ2 cJ2 wJ2 aJ2 eJ2), (wActs qK0 k dK0 aK0), (wActs qK1 k dK1 aK1), (wActs qK2 k dK2 aK2)] ++ List.flatten [(wSag qX k tapeX (qV 0) (qA 0) nowX trialX storyX attemptX orderSearchX routeSearchX setSearchX probeX slot0X slot1X slot2X slot3X (qI0 0) (qI1 0) (qI2 0) aX), (wValley qV k vV bV cV wV aV eV), (wActs qA k dA aA)]) sz) := by
  refine Met.ofW (cc := cX11_image) (maxL := 3) (ret := (some .int)) (by decide) rfl ?_
  intro p e s m args below meth c s₁ B hml hv
  obtain ⟨rfl, hsz, hP, hK, hD0⟩ := hv
  have hx := B.exec
  have hb := B.bytes
  have hr := B.returns
  have hts := atoms_spec (ws := wk_c_X11_image_x) B.pre
  have hown : s.vm.findClass RX11 = some m.cls := findClass_of_methodNamed B.named
  have hlocks := B.notSynchronized
  subst hsz
  have hD := hD0.self (sz := s.heap.size)
  generalize hAe : va_A (List.flatten [(wImage qI0 k (qJ0 0) (qK0 0) vI0), (wImage qI1 k (qJ1 0) (qK1 0) vI1), (wImage qI2 k (qJ2 0) (qK2 0) vI2), (wValley qJ0 k vJ0 bJ0 cJ0 wJ0 aJ0 eJ0), (wValley qJ1 k vJ1 bJ1 cJ1 wJ1 aJ1 eJ1), (wValley qJ2 k vJ2 bJ2 cJ2 wJ2 aJ2 eJ2), (wActs qK0 k dK0 aK0), (wActs qK1 k dK1 aK1), (wActs qK2 k dK2 aK2)] ++ List.flatten [(wSag qX k tapeX (qV 0) (qA 0) nowX trialX storyX attemptX orderSearchX routeSearchX setSearchX probeX slot0X slot1X slot2X slot3X (qI0 0) (qI1 0) (qI2 0) aX), (wValley qV k vV bV cV wV aV eV), (wActs qA k dA aA)]) s.heap.size = A at hD ⊢
  have hA : ∀ q : Nat, s.heap.size ≤ q → A q := fun q h => by rw [← hAe]; exact Or.inr h
  have hS : va_S A s.heap s.heap [] := va_S.rf
  have hP : va_P (dC, dI) vwCl (List.flatten [(wImage qI0 k (qJ0 0) (qK0 0) vI0), (wImage qI1 k (qJ1 0) (qK1 0) vI1), (wImage qI2 k (qJ2 0) (qK2 0) vI2), (wValley qJ0 k vJ0 bJ0 cJ0 wJ0 aJ0 eJ0), (wValley qJ1 k vJ1 bJ1 cJ1 wJ1 aJ1 eJ1), (wValley qJ2 k vJ2 bJ2 cJ2 wJ2 aJ2 eJ2), (wActs qK0 k dK0 aK0), (wActs qK1 k dK1 aK1), (wActs qK2 k dK2 aK2)] ++ List.flatten [(wSag qX k tapeX (qV 0) (qA 0) nowX trialX storyX attemptX orderSearchX routeSearchX setSearchX probeX slot0X slot1X slot2X slot3X (qI0 0) (qI1 0) (qI2 0) aX), (wValley qV k vV bV cV wV aV eV), (wActs qA k dA aA)]) s.heap := hP
  have hl := lv_entry ([.ref (qX 0), .int p1]) (n := 3) (Nat.le_of_ble_eq_true rfl)
  rw [lg_entry_eq]
  generalize (lg_sl ([.ref (qX 0), .int p1]) ++ List.replicate (3 - (lg_sl ([.ref (qX 0), .int p1])).length) Slot.unset).toArray = ls at hl ⊢
  have hl : lv_has ls 3 [(0, .ref (qX 0)), (1, .int p1)] := hl
  refine w_gen (fun Q hQ => ?_)
  refine lv_iload_n hx hb dX11_image_0 rfl (lv_at hl 1 rfl) ?_
  refine lv_if_lt (tgt := 9) hx hb dX11_image_1 (by decide) (fun cz1 => ?_) (fun cz1 => ?_)
  · skip
    have bz2 := fb_rng p1
    have zz3 : p1.toInt < (0 : Int) := zi_lt.mp cz1
    refine lv_bipush (v := (-2)) hx hb dX11_image_9 (by decide) ?_
    rw [hQ]
    exact W.iret (v := (-2 : Int32)) hx hb hr (fun t ht hW => ⟨⟨(-2 : Int32), (), rfl, (by show (0 ≤ p1.toInt ∧ p1.toInt ≤ 2 ∧ (-2 : Int) = 0) ∨ ((p1.toInt < 0 ∨ 2 < p1.toInt) ∧ (-2 : Int) = (-2)); omega), vI0, vI1, vI2, vJ0, bJ0, cJ0, wJ0, aJ0, eJ0, vJ1, bJ1, cJ1, wJ1, aJ1, eJ1, vJ2, bJ2, cJ2, wJ2, aJ2, eJ2, dK0, aK0, dK1, aK1, dK2, aK2, hbJ0, hcJ0, hwJ0, heJ0, hbJ1, hcJ1, hwJ1, heJ1, hbJ2, hcJ2, hwJ2, heJ2, hdK0, hdK1, hdK2, by rw [ht]; exact hP⟩, hS.F ht⟩) hS.2.2 dX11_image_11
  · skip
    have bz4 := fb_rng p1
    have zz5 : ¬ p1.toInt < (0 : Int) := fun h9 => cz1 (zi_lt.mpr h9)
    refine lv_iload_n hx hb dX11_image_4 rfl (lv_at hl 1 rfl) ?_
    refine lv_iconst (v := 3) hx hb dX11_image_5 (by decide) ?_
    refine lv_icmp_lt (tgt := 12) hx hb dX11_image_6 (by decide) (fun cz6 => ?_) (fun cz6 => ?_)
    · skip
      have zz7 : p1.toInt < (3 : Int) := zi_lt.mp cz6
      refine lv_aload_n hx hb dX11_image_12 rfl (lv_at hl 0 rfl) ?_
      refine va_get (D := (dC, dI)) (ci := 11) (v := .ref (qX 4)) (C := RX11) (T := TX11) (N := 15) hx hb hts (fun w h => List.mem_cons_of_mem _ (List.mem_append_right _ (List.mem_append_left _ h))) hown hK hP 39 rfl rfl 14 (by decide) (hts (.fieldLink RX11 91 "SagMemory" "images" "[LSagMemory$Image;") (wl_mem 0 rfl)) (fun _ h9 => h9) rfl dX11_image_13 ?_
      refine lv_iload_n hx hb dX11_image_16 rfl (lv_at hl 1 rfl) ?_
      rcases (show p1 = 0 ∨ p1 = 1 ∨ p1 = 2 by simp only [zi_eq]; show p1.toInt = 0 ∨ p1.toInt = 1 ∨ p1.toInt = 2; omega) with cz8 | cz8 | cz8
      · skip
        have zz9 : p1.toInt = (0 : Int) := zi_eq.mp cz8
        refine W.eq (g2 := F0 m 17 ls [.int 0, .ref (qX 4)]) (by rw [cz8]) ?_
        refine va_aldq hx hb hK hP 43 7 rfl rfl (by unfold vp_in; decide) dX11_image_17 ?_
        refine W.eq (g2 := F0 m 18 ls [.ref (qI0 0)]) rfl ?_
        refine lv_astore_n (lv' := [(2, .ref (qI0 0)), (0, .ref (qX 0)), (1, .int p1)]) hx hb dX11_image_18 rfl hl (by decide) rfl (fun ls hl => ?_)
        refine lv_aload_n hx hb dX11_image_19 rfl (lv_at hl 0 rfl) ?_
        refine va_get (D := (dC, dI)) (ci := 1) (v := .ref (qJ0 0)) (C := RX1) (T := TX1) (N := 3) hx hb hts (fun w h => List.mem_cons_of_mem _ (List.mem_append_right _ (List.mem_append_right _ (List.mem_append_left _ h)))) hown hK hP 0 rfl rfl 0 (by decide) (hts (.fieldLink RX11 369 "SagMemory$Image" "valley" "LSagMemory$Valley;") (wl_mem 1 rfl)) (fun _ h9 => h9) rfl dX11_image_20 ?_
        refine lv_aload_n hx hb dX11_image_23 rfl (lv_at hl 1 rfl) ?_
        refine va_get (D := (dC, dI)) (ci := 11) (v := .ref (qV 0)) (C := RX11) (T := TX11) (N := 15) hx hb hts (fun w h => List.mem_cons_of_mem _ (List.mem_append_right _ (List.mem_append_left _ h))) hown hK hP 39 rfl rfl 1 (by decide) (hts (.fieldLink RX11 19 "SagMemory" "told" "LSagMemory$Valley;") (wl_mem 2 rfl)) (fun _ h9 => h9) rfl dX11_image_24 ?_
        have hPc := hP.sub (ws' := (List.flatten [(wValley qJ0 k vJ0 bJ0 cJ0 wJ0 aJ0 eJ0)] ++ List.flatten [(wValley qV k vV bV cV wV aV eV)])) [3, 4, 5, 6, 7, 8, 9, 10, 44, 45, 46, 47, 48, 49, 50, 51] rfl
        have hC : [3, 4, 5, 6, 7, 8, 9, 10, 44, 45, 46, 47, 48, 49, 50, 51].map (fun i => (List.flatten [(wImage qI0 k (qJ0 0) (qK0 0) vI0), (wImage qI1 k (qJ1 0) (qK1 0) vI1), (wImage qI2 k (qJ2 0) (qK2 0) vI2), (wValley qJ0 k vJ0 bJ0 cJ0 wJ0 aJ0 eJ0), (wValley qJ1 k vJ1 bJ1 cJ1 wJ1 aJ1 eJ1), (wValley qJ2 k vJ2 bJ2 cJ2 wJ2 aJ2 eJ2), (wActs qK0 k dK0 aK0), (wActs qK1 k dK1 aK1), (wActs qK2 k dK2 aK2)] ++ List.flatten [(wSag qX k tapeX (qV 0) (qA 0) nowX trialX storyX attemptX orderSearchX routeSearchX setSearchX probeX slot0X slot1X slot2X slot3X (qI0 0) (qI1 0) (qI2 0) aX), (wValley qV k vV bV cV wV aV eV), (wActs qA k dA aA)])[i]?) = (List.flatten [(wValley qJ0 k vJ0 bJ0 cJ0 wJ0 aJ0 eJ0)] ++ List.flatten [(wValley qV k vV bV cV wV aV eV)]).map some := rfl
        have hDc := hD.sub [3, 4, 5, 6, 7, 8, 9, 10, 44, 45, 46, 47, 48, 49, 50, 51] (by decide) hC
        have hFc := va_free hD hS hA [3, 4, 5, 6, 7, 8, 9, 10, 44, 45, 46, 47, 48, 49, 50, 51] hC
        refine va_callv (va_runV (As := [.ref (qV 0)]) (rest := []) ⟨hx, hb, hml, hown, hts⟩ (c_X10_take l dC dI k s.heap.size qJ0 vJ0 bJ0 cJ0 wJ0 aJ0 eJ0 qV vV bV cV wV aV eV hbJ0 hcJ0 hwJ0 heJ0 hbV hcV hwV heV) (cwV 1 hts (gk_V (wl_mem 3 rfl) (wl_mem 4 rfl) (wl_mem 5 rfl) (wl_mem 6 rfl) (fun w h => List.mem_cons_of_mem _ (List.mem_append_right _ (List.mem_append_right _ (List.mem_append_right _ (List.mem_append_left _ h))))) wkg_c_X10_take) rfl rfl rfl (by decide +kernel) ⟨Nat.le_of_ble_eq_true rfl, Nat.le_of_ble_eq_true rfl⟩) ⟨fun a U g mk q => by obtain ⟨q0, q1, qP, qK, qD⟩ := q; exact ⟨q0, q1, qP, va_K.moved (u := U) (U := U.calling g mk a) (Vm.Alike.refl U.vm) qK, qD⟩, va_recv hK hPc (ci := 10) (q0 := 0) rfl rfl, fun U hU hW => ⟨rfl, by rw [hU], by rw [hU]; exact hPc, va_K.moved hW.alike hK, hDc.weaken (fun _ _ _ _ => trivial)⟩⟩ rfl rfl hl.1 rfl (lv_room (Nat.le_of_ble_eq_true rfl)) dX11_image_27 ⟨Nat.le_of_ble_eq_true rfl, Nat.le_of_ble_eq_true rfl⟩) hS (fun q _ h => hFc q h) hFc (fun u t H1 locs ht hvm gz10 hB hz1 hk1 hS => ?_)
        obtain ⟨vz12, bz13, cz14, wz15, az16, ez17, hbz13, hcz14, hwz15, hez17, hP1⟩ := hB
        rw [ht] at hP1
        obtain ⟨hP, hD⟩ := w_callR hP hD hk1 hP1 [3] rfl rfl (wk_memC [10] rfl) rfl [none, none, none, some 0, none, none, none, none, none] rfl rfl
        clear hPc hC hDc hFc hk1 hP1
        generalize H1 = H at hP hS ⊢
        have hP : va_P (dC, dI) vwCl (List.flatten [(wImage qI0 k (qJ0 0) (qK0 0) vI0), (wImage qI1 k (qJ1 0) (qK1 0) vI1), (wImage qI2 k (qJ2 0) (qK2 0) vI2), (wValley qJ0 k vz12 bz13 cz14 wz15 az16 ez17), (wValley qJ1 k vJ1 bJ1 cJ1 wJ1 aJ1 eJ1), (wValley qJ2 k vJ2 bJ2 cJ2 wJ2 aJ2 eJ2), (wActs qK0 k dK0 aK0), (wActs qK1 k dK1 aK1), (wActs qK2 k dK2 aK2)] ++ List.flatten [(wSag qX k tapeX (qV 0) (qA 0) nowX trialX storyX attemptX orderSearchX routeSearchX setSearchX probeX slot0X slot1X slot2X slot3X (qI0 0) (qI1 0) (qI2 0) aX), (wValley qV k vV bV cV wV aV eV), (wActs qA k dA aA)]) H := hP
        have hD : va_D A (List.flatten [(wImage qI0 k (qJ0 0) (qK0 0) vI0), (wImage qI1 k (qJ1 0) (qK1 0) vI1), (wImage qI2 k (qJ2 0) (qK2 0) vI2), (wValley qJ0 k vz12 bz13 cz14 wz15 az16 ez17), (wValley qJ1 k vJ1 bJ1 cJ1 wJ1 aJ1 eJ1), (wValley qJ2 k vJ2 bJ2 cJ2 wJ2 aJ2 eJ2), (wActs qK0 k dK0 aK0), (wActs qK1 k dK1 aK1), (wActs qK2 k dK2 aK2)] ++ List.flatten [(wSag qX k tapeX (qV 0) (qA 0) nowX trialX storyX attemptX orderSearchX routeSearchX setSearchX probeX slot0X slot1X slot2X slot3X (qI0 0) (qI1 0) (qI2 0) aX), (wValley qV k vV bV cV wV aV eV), (wActs qA k dA aA)]) := hD
        refine W.widen (k := 0) (n := 0) (Nat.le_refl 0) (Nat.le_refl 0) ?_
        refine lv_aload_n hx hb dX11_image_30 rfl (lv_at hl 0 rfl) ?_
        refine va_get (D := (dC, dI)) (ci := 1) (v := .ref (qK0 0)) (C := RX1) (T := TX1) (N := 3) hx hb hts (fun w h => List.mem_cons_of_mem _ (List.mem_append_right _ (List.mem_append_right _ (List.mem_append_left _ h)))) hown hK hP 0 rfl rfl 1 (by decide) (hts (.fieldLink RX11 372 "SagMemory$Image" "acts" "LSagMemory$Acts;") (wl_mem 7 rfl)) (fun _ h9 => h9) rfl dX11_image_31 ?_
        refine lv_aload_n hx hb dX11_image_34 rfl (lv_at hl 1 rfl) ?_
        refine va_get (D := (dC, dI)) (ci := 11) (v := .ref (qA 0)) (C := RX11) (T := TX11) (N := 15) hx hb hts (fun w h => List.mem_cons_of_mem _ (List.mem_append_right _ (List.mem_append_left _ h))) hown hK hP 39 rfl rfl 2 (by decide) (hts (.fieldLink RX11 26 "SagMemory" "acts" "LSagMemory$Acts;") (wl_mem 8 rfl)) (fun _ h9 => h9) rfl dX11_image_35 ?_
        have hPc := hP.sub (ws' := (List.flatten [(wActs qK0 k dK0 aK0)] ++ List.flatten [(wActs qA k dA aA)])) [27, 28, 29, 30, 52, 53, 54, 55] rfl
        have hC : [27, 28, 29, 30, 52, 53, 54, 55].map (fun i => (List.flatten [(wImage qI0 k (qJ0 0) (qK0 0) vI0), (wImage qI1 k (qJ1 0) (qK1 0) vI1), (wImage qI2 k (qJ2 0) (qK2 0) vI2), (wValley qJ0 k vz12 bz13 cz14 wz15 az16 ez17), (wValley qJ1 k vJ1 bJ1 cJ1 wJ1 aJ1 eJ1), (wValley qJ2 k vJ2 bJ2 cJ2 wJ2 aJ2 eJ2), (wActs qK0 k dK0 aK0), (wActs qK1 k dK1 aK1), (wActs qK2 k dK2 aK2)] ++ List.flatten [(wSag qX k tapeX (qV 0) (qA 0) nowX trialX storyX attemptX orderSearchX routeSearchX setSearchX probeX slot0X slot1X slot2X slot3X (qI0 0) (qI1 0) (qI2 0) aX), (wValley qV k vV bV cV wV aV eV), (wActs qA k dA aA)])[i]?) = (List.flatten [(wActs qK0 k dK0 aK0)] ++ List.flatten [(wActs qA k dA aA)]).map some := rfl
        have hDc := hD.sub [27, 28, 29, 30, 52, 53, 54, 55] (by decide) hC
        have hFc := va_free hD hS hA [27, 28, 29, 30, 52, 53, 54, 55] hC
        refine va_callv (va_runV (As := [.ref (qA 0)]) (rest := []) ⟨hx, hb, hml, hown, hts⟩ (c_X0_take l dC dI k H.size qK0 dK0 aK0 qA dA aA hdK0 hdA) (cwV 1 hts (gk_V (wl_mem 9 rfl) (wl_mem 10 rfl) (wl_mem 11 rfl) (wl_mem 12 rfl) (fun w h => List.mem_cons_of_mem _ (List.mem_append_right _ (List.mem_append_right _ (List.mem_append_right _ (List.mem_append_right _ (List.mem_append_left _ h)))))) wkg_c_X0_take) rfl rfl rfl (by decide +kernel) ⟨Nat.le_of_ble_eq_true rfl, Nat.le_of_ble_eq_true rfl⟩) ⟨fun a U g mk q => by obtain ⟨q0, q1, qP, qK, qD⟩ := q; exact ⟨q0, q1, qP, va_K.moved (u := U) (U := U.calling g mk a) (Vm.Alike.refl U.vm) qK, qD⟩, va_recv hK hPc (ci := 0) (q0 := 0) rfl rfl, fun U hU hW => ⟨rfl, by rw [hU], by rw [hU]; exact hPc, va_K.moved hW.alike hK, hDc.weaken (fun _ _ _ _ => trivial)⟩⟩ rfl rfl hl.1 rfl (lv_room (Nat.le_of_ble_eq_true rfl)) dX11_image_38 ⟨Nat.le_of_ble_eq_true rfl, Nat.le_of_ble_eq_true rfl⟩) hS (fun q _ h => hFc q h) hFc (fun u t H1 locs ht hvm gz18 hB hz1 hk1 hS => ?_)
        obtain ⟨dz20, az21, hdz20, hP1⟩ := hB
        rw [ht] at hP1
        obtain ⟨hP, hD⟩ := w_callR hP hD hk1 hP1 [6] rfl rfl (wk_memC [11] rfl) rfl [none, none, none, none, none, none, some 0, none, none] rfl rfl
        clear hPc hC hDc hFc hk1 hP1
        generalize H1 = H at hP hS ⊢
        have hP : va_P (dC, dI) vwCl (List.flatten [(wImage qI0 k (qJ0 0) (qK0 0) vI0), (wImage qI1 k (qJ1 0) (qK1 0) vI1), (wImage qI2 k (qJ2 0) (qK2 0) vI2), (wValley qJ0 k vz12 bz13 cz14 wz15 az16 ez17), (wValley qJ1 k vJ1 bJ1 cJ1 wJ1 aJ1 eJ1), (wValley qJ2 k vJ2 bJ2 cJ2 wJ2 aJ2 eJ2), (wActs qK0 k dz20 az21), (wActs qK1 k dK1 aK1), (wActs qK2 k dK2 aK2)] ++ List.flatten [(wSag qX k tapeX (qV 0) (qA 0) nowX trialX storyX attemptX orderSearchX routeSearchX setSearchX probeX slot0X slot1X slot2X slot3X (qI0 0) (qI1 0) (qI2 0) aX), (wValley qV k vV bV cV wV aV eV), (wActs qA k dA aA)]) H := hP
        have hD : va_D A (List.flatten [(wImage qI0 k (qJ0 0) (qK0 0) vI0), (wImage qI1 k (qJ1 0) (qK1 0) vI1), (wImage qI2 k (qJ2 0) (qK2 0) vI2), (wValley qJ0 k vz12 bz13 cz14 wz15 az16 ez17), (wValley qJ1 k vJ1 bJ1 cJ1 wJ1 aJ1 eJ1), (wValley qJ2 k vJ2 bJ2 cJ2 wJ2 aJ2 eJ2), (wActs qK0 k dz20 az21), (wActs qK1 k dK1 aK1), (wActs qK2 k dK2 aK2)] ++ List.flatten [(wSag qX k tapeX (qV 0) (qA 0) nowX trialX storyX attemptX orderSearchX routeSearchX setSearchX probeX slot0X slot1X slot2X slot3X (qI0 0) (qI1 0) (qI2 0) aX), (wValley qV k vV bV cV wV aV eV), (wActs qA k dA aA)]) := hD
        refine W.widen (k := 0) (n := 0) (Nat.le_refl 0) (Nat.le_refl 0) ?_
        refine lv_aload_n hx hb dX11_image_41 rfl (lv_at hl 0 rfl) ?_
        refine lv_iconst (v := 1) hx hb dX11_image_42 (by decide) ?_
        refine va_put (D := (dC, dI)) (ci := 1) (v := .int 1) (ty := .boolean) (C := RX1) (T := TX1) (N := 3) hx hb hts (fun w h => List.mem_cons_of_mem _ (List.mem_append_right _ (List.mem_append_right _ (List.mem_append_left _ h)))) tyX1 tyX1_ok nmX1 hown hK hP hD hS 0 rfl rfl 2 (by decide) (hts (.fieldLink RX11 376 "SagMemory$Image" "has" "Z") (wl_mem 13 rfl)) (fun _ h9 => h9) rfl (by decide +kernel) rfl rfl (Nat.le_of_ble_eq_true rfl) dX11_image_43 (fun H locs hP hD hS => ?_)
        have hP : va_P (dC, dI) vwCl (List.flatten [(wImage qI0 k (qJ0 0) (qK0 0) (va_up vI0 0 (1 : Int32))), (wImage qI1 k (qJ1 0) (qK1 0) vI1), (wImage qI2 k (qJ2 0) (qK2 0) vI2), (wValley qJ0 k vz12 bz13 cz14 wz15 az16 ez17), (wValley qJ1 k vJ1 bJ1 cJ1 wJ1 aJ1 eJ1), (wValley qJ2 k vJ2 bJ2 cJ2 wJ2 aJ2 eJ2), (wActs qK0 k dz20 az21), (wActs qK1 k dK1 aK1), (wActs qK2 k dK2 aK2)] ++ List.flatten [(wSag qX k tapeX (qV 0) (qA 0) nowX trialX storyX attemptX orderSearchX routeSearchX setSearchX probeX slot0X slot1X slot2X slot3X (qI0 0) (qI1 0) (qI2 0) aX), (wValley qV k vV bV cV wV aV eV), (wActs qA k dA aA)]) H := hP
        have hD : va_D A (List.flatten [(wImage qI0 k (qJ0 0) (qK0 0) (va_up vI0 0 (1 : Int32))), (wImage qI1 k (qJ1 0) (qK1 0) vI1), (wImage qI2 k (qJ2 0) (qK2 0) vI2), (wValley qJ0 k vz12 bz13 cz14 wz15 az16 ez17), (wValley qJ1 k vJ1 bJ1 cJ1 wJ1 aJ1 eJ1), (wValley qJ2 k vJ2 bJ2 cJ2 wJ2 aJ2 eJ2), (wActs qK0 k dz20 az21), (wActs qK1 k dK1 aK1), (wActs qK2 k dK2 aK2)] ++ List.flatten [(wSag qX k tapeX (qV 0) (qA 0) nowX trialX storyX attemptX orderSearchX routeSearchX setSearchX probeX slot0X slot1X slot2X slot3X (qI0 0) (qI1 0) (qI2 0) aX), (wValley qV k vV bV cV wV aV eV), (wActs qA k dA aA)]) := hD
        refine lv_iconst (v := 0) hx hb dX11_image_46 (by decide) ?_
        rw [hQ]
        exact W.iret (v := (0 : Int32)) hx hb hr (fun t ht hW => ⟨⟨(0 : Int32), (), rfl, (by show (0 ≤ p1.toInt ∧ p1.toInt ≤ 2 ∧ (0 : Int) = 0) ∨ ((p1.toInt < 0 ∨ 2 < p1.toInt) ∧ (0 : Int) = (-2)); omega), (va_up vI0 0 (1 : Int32)), vI1, vI2, vz12, bz13, cz14, wz15, az16, ez17, vJ1, bJ1, cJ1, wJ1, aJ1, eJ1, vJ2, bJ2, cJ2, wJ2, aJ2, eJ2, dz20, az21, dK1, aK1, dK2, aK2, hbz13, hcz14, hwz15, hez17, hbJ1, hcJ1, hwJ1, heJ1, hbJ2, hcJ2, hwJ2, heJ2, hdz20, hdK1, hdK2, by rw [ht]; exact hP⟩, hS.F ht⟩) hS.2.2 dX11_image_47
      · skip
        have zz22 : p1.toInt = (1 : Int) := zi_eq.mp cz8
        refine W.eq (g2 := F0 m 17 ls [.int 1, .ref (qX 4)]) (by rw [cz8]) ?_
        refine va_aldq hx hb hK hP 43 7 rfl rfl (by unfold vp_in; decide) dX11_image_17 ?_
        refine W.eq (g2 := F0 m 18 ls [.ref (qI1 0)]) rfl ?_
        refine lv_astore_n (lv' := [(2, .ref (qI1 0)), (0, .ref (qX 0)), (1, .int p1)]) hx hb dX11_image_18 rfl hl (by decide) rfl (fun ls hl => ?_)
        refine lv_aload_n hx hb dX11_image_19 rfl (lv_at hl 0 rfl) ?_
        refine va_get (D := (dC, dI)) (ci := 1) (v := .ref (qJ1 0)) (C := RX1) (T := TX1) (N := 3) hx hb hts (fun w h => List.mem_cons_of_mem _ (List.mem_append_right _ (List.mem_append_right _ (List.mem_append_left _ h)))) hown hK hP 1 rfl rfl 0 (by decide) (hts (.fieldLink RX11 369 "SagMemory$Image" "valley" "LSagMemory$Valley;") (wl_mem 1 rfl)) (fun _ h9 => h9) rfl dX11_image_20 ?_
        refine lv_aload_n hx hb dX11_image_23 rfl (lv_at hl 1 rfl) ?_
        refine va_get (D := (dC, dI)) (ci := 11) (v := .ref (qV 0)) (C := RX11) (T := TX11) (N := 15) hx hb hts (fun w h => List.mem_cons_of_mem _ (List.mem_append_right _ (List.mem_append_left _ h))) hown hK hP 39 rfl rfl 1 (by decide) (hts (.fieldLink RX11 19 "SagMemory" "told" "LSagMemory$Valley;") (wl_mem 2 rfl)) (fun _ h9 => h9) rfl dX11_image_24 ?_
        have hPc := hP.sub (ws' := (List.flatten [(wValley qJ1 k vJ1 bJ1 cJ1 wJ1 aJ1 eJ1)] ++ List.flatten [(wValley qV k vV bV cV wV aV eV)])) [11, 12, 13, 14, 15, 16, 17, 18, 44, 45, 46, 47, 48, 49, 50, 51] rfl
        have hC : [11, 12, 13, 14, 15, 16, 17, 18, 44, 45, 46, 47, 48, 49, 50, 51].map (fun i => (List.flatten [(wImage qI0 k (qJ0 0) (qK0 0) vI0), (wImage qI1 k (qJ1 0) (qK1 0) vI1), (wImage qI2 k (qJ2 0) (qK2 0) vI2), (wValley qJ0 k vJ0 bJ0 cJ0 wJ0 aJ0 eJ0), (wValley qJ1 k vJ1 bJ1 cJ1 wJ1 aJ1 eJ1), (wValley qJ2 k vJ2 bJ2 cJ2 wJ2 aJ2 eJ2), (wActs qK0 k dK0 aK0), (wActs qK1 k dK1 aK1), (wActs qK2 k dK2 aK2)] ++ List.flatten [(wSag qX k tapeX (qV 0) (qA 0) nowX trialX storyX attemptX orderSearchX routeSearchX setSearchX probeX slot0X slot1X slot2X slot3X (qI0 0) (qI1 0) (qI2 0) aX), (wValley qV k vV bV cV wV aV eV), (wActs qA k dA aA)])[i]?) = (List.flatten [(wValley qJ1 k vJ1 bJ1 cJ1 wJ1 aJ1 eJ1)] ++ List.flatten [(wValley qV k vV bV cV wV aV eV)]).map some := rfl
        have hDc := hD.sub [11, 12, 13, 14, 15, 16, 17, 18, 44, 45, 46, 47, 48, 49, 50, 51] (by decide) hC
        have hFc := va_free hD hS hA [11, 12, 13, 14, 15, 16, 17, 18, 44, 45, 46, 47, 48, 49, 50, 51] hC
        refine va_callv (va_runV (As := [.ref (qV 0)]) (rest := []) ⟨hx, hb, hml, hown, hts⟩ (c_X10_take l dC dI k s.heap.size qJ1 vJ1 bJ1 cJ1 wJ1 aJ1 eJ1 qV vV bV cV wV aV eV hbJ1 hcJ1 hwJ1 heJ1 hbV hcV hwV heV) (cwV 1 hts (gk_V (wl_mem 3 rfl) (wl_mem 4 rfl) (wl_mem 5 rfl) (wl_mem 6 rfl) (fun w h => List.mem_cons_of_mem _ (List.mem_append_right _ (List.mem_append_right _ (List.mem_append_right _ (List.mem_append_left _ h))))) wkg_c_X10_take) rfl rfl rfl (by decide +kernel) ⟨Nat.le_of_ble_eq_true rfl, Nat.le_of_ble_eq_true rfl⟩) ⟨fun a U g mk q => by obtain ⟨q0, q1, qP, qK, qD⟩ := q; exact ⟨q0, q1, qP, va_K.moved (u := U) (U := U.calling g mk a) (Vm.Alike.refl U.vm) qK, qD⟩, va_recv hK hPc (ci := 10) (q0 := 0) rfl rfl, fun U hU hW => ⟨rfl, by rw [hU], by rw [hU]; exact hPc, va_K.moved hW.alike hK, hDc.weaken (fun _ _ _ _ => trivial)⟩⟩ rfl rfl hl.1 rfl (lv_room (Nat.le_of_ble_eq_true rfl)) dX11_image_27 ⟨Nat.le_of_ble_eq_true rfl, Nat.le_of_ble_eq_true rfl⟩) hS (fun q _ h => hFc q h) hFc (fun u t H1 locs ht hvm gz23 hB hz1 hk1 hS => ?_)
        obtain ⟨vz25, bz26, cz27, wz28, az29, ez30, hbz26, hcz27, hwz28, hez30, hP1⟩ := hB
        rw [ht] at hP1
        obtain ⟨hP, hD⟩ := w_callR hP hD hk1 hP1 [4] rfl rfl (wk_memC [10] rfl) rfl [none, none, none, none, some 0, none, none, none, none] rfl rfl
        clear hPc hC hDc hFc hk1 hP1
        generalize H1 = H at hP hS ⊢
        have hP : va_P (dC, dI) vwCl (List.flatten [(wImage qI0 k (qJ0 0) (qK0 0) vI0), (wImage qI1 k (qJ1 0) (qK1 0) vI1), (wImage qI2 k (qJ2 0) (qK2 0) vI2), (wValley qJ0 k vJ0 bJ0 cJ0 wJ0 aJ0 eJ0), (wValley qJ1 k vz25 bz26 cz27 wz28 az29 ez30), (wValley qJ2 k vJ2 bJ2 cJ2 wJ2 aJ2 eJ2), (wActs qK0 k dK0 aK0), (wActs qK1 k dK1 aK1), (wActs qK2 k dK2 aK2)] ++ List.flatten [(wSag qX k tapeX (qV 0) (qA 0) nowX trialX storyX attemptX orderSearchX routeSearchX setSearchX probeX slot0X slot1X slot2X slot3X (qI0 0) (qI1 0) (qI2 0) aX), (wValley qV k vV bV cV wV aV eV), (wActs qA k dA aA)]) H := hP
        have hD : va_D A (List.flatten [(wImage qI0 k (qJ0 0) (qK0 0) vI0), (wImage qI1 k (qJ1 0) (qK1 0) vI1), (wImage qI2 k (qJ2 0) (qK2 0) vI2), (wValley qJ0 k vJ0 bJ0 cJ0 wJ0 aJ0 eJ0), (wValley qJ1 k vz25 bz26 cz27 wz28 az29 ez30), (wValley qJ2 k vJ2 bJ2 cJ2 wJ2 aJ2 eJ2), (wActs qK0 k dK0 aK0), (wActs qK1 k dK1 aK1), (wActs qK2 k dK2 aK2)] ++ List.flatten [(wSag qX k tapeX (qV 0) (qA 0) nowX trialX storyX attemptX orderSearchX routeSearchX setSearchX probeX slot0X slot1X slot2X slot3X (qI0 0) (qI1 0) (qI2 0) aX), (wValley qV k vV bV cV wV aV eV), (wActs qA k dA aA)]) := hD
        refine W.widen (k := 0) (n := 0) (Nat.le_refl 0) (Nat.le_refl 0) ?_
        refine lv_aload_n hx hb dX11_image_30 rfl (lv_at hl 0 rfl) ?_
        refine va_get (D := (dC, dI)) (ci := 1) (v := .ref (qK1 0)) (C := RX1) (T := TX1) (N := 3) hx hb hts (fun w h => List.mem_cons_of_mem _ (List.mem_append_right _ (List.mem_append_right _ (List.mem_append_left _ h)))) hown hK hP 1 rfl rfl 1 (by decide) (hts (.fieldLink RX11 372 "SagMemory$Image" "acts" "LSagMemory$Acts;") (wl_mem 7 rfl)) (fun _ h9 => h9) rfl dX11_image_31 ?_
        refine lv_aload_n hx hb dX11_image_34 rfl (lv_at hl 1 rfl) ?_
        refine va_get (D := (dC, dI)) (ci := 11) (v := .ref (qA 0)) (C := RX11) (T := TX11) (N := 15) hx hb hts (fun w h => List.mem_cons_of_mem _ (List.mem_append_right _ (List.mem_append_left _ h))) hown hK hP 39 rfl rfl 2 (by decide) (hts (.fieldLink RX11 26 "SagMemory" "acts" "LSagMemory$Acts;") (wl_mem 8 rfl)) (fun _ h9 => h9) rfl dX11_image_35 ?_
        have hPc := hP.sub (ws' := (List.flatten [(wActs qK1 k dK1 aK1)] ++ List.flatten [(wActs qA k dA aA)])) [31, 32, 33, 34, 52, 53, 54, 55] rfl
        have hC : [31, 32, 33, 34, 52, 53, 54, 55].map (fun i => (List.flatten [(wImage qI0 k (qJ0 0) (qK0 0) vI0), (wImage qI1 k (qJ1 0) (qK1 0) vI1), (wImage qI2 k (qJ2 0) (qK2 0) vI2), (wValley qJ0 k vJ0 bJ0 cJ0 wJ0 aJ0 eJ0), (wValley qJ1 k vz25 bz26 cz27 wz28 az29 ez30), (wValley qJ2 k vJ2 bJ2 cJ2 wJ2 aJ2 eJ2), (wActs qK0 k dK0 aK0), (wActs qK1 k dK1 aK1), (wActs qK2 k dK2 aK2)] ++ List.flatten [(wSag qX k tapeX (qV 0) (qA 0) nowX trialX storyX attemptX orderSearchX routeSearchX setSearchX probeX slot0X slot1X slot2X slot3X (qI0 0) (qI1 0) (qI2 0) aX), (wValley qV k vV bV cV wV aV eV), (wActs qA k dA aA)])[i]?) = (List.flatten [(wActs qK1 k dK1 aK1)] ++ List.flatten [(wActs qA k dA aA)]).map some := rfl
        have hDc := hD.sub [31, 32, 33, 34, 52, 53, 54, 55] (by decide) hC
        have hFc := va_free hD hS hA [31, 32, 33, 34, 52, 53, 54, 55] hC
        refine va_callv (va_runV (As := [.ref (qA 0)]) (rest := []) ⟨hx, hb, hml, hown, hts⟩ (c_X0_take l dC dI k H.size qK1 dK1 aK1 qA dA aA hdK1 hdA) (cwV 1 hts (gk_V (wl_mem 9 rfl) (wl_mem 10 rfl) (wl_mem 11 rfl) (wl_mem 12 rfl) (fun w h => List.mem_cons_of_mem _ (List.mem_append_right _ (List.mem_append_right _ (List.mem_append_right _ (List.mem_append_right _ (List.mem_append_left _ h)))))) wkg_c_X0_take) rfl rfl rfl (by decide +kernel) ⟨Nat.le_of_ble_eq_true rfl, Nat.le_of_ble_eq_true rfl⟩) ⟨fun a U g mk q => by obtain ⟨q0, q1, qP, qK, qD⟩ := q; exact ⟨q0, q1, qP, va_K.moved (u := U) (U := U.calling g mk a) (Vm.Alike.refl U.vm) qK, qD⟩, va_recv hK hPc (ci := 0) (q0 := 0) rfl rfl, fun U hU hW => ⟨rfl, by rw [hU], by rw [hU]; exact hPc, va_K.moved hW.alike hK, hDc.weaken (fun _ _ _ _ => trivial)⟩⟩ rfl rfl hl.1 rfl (lv_room (Nat.le_of_ble_eq_true rfl)) dX11_image_38 ⟨Nat.le_of_ble_eq_true rfl, Nat.le_of_ble_eq_true rfl⟩) hS (fun q _ h => hFc q h) hFc (fun u t H1 locs ht hvm gz31 hB hz1 hk1 hS => ?_)
        obtain ⟨dz33, az34, hdz33, hP1⟩ := hB
        rw [ht] at hP1
        obtain ⟨hP, hD⟩ := w_callR hP hD hk1 hP1 [7] rfl rfl (wk_memC [11] rfl) rfl [none, none, none, none, none, none, none, some 0, none] rfl rfl
        clear hPc hC hDc hFc hk1 hP1
        generalize H1 = H at hP hS ⊢
        have hP : va_P (dC, dI) vwCl (List.flatten [(wImage qI0 k (qJ0 0) (qK0 0) vI0), (wImage qI1 k (qJ1 0) (qK1 0) vI1), (wImage qI2 k (qJ2 0) (qK2 0) vI2), (wValley qJ0 k vJ0 bJ0 cJ0 wJ0 aJ0 eJ0), (wValley qJ1 k vz25 bz26 cz27 wz28 az29 ez30), (wValley qJ2 k vJ2 bJ2 cJ2 wJ2 aJ2 eJ2), (wActs qK0 k dK0 aK0), (wActs qK1 k dz33 az34), (wActs qK2 k dK2 aK2)] ++ List.flatten [(wSag qX k tapeX (qV 0) (qA 0) nowX trialX storyX attemptX orderSearchX routeSearchX setSearchX probeX slot0X slot1X slot2X slot3X (qI0 0) (qI1 0) (qI2 0) aX), (wValley qV k vV bV cV wV aV eV), (wActs qA k dA aA)]) H := hP
        have hD : va_D A (List.flatten [(wImage qI0 k (qJ0 0) (qK0 0) vI0), (wImage qI1 k (qJ1 0) (qK1 0) vI1), (wImage qI2 k (qJ2 0) (qK2 0) vI2), (wValley qJ0 k vJ0 bJ0 cJ0 wJ0 aJ0 eJ0), (wValley qJ1 k vz25 bz26 cz27 wz28 az29 ez30), (wValley qJ2 k vJ2 bJ2 cJ2 wJ2 aJ2 eJ2), (wActs qK0 k dK0 aK0), (wActs qK1 k dz33 az34), (wActs qK2 k dK2 aK2)] ++ List.flatten [(wSag qX k tapeX (qV 0) (qA 0) nowX trialX storyX attemptX orderSearchX routeSearchX setSearchX probeX slot0X slot1X slot2X slot3X (qI0 0) (qI1 0) (qI2 0) aX), (wValley qV k vV bV cV wV aV eV), (wActs qA k dA aA)]) := hD
        refine W.widen (k := 0) (n := 0) (Nat.le_refl 0) (Nat.le_refl 0) ?_
        refine lv_aload_n hx hb dX11_image_41 rfl (lv_at hl 0 rfl) ?_
        refine lv_iconst (v := 1) hx hb dX11_image_42 (by decide) ?_
        refine va_put (D := (dC, dI)) (ci := 1) (v := .int 1) (ty := .boolean) (C := RX1) (T := TX1) (N := 3) hx hb hts (fun w h => List.mem_cons_of_mem _ (List.mem_append_right _ (List.mem_append_right _ (List.mem_append_left _ h)))) tyX1 tyX1_ok nmX1 hown hK hP hD hS 1 rfl rfl 2 (by decide) (hts (.fieldLink RX11 376 "SagMemory$Image" "has" "Z") (wl_mem 13 rfl)) (fun _ h9 => h9) rfl (by decide +kernel) rfl rfl (Nat.le_of_ble_eq_true rfl) dX11_image_43 (fun H locs hP hD hS => ?_)
        have hP : va_P (dC, dI) vwCl (List.flatten [(wImage qI0 k (qJ0 0) (qK0 0) vI0), (wImage qI1 k (qJ1 0) (qK1 0) (va_up vI1 0 (1 : Int32))), (wImage qI2 k (qJ2 0) (qK2 0) vI2), (wValley qJ0 k vJ0 bJ0 cJ0 wJ0 aJ0 eJ0), (wValley qJ1 k vz25 bz26 cz27 wz28 az29 ez30), (wValley qJ2 k vJ2 bJ2 cJ2 wJ2 aJ2 eJ2), (wActs qK0 k dK0 aK0), (wActs qK1 k dz33 az34), (wActs qK2 k dK2 aK2)] ++ List.flatten [(wSag qX k tapeX (qV 0) (qA 0) nowX trialX storyX attemptX orderSearchX routeSearchX setSearchX probeX slot0X slot1X slot2X slot3X (qI0 0) (qI1 0) (qI2 0) aX), (wValley qV k vV bV cV wV aV eV), (wActs qA k dA aA)]) H := hP
        have hD : va_D A (List.flatten [(wImage qI0 k (qJ0 0) (qK0 0) vI0), (wImage qI1 k (qJ1 0) (qK1 0) (va_up vI1 0 (1 : Int32))), (wImage qI2 k (qJ2 0) (qK2 0) vI2), (wValley qJ0 k vJ0 bJ0 cJ0 wJ0 aJ0 eJ0), (wValley qJ1 k vz25 bz26 cz27 wz28 az29 ez30), (wValley qJ2 k vJ2 bJ2 cJ2 wJ2 aJ2 eJ2), (wActs qK0 k dK0 aK0), (wActs qK1 k dz33 az34), (wActs qK2 k dK2 aK2)] ++ List.flatten [(wSag qX k tapeX (qV 0) (qA 0) nowX trialX storyX attemptX orderSearchX routeSearchX setSearchX probeX slot0X slot1X slot2X slot3X (qI0 0) (qI1 0) (qI2 0) aX), (wValley qV k vV bV cV wV aV eV), (wActs qA k dA aA)]) := hD
        refine lv_iconst (v := 0) hx hb dX11_image_46 (by decide) ?_
        rw [hQ]
        exact W.iret (v := (0 : Int32)) hx hb hr (fun t ht hW => ⟨⟨(0 : Int32), (), rfl, (by show (0 ≤ p1.toInt ∧ p1.toInt ≤ 2 ∧ (0 : Int) = 0) ∨ ((p1.toInt < 0 ∨ 2 < p1.toInt) ∧ (0 : Int) = (-2)); omega), vI0, (va_up vI1 0 (1 : Int32)), vI2, vJ0, bJ0, cJ0, wJ0, aJ0, eJ0, vz25, bz26, cz27, wz28, az29, ez30, vJ2, bJ2, cJ2, wJ2, aJ2, eJ2, dK0, aK0, dz33, az34, dK2, aK2, hbJ0, hcJ0, hwJ0, heJ0, hbz26, hcz27, hwz28, hez30, hbJ2, hcJ2, hwJ2, heJ2, hdK0, hdz33, hdK2, by rw [ht]; exact hP⟩, hS.F ht⟩) hS.2.2 dX11_image_47
      · skip
        have zz35 : p1.toInt = (2 : Int) := zi_eq.mp cz8
        refine W.eq (g2 := F0 m 17 ls [.int 2, .ref (qX 4)]) (by rw [cz8]) ?_
        refine va_aldq hx hb hK hP 43 7 rfl rfl (by unfold vp_in; decide) dX11_image_17 ?_
        refine W.eq (g2 := F0 m 18 ls [.ref (qI2 0)]) rfl ?_
        refine lv_astore_n (lv' := [(2, .ref (qI2 0)), (0, .ref (qX 0)), (1, .int p1)]) hx hb dX11_image_18 rfl hl (by decide) rfl (fun ls hl => ?_)
        refine lv_aload_n hx hb dX11_image_19 rfl (lv_at hl 0 rfl) ?_
        refine va_get (D := (dC, dI)) (ci := 1) (v := .ref (qJ2 0)) (C := RX1) (T := TX1) (N := 3) hx hb hts (fun w h => List.mem_cons_of_mem _ (List.mem_append_right _ (List.mem_append_right _ (List.mem_append_left _ h)))) hown hK hP 2 rfl rfl 0 (by decide) (hts (.fieldLink RX11 369 "SagMemory$Image" "valley" "LSagMemory$Valley;") (wl_mem 1 rfl)) (fun _ h9 => h9) rfl dX11_image_20 ?_
        refine lv_aload_n hx hb dX11_image_23 rfl (lv_at hl 1 rfl) ?_
        refine va_get (D := (dC, dI)) (ci := 11) (v := .ref (qV 0)) (C := RX11) (T := TX11) (N := 15) hx hb hts (fun w h => List.mem_cons_of_mem _ (List.mem_append_right _ (List.mem_append_left _ h))) hown hK hP 39 rfl rfl 1 (by decide) (hts (.fieldLink RX11 19 "SagMemory" "told" "LSagMemory$Valley;") (wl_mem 2 rfl)) (fun _ h9 => h9) rfl dX11_image_24 ?_
        have hPc := hP.sub (ws' := (List.flatten [(wValley qJ2 k vJ2 bJ2 cJ2 wJ2 aJ2 eJ2)] ++ List.flatten [(wValley qV k vV bV cV wV aV eV)])) [19, 20, 21, 22, 23, 24, 25, 26, 44, 45, 46, 47, 48, 49, 50, 51] rfl
        have hC : [19, 20, 21, 22, 23, 24, 25, 26, 44, 45, 46, 47, 48, 49, 50, 51].map (fun i => (List.flatten [(wImage qI0 k (qJ0 0) (qK0 0) vI0), (wImage qI1 k (qJ1 0) (qK1 0) vI1), (wImage qI2 k (qJ2 0) (qK2 0) vI2), (wValley qJ0 k vJ0 bJ0 cJ0 wJ0 aJ0 eJ0), (wValley qJ1 k vJ1 bJ1 cJ1 wJ1 aJ1 eJ1), (wValley qJ2 k vJ2 bJ2 cJ2 wJ2 aJ2 eJ2), (wActs qK0 k dK0 aK0), (wActs qK1 k dK1 aK1), (wActs qK2 k dK2 aK2)] ++ List.flatten [(wSag qX k tapeX (qV 0) (qA 0) nowX trialX storyX attemptX orderSearchX routeSearchX setSearchX probeX slot0X slot1X slot2X slot3X (qI0 0) (qI1 0) (qI2 0) aX), (wValley qV k vV bV cV wV aV eV), (wActs qA k dA aA)])[i]?) = (List.flatten [(wValley qJ2 k vJ2 bJ2 cJ2 wJ2 aJ2 eJ2)] ++ List.flatten [(wValley qV k vV bV cV wV aV eV)]).map some := rfl
        have hDc := hD.sub [19, 20, 21, 22, 23, 24, 25, 26, 44, 45, 46, 47, 48, 49, 50, 51] (by decide) hC
        have hFc := va_free hD hS hA [19, 20, 21, 22, 23, 24, 25, 26, 44, 45, 46, 47, 48, 49, 50, 51] hC
        refine va_callv (va_runV (As := [.ref (qV 0)]) (rest := []) ⟨hx, hb, hml, hown, hts⟩ (c_X10_take l dC dI k s.heap.size qJ2 vJ2 bJ2 cJ2 wJ2 aJ2 eJ2 qV vV bV cV wV aV eV hbJ2 hcJ2 hwJ2 heJ2 hbV hcV hwV heV) (cwV 1 hts (gk_V (wl_mem 3 rfl) (wl_mem 4 rfl) (wl_mem 5 rfl) (wl_mem 6 rfl) (fun w h => List.mem_cons_of_mem _ (List.mem_append_right _ (List.mem_append_right _ (List.mem_append_right _ (List.mem_append_left _ h))))) wkg_c_X10_take) rfl rfl rfl (by decide +kernel) ⟨Nat.le_of_ble_eq_true rfl, Nat.le_of_ble_eq_true rfl⟩) ⟨fun a U g mk q => by obtain ⟨q0, q1, qP, qK, qD⟩ := q; exact ⟨q0, q1, qP, va_K.moved (u := U) (U := U.calling g mk a) (Vm.Alike.refl U.vm) qK, qD⟩, va_recv hK hPc (ci := 10) (q0 := 0) rfl rfl, fun U hU hW => ⟨rfl, by rw [hU], by rw [hU]; exact hPc, va_K.moved hW.alike hK, hDc.weaken (fun _ _ _ _ => trivial)⟩⟩ rfl rfl hl.1 rfl (lv_room (Nat.le_of_ble_eq_true rfl)) dX11_image_27 ⟨Nat.le_of_ble_eq_true rfl, Nat.le_of_ble_eq_true rfl⟩) hS (fun q _ h => hFc q h) hFc (fun u t H1 locs ht hvm gz36 hB hz1 hk1 hS => ?_)
        obtain ⟨vz38, bz39, cz40, wz41, az42, ez43, hbz39, hcz40, hwz41, hez43, hP1⟩ := hB
        rw [ht] at hP1
        obtain ⟨hP, hD⟩ := w_callR hP hD hk1 hP1 [5] rfl rfl (wk_memC [10] rfl) rfl [none, none, none, none, none, some 0, none, none, none] rfl rfl
        clear hPc hC hDc hFc hk1 hP1
        generalize H1 = H at hP hS ⊢
        have hP : va_P (dC, dI) vwCl (List.flatten [(wImage qI0 k (qJ0 0) (qK0 0) vI0), (wImage qI1 k (qJ1 0) (qK1 0) vI1), (wImage qI2 k (qJ2 0) (qK2 0) vI2), (wValley qJ0 k vJ0 bJ0 cJ0 wJ0 aJ0 eJ0), (wValley qJ1 k vJ1 bJ1 cJ1 wJ1 aJ1 eJ1), (wValley qJ2 k vz38 bz39 cz40 wz41 az42 ez43), (wActs qK0 k dK0 aK0), (wActs qK1 k dK1 aK1), (wActs qK2 k dK2 aK2)] ++ List.flatten [(wSag qX k tapeX (qV 0) (qA 0) nowX trialX storyX attemptX orderSearchX routeSearchX setSearchX probeX slot0X slot1X slot2X slot3X (qI0 0) (qI1 0) (qI2 0) aX), (wValley qV k vV bV cV wV aV eV), (wActs qA k dA aA)]) H := hP
        have hD : va_D A (List.flatten [(wImage qI0 k (qJ0 0) (qK0 0) vI0), (wImage qI1 k (qJ1 0) (qK1 0) vI1), (wImage qI2 k (qJ2 0) (qK2 0) vI2), (wValley qJ0 k vJ0 bJ0 cJ0 wJ0 aJ0 eJ0), (wValley qJ1 k vJ1 bJ1 cJ1 wJ1 aJ1 eJ1), (wValley qJ2 k vz38 bz39 cz40 wz41 az42 ez43), (wActs qK0 k dK0 aK0), (wActs qK1 k dK1 aK1), (wActs qK2 k dK2 aK2)] ++ List.flatten [(wSag qX k tapeX (qV 0) (qA 0) nowX trialX storyX attemptX orderSearchX routeSearchX setSearchX probeX slot0X slot1X slot2X slot3X (qI0 0) (qI1 0) (qI2 0) aX), (wValley qV k vV bV cV wV aV eV), (wActs qA k dA aA)]) := hD
        refine W.widen (k := 0) (n := 0) (Nat.le_refl 0) (Nat.le_refl 0) ?_
        refine lv_aload_n hx hb dX11_image_30 rfl (lv_at hl 0 rfl) ?_
        refine va_get (D := (dC, dI)) (ci := 1) (v := .ref (qK2 0)) (C := RX1) (T := TX1) (N := 3) hx hb hts (fun w h => List.mem_cons_of_mem _ (List.mem_append_right _ (List.mem_append_right _ (List.mem_append_left _ h)))) hown hK hP 2 rfl rfl 1 (by decide) (hts (.fieldLink RX11 372 "SagMemory$Image" "acts" "LSagMemory$Acts;") (wl_mem 7 rfl)) (fun _ h9 => h9) rfl dX11_image_31 ?_
        refine lv_aload_n hx hb dX11_image_34 rfl (lv_at hl 1 rfl) ?_
        refine va_get (D := (dC, dI)) (ci := 11) (v := .ref (qA 0)) (C := RX11) (T := TX11) (N := 15) hx hb hts (fun w h => List.mem_cons_of_mem _ (List.mem_append_right _ (List.mem_append_left _ h))) hown hK hP 39 rfl rfl 2 (by decide) (hts (.fieldLink RX11 26 "SagMemory" "acts" "LSagMemory$Acts;") (wl_mem 8 rfl)) (fun _ h9 => h9) rfl dX11_image_35 ?_
        have hPc := hP.sub (ws' := (List.flatten [(wActs qK2 k dK2 aK2)] ++ List.flatten [(wActs qA k dA aA)])) [35, 36, 37, 38, 52, 53, 54, 55] rfl
        have hC : [35, 36, 37, 38, 52, 53, 54, 55].map (fun i => (List.flatten [(wImage qI0 k (qJ0 0) (qK0 0) vI0), (wImage qI1 k (qJ1 0) (qK1 0) vI1), (wImage qI2 k (qJ2 0) (qK2 0) vI2), (wValley qJ0 k vJ0 bJ0 cJ0 wJ0 aJ0 eJ0), (wValley qJ1 k vJ1 bJ1 cJ1 wJ1 aJ1 eJ1), (wValley qJ2 k vz38 bz39 cz40 wz41 az42 ez43), (wActs qK0 k dK0 aK0), (wActs qK1 k dK1 aK1), (wActs qK2 k dK2 aK2)] ++ List.flatten [(wSag qX k tapeX (qV 0) (qA 0) nowX trialX storyX attemptX orderSearchX routeSearchX setSearchX probeX slot0X slot1X slot2X slot3X (qI0 0) (qI1 0) (qI2 0) aX), (wValley qV k vV bV cV wV aV eV), (wActs qA k dA aA)])[i]?) = (List.flatten [(wActs qK2 k dK2 aK2)] ++ List.flatten [(wActs qA k dA aA)]).map some := rfl
        have hDc := hD.sub [35, 36, 37, 38, 52, 53, 54, 55] (by decide) hC
        have hFc := va_free hD hS hA [35, 36, 37, 38, 52, 53, 54, 55] hC
        refine va_callv (va_runV (As := [.ref (qA 0)]) (rest := []) ⟨hx, hb, hml, hown, hts⟩ (c_X0_take l dC dI k H.size qK2 dK2 aK2 qA dA aA hdK2 hdA) (cwV 1 hts (gk_V (wl_mem 9 rfl) (wl_mem 10 rfl) (wl_mem 11 rfl) (wl_mem 12 rfl) (fun w h => List.mem_cons_of_mem _ (List.mem_append_right _ (List.mem_append_right _ (List.mem_append_right _ (List.mem_append_right _ (List.mem_append_left _ h)))))) wkg_c_X0_take) rfl rfl rfl (by decide +kernel) ⟨Nat.le_of_ble_eq_true rfl, Nat.le_of_ble_eq_true rfl⟩) ⟨fun a U g mk q => by obtain ⟨q0, q1, qP, qK, qD⟩ := q; exact ⟨q0, q1, qP, va_K.moved (u := U) (U := U.calling g mk a) (Vm.Alike.refl U.vm) qK, qD⟩, va_recv hK hPc (ci := 0) (q0 := 0) rfl rfl, fun U hU hW => ⟨rfl, by rw [hU], by rw [hU]; exact hPc, va_K.moved hW.alike hK, hDc.weaken (fun _ _ _ _ => trivial)⟩⟩ rfl rfl hl.1 rfl (lv_room (Nat.le_of_ble_eq_true rfl)) dX11_image_38 ⟨Nat.le_of_ble_eq_true rfl, Nat.le_of_ble_eq_true rfl⟩) hS (fun q _ h => hFc q h) hFc (fun u t H1 locs ht hvm gz44 hB hz1 hk1 hS => ?_)
        obtain ⟨dz46, az47, hdz46, hP1⟩ := hB
        rw [ht] at hP1
        obtain ⟨hP, hD⟩ := w_callR hP hD hk1 hP1 [8] rfl rfl (wk_memC [11] rfl) rfl [none, none, none, none, none, none, none, none, some 0] rfl rfl
        clear hPc hC hDc hFc hk1 hP1
        generalize H1 = H at hP hS ⊢
        have hP : va_P (dC, dI) vwCl (List.flatten [(wImage qI0 k (qJ0 0) (qK0 0) vI0), (wImage qI1 k (qJ1 0) (qK1 0) vI1), (wImage qI2 k (qJ2 0) (qK2 0) vI2), (wValley qJ0 k vJ0 bJ0 cJ0 wJ0 aJ0 eJ0), (wValley qJ1 k vJ1 bJ1 cJ1 wJ1 aJ1 eJ1), (wValley qJ2 k vz38 bz39 cz40 wz41 az42 ez43), (wActs qK0 k dK0 aK0), (wActs qK1 k dK1 aK1), (wActs qK2 k dz46 az47)] ++ List.flatten [(wSag qX k tapeX (qV 0) (qA 0) nowX trialX storyX attemptX orderSearchX routeSearchX setSearchX probeX slot0X slot1X slot2X slot3X (qI0 0) (qI1 0) (qI2 0) aX), (wValley qV k vV bV cV wV aV eV), (wActs qA k dA aA)]) H := hP
        have hD : va_D A (List.flatten [(wImage qI0 k (qJ0 0) (qK0 0) vI0), (wImage qI1 k (qJ1 0) (qK1 0) vI1), (wImage qI2 k (qJ2 0) (qK2 0) vI2), (wValley qJ0 k vJ0 bJ0 cJ0 wJ0 aJ0 eJ0), (wValley qJ1 k vJ1 bJ1 cJ1 wJ1 aJ1 eJ1), (wValley qJ2 k vz38 bz39 cz40 wz41 az42 ez43), (wActs qK0 k dK0 aK0), (wActs qK1 k dK1 aK1), (wActs qK2 k dz46 az47)] ++ List.flatten [(wSag qX k tapeX (qV 0) (qA 0) nowX trialX storyX attemptX orderSearchX routeSearchX setSearchX probeX slot0X slot1X slot2X slot3X (qI0 0) (qI1 0) (qI2 0) aX), (wValley qV k vV bV cV wV aV eV), (wActs qA k dA aA)]) := hD
        refine W.widen (k := 0) (n := 0) (Nat.le_refl 0) (Nat.le_refl 0) ?_
        refine lv_aload_n hx hb dX11_image_41 rfl (lv_at hl 0 rfl) ?_
        refine lv_iconst (v := 1) hx hb dX11_image_42 (by decide) ?_
        refine va_put (D := (dC, dI)) (ci := 1) (v := .int 1) (ty := .boolean) (C := RX1) (T := TX1) (N := 3) hx hb hts (fun w h => List.mem_cons_of_mem _ (List.mem_append_right _ (List.mem_append_right _ (List.mem_append_left _ h)))) tyX1 tyX1_ok nmX1 hown hK hP hD hS 2 rfl rfl 2 (by decide) (hts (.fieldLink RX11 376 "SagMemory$Image" "has" "Z") (wl_mem 13 rfl)) (fun _ h9 => h9) rfl (by decide +kernel) rfl rfl (Nat.le_of_ble_eq_true rfl) dX11_image_43 (fun H locs hP hD hS => ?_)
        have hP : va_P (dC, dI) vwCl (List.flatten [(wImage qI0 k (qJ0 0) (qK0 0) vI0), (wImage qI1 k (qJ1 0) (qK1 0) vI1), (wImage qI2 k (qJ2 0) (qK2 0) (va_up vI2 0 (1 : Int32))), (wValley qJ0 k vJ0 bJ0 cJ0 wJ0 aJ0 eJ0), (wValley qJ1 k vJ1 bJ1 cJ1 wJ1 aJ1 eJ1), (wValley qJ2 k vz38 bz39 cz40 wz41 az42 ez43), (wActs qK0 k dK0 aK0), (wActs qK1 k dK1 aK1), (wActs qK2 k dz46 az47)] ++ List.flatten [(wSag qX k tapeX (qV 0) (qA 0) nowX trialX storyX attemptX orderSearchX routeSearchX setSearchX probeX slot0X slot1X slot2X slot3X (qI0 0) (qI1 0) (qI2 0) aX), (wValley qV k vV bV cV wV aV eV), (wActs qA k dA aA)]) H := hP
        have hD : va_D A (List.flatten [(wImage qI0 k (qJ0 0) (qK0 0) vI0), (wImage qI1 k (qJ1 0) (qK1 0) vI1), (wImage qI2 k (qJ2 0) (qK2 0) (va_up vI2 0 (1 : Int32))), (wValley qJ0 k vJ0 bJ0 cJ0 wJ0 aJ0 eJ0), (wValley qJ1 k vJ1 bJ1 cJ1 wJ1 aJ1 eJ1), (wValley qJ2 k vz38 bz39 cz40 wz41 az42 ez43), (wActs qK0 k dK0 aK0), (wActs qK1 k dK1 aK1), (wActs qK2 k dz46 az47)] ++ List.flatten [(wSag qX k tapeX (qV 0) (qA 0) nowX trialX storyX attemptX orderSearchX routeSearchX setSearchX probeX slot0X slot1X slot2X slot3X (qI0 0) (qI1 0) (qI2 0) aX), (wValley qV k vV bV cV wV aV eV), (wActs qA k dA aA)]) := hD
        refine lv_iconst (v := 0) hx hb dX11_image_46 (by decide) ?_
        rw [hQ]
        exact W.iret (v := (0 : Int32)) hx hb hr (fun t ht hW => ⟨⟨(0 : Int32), (), rfl, (by show (0 ≤ p1.toInt ∧ p1.toInt ≤ 2 ∧ (0 : Int) = 0) ∨ ((p1.toInt < 0 ∨ 2 < p1.toInt) ∧ (0 : Int) = (-2)); omega), vI0, vI1, (va_up vI2 0 (1 : Int32)), vJ0, bJ0, cJ0, wJ0, aJ0, eJ0, vJ1, bJ1, cJ1, wJ1, aJ1, eJ1, vz38, bz39, cz40, wz41, az42, ez43, dK0, aK0, dK1, aK1, dz46, az47, hbJ0, hcJ0, hwJ0, heJ0, hbJ1, hcJ1, hwJ1, heJ1, hbz39, hcz40, hwz41, hez43, hdK0, hdK1, hdz46, by rw [ht]; exact hP⟩, hS.F ht⟩) hS.2.2 dX11_image_47
    · skip
      have zz48 : ¬ p1.toInt < (3 : Int) := fun h9 => cz6 (zi_lt.mpr h9)
      refine lv_bipush (v := (-2)) hx hb dX11_image_9 (by decide) ?_
      rw [hQ]
      exact W.iret (v := (-2 : Int32)) hx hb hr (fun t ht hW => ⟨⟨(-2 : Int32), (), rfl, (by show (0 ≤ p1.toInt ∧ p1.toInt ≤ 2 ∧ (-2 : Int) = 0) ∨ ((p1.toInt < 0 ∨ 2 < p1.toInt) ∧ (-2 : Int) = (-2)); omega), vI0, vI1, vI2, vJ0, bJ0, cJ0, wJ0, aJ0, eJ0, vJ1, bJ1, cJ1, wJ1, aJ1, eJ1, vJ2, bJ2, cJ2, wJ2, aJ2, eJ2, dK0, aK0, dK1, aK1, dK2, aK2, hbJ0, hcJ0, hwJ0, heJ0, hbJ1, hcJ1, hwJ1, heJ1, hbJ2, hcJ2, hwJ2, heJ2, hdK0, hdK1, hdK2, by rw [ht]; exact hP⟩, hS.F ht⟩) hS.2.2 dX11_image_11
def wk_c_X11_row_x : List Cond := .code yX11_row cX11_row 4 (some .int) :: ([.methodLink RX11 380 yX11_hasSlot, .static yX11_hasSlot, .initialized RX11, .fieldLink RX11 85 "SagMemory" "slots" "[LSagMemory$Slot;", .methodLink RX11 383 yX6_begin, .instanceMethod yX6_begin, .selects RX6 yX6_begin yX6_begin, .initialized RX6] ++ (wk_c_X11_hasSlot ++ (wsX110 ++ (wk_c_X6_begin ++ []))))
theorem wkg_c_X11_row_x : wk_c_X11_row_x.all goodWord = true := by decide +kernel
set_option maxHeartbeats 4000000 in
set_option maxRecDepth 100000 in
theorem c_X11_row_x (l : Launch) (dC : Nat → ClassId) (dI : Nat → Nat → Nat) (k : Nat → ClassId) (sz : Nat) (qX : Nat → Nat) (tapeX : Nat) (toldX : Nat) (actsX : Nat) (nowX : Nat) (trialX : Nat) (storyX : Nat) (attemptX : Nat) (orderSearchX : Nat) (routeSearchX : Nat) (setSearchX : Nat) (probeX : Nat) (image0X : Nat) (image1X : Nat) (image2X : Nat) (aX : Nat → Nat → Int32) (qL0 : Nat → Nat) (vL0 : Nat → Int32) (sL0 : Nat → Int32) (lL0 : Nat → Nat → Int64) (qL1 : Nat → Nat) (vL1 : Nat → Int32) (sL1 : Nat → Int32) (lL1 : Nat → Nat → Int64) (qL2 : Nat → Nat) (vL2 : Nat → Int32) (sL2 : Nat → Int32) (lL2 : Nat → Nat → Int64) (qL3 : Nat → Nat) (vL3 : Nat → Int32) (sL3 : Nat → Int32) (lL3 : Nat → Nat → Int64) (p1 : Int32) (p2 : Int32) (p3 : Int32) (hsL0 : Rg 0 60 sL0) (hsL1 : Rg 0 60 sL1) (hsL2 : Rg 0 60 sL2) (hsL3 : Rg 0 60 sL3) : Met l yX11_row wk_c_X11_row_x ({ frames := 1, cells := 0, slots := 0, locals := 23 }) (va_Pc [.ref (qX 0), .int p1, .int p2, .int p3] (fun U => U.heap.size = sz ∧ va_P (dC, dI) vwCl (List.flatten [(wSlot qL0 k vL0 sL0 lL0), (wSlot qL1 k vL1 sL1 lL1), (wSlot qL2 k vL2 sL2 lL2), (wSlot qL3 k vL3 sL3 lL3)] ++ List.flatten [(wSag qX k tapeX toldX actsX nowX trialX storyX attemptX orderSearchX routeSearchX setSearchX probeX (qL0 0) (qL1 0) (qL2 0) (qL3 0) image0X image1X image2X aX)]) U.heap ∧ va_K (dC, dI) vwCl (tK k) U ∧ va_D (fun _ => True) (List.flatten [(wSlot qL0 k vL0 sL0 lL0), (wSlot qL1 k vL1 sL1 lL1), (wSlot qL2 k vL2 sL2 lL2), (wSlot qL3 k vL3 sL3 lL3)] ++ List.flatten [(wSag qX k tapeX toldX actsX nowX trialX storyX attemptX orderSearchX routeSearchX setSearchX probeX (qL0 0) (qL1 0) (qL2 0) (qL3 0) image0X image1X image2X aX)]))) (va_Qi (fun (r : Int32) (_ : Unit) => (((p1.toInt < 0 ∨ 3 < p1.toInt ∨ p2.toInt < 0 ∨ 3 < p2.toInt ∨ 60 < p3.toInt) ∧ r.toInt = (-2)) ∨ (¬ (p1.toInt < 0 ∨ 3 < p1.toInt ∨ p2.toInt < 0 ∨ 3 < p2.toInt ∨ 60 < p3.toInt) ∧ p3.toInt < 0 ∧ r.toInt = (-3)) ∨ (¬ (p1.toInt < 0 ∨ 3 < p1.toInt ∨ p2.toInt < 0 ∨ 3 < p2.toInt ∨ 60 < p3.toInt) ∧ 0 ≤ p3.toInt ∧ r.toInt = 0))) (fun (_ : Unit) (t : State) => ∃ (vL0' : Nat → Int32) (sL0' : Nat → Int32) (lL0' : Nat → Nat → Int64) (vL1' : Nat → Int32) (sL1' : Nat → Int32) (lL1' : Nat → Nat → Int64) (vL2' : Nat → Int32) (sL2' : Nat → Int32) (lL2' : Nat → Nat → Int64) (vL3' : Nat → Int32) (sL3' : Nat → Int32) (lL3' : Nat → Nat → Int64), Rg 0 60 sL0' ∧ Rg 0 60 sL1' ∧ Rg 0 60 sL2' ∧ Rg 0 60 sL3' ∧ va_P (dC, dI) vwCl (List.flatten [(wSlot qL0 k vL0' sL0' lL0'), (wSlot qL1 k vL1' sL1' lL1'), (wSlot qL2 k vL2' sL2' lL2'), (wSlot qL3 k vL3' sL3' lL3')] ++ List.flatten [(wSag qX k tapeX toldX actsX nowX trialX storyX attemptX orderSearchX routeSearchX setSearchX probeX (qL0 0) (qL1 0) (qL2 0) (qL3 0) image0X image1X image2X aX)]) t.heap) (va_A (List.flatten [(wSlot qL0 k vL0 sL0 lL0), (wSlot qL1 k vL1 sL1 lL1), (wSlot qL2 k vL2 sL2 lL2), (wSlot qL3 k vL3 sL3 lL3)] ++ List.flatten [(wSag qX k tapeX toldX actsX nowX trialX storyX attemptX orderSearchX routeSearchX setSearchX probeX (qL0 0) (qL1 0) (qL2 0) (qL3 0) image0X image1X image2X aX)]) sz)) 0 0 (va_A (List.flatten [(wSlot qL0 k vL0 sL0 lL0), (wSlot qL1 k vL1 sL1 lL1), (wSlot qL2 k vL2 sL2 lL2), (wSlot qL3 k vL3 sL3 lL3)] ++ List.flatten [(wSag qX k tapeX toldX actsX nowX trialX storyX attemptX orderSearchX routeSearchX setSearchX probeX (qL0 0) (qL1 0) (qL2 0) (qL3 0) image0X image1X image2X aX)]) sz) := by
  refine Met.ofW (cc := cX11_row) (maxL := 4) (ret := (some .int)) (by decide) rfl ?_
  intro p e s m args below meth c s₁ B hml hv
  obtain ⟨rfl, hsz, hP, hK, hD0⟩ := hv
  have hx := B.exec
  have hb := B.bytes
  have hr := B.returns
  have hts := atoms_spec (ws := wk_c_X11_row_x) B.pre
  have hown : s.vm.findClass RX11 = some m.cls := findClass_of_methodNamed B.named
  have hlocks := B.notSynchronized
  subst hsz
  have hD := hD0.self (sz := s.heap.size)
  generalize hAe : va_A (List.flatten [(wSlot qL0 k vL0 sL0 lL0), (wSlot qL1 k vL1 sL1 lL1), (wSlot qL2 k vL2 sL2 lL2), (wSlot qL3 k vL3 sL3 lL3)] ++ List.flatten [(wSag qX k tapeX toldX actsX nowX trialX storyX attemptX orderSearchX routeSearchX setSearchX probeX (qL0 0) (qL1 0) (qL2 0) (qL3 0) image0X image1X image2X aX)]) s.heap.size = A at hD ⊢
  have hA : ∀ q : Nat, s.heap.size ≤ q → A q := fun q h => by rw [← hAe]; exact Or.inr h
  have hS : va_S A s.heap s.heap [] := va_S.rf
  have hP : va_P (dC, dI) vwCl (List.flatten [(wSlot qL0 k vL0 sL0 lL0), (wSlot qL1 k vL1 sL1 lL1), (wSlot qL2 k vL2 sL2 lL2), (wSlot qL3 k vL3 sL3 lL3)] ++ List.flatten [(wSag qX k tapeX toldX actsX nowX trialX storyX attemptX orderSearchX routeSearchX setSearchX probeX (qL0 0) (qL1 0) (qL2 0) (qL3 0) image0X image1X image2X aX)]) s.heap := hP
  have hl := lv_entry ([.ref (qX 0), .int p1, .int p2, .int p3]) (n := 4) (Nat.le_of_ble_eq_true rfl)
  rw [lg_entry_eq]
  generalize (lg_sl ([.ref (qX 0), .int p1, .int p2, .int p3]) ++ List.replicate (4 - (lg_sl ([.ref (qX 0), .int p1, .int p2, .int p3])).length) Slot.unset).toArray = ls at hl ⊢
  have hl : lv_has ls 4 [(0, .ref (qX 0)), (1, .int p1), (2, .int p2), (3, .int p3)] := hl
  refine w_gen (fun Q hQ => ?_)
  refine lv_iload_n hx hb dX11_row_0 rfl (lv_at hl 1 rfl) ?_
  have hPc : va_P (dC, dI) vwCl (List.flatten ([] : List va_W)) s.heap := fun k q h => by simp at h
  refine vp_callSi (va_Run.run (va_runS (As := [.int p1]) (rest := []) ⟨hx, hb, hml, hown, hts⟩ (c_X11_hasSlot l dC dI k p1) (va_cwS 1 hts (gk_S (wl_mem 0 rfl) (wl_mem 1 rfl) (wl_mem 2 rfl) (fun w h => List.mem_cons_of_mem _ (List.mem_append_right _ (List.mem_append_left _ h))) wkg_c_X11_hasSlot) rfl rfl rfl (by decide +kernel) ⟨Nat.le_of_ble_eq_true rfl, Nat.le_of_ble_eq_true rfl⟩) ⟨fun a U g mk q => by obtain ⟨q0, qP, qK⟩ := q; exact ⟨q0, qP, va_K.moved (u := U) (U := U.calling g mk a) (Vm.Alike.refl U.vm) qK⟩, fun U hU hW => ⟨rfl, by rw [hU]; exact hPc, va_K.moved hW.alike hK⟩⟩ rfl rfl hl.1 rfl (lv_room (Nat.le_of_ble_eq_true rfl)) dX11_row_1 ⟨Nat.le_of_ble_eq_true rfl, Nat.le_of_ble_eq_true rfl⟩)) (fun rz2 gz1 => ?_)
  clear hPc
  rcases gz1 with ⟨er, cz3⟩ | ⟨er, cz4, cz5⟩ | ⟨er, cz6, cz7⟩
  · obtain rfl := er.symm
    have bz8 := fb_rng p1
    have zz9 : p1.toInt < (0 : Int) := zi_lt.mp cz3
    refine lv_if_eq (tgt := 22) hx hb dX11_row_4 (by decide) (fun cz10 => ?_) (fun cz10 => ?_)
    · skip
      refine lv_bipush (v := (-2)) hx hb dX11_row_22 (by decide) ?_
      rw [hQ]
      exact W.iret (v := (-2 : Int32)) hx hb hr (fun t ht hW => ⟨⟨(-2 : Int32), (), rfl, (by show ((p1.toInt < 0 ∨ 3 < p1.toInt ∨ p2.toInt < 0 ∨ 3 < p2.toInt ∨ 60 < p3.toInt) ∧ (-2 : Int) = (-2)) ∨ (¬ (p1.toInt < 0 ∨ 3 < p1.toInt ∨ p2.toInt < 0 ∨ 3 < p2.toInt ∨ 60 < p3.toInt) ∧ p3.toInt < 0 ∧ (-2 : Int) = (-3)) ∨ (¬ (p1.toInt < 0 ∨ 3 < p1.toInt ∨ p2.toInt < 0 ∨ 3 < p2.toInt ∨ 60 < p3.toInt) ∧ 0 ≤ p3.toInt ∧ (-2 : Int) = 0); omega), vL0, sL0, lL0, vL1, sL1, lL1, vL2, sL2, lL2, vL3, sL3, lL3, hsL0, hsL1, hsL2, hsL3, by rw [ht]; exact hP⟩, hS.F ht⟩) hS.2.2 dX11_row_24
    · skip
      exact absurd cz10 (by decide)
  · obtain rfl := er.symm
    have bz11 := fb_rng p1
    have zz12 : ¬ p1.toInt < (0 : Int) := fun h9 => cz4 (zi_lt.mpr h9)
    have zz13 : (4 : Int) ≤ p1.toInt := zi_le.mp cz5
    refine lv_if_eq (tgt := 22) hx hb dX11_row_4 (by decide) (fun cz14 => ?_) (fun cz14 => ?_)
    · skip
      refine lv_bipush (v := (-2)) hx hb dX11_row_22 (by decide) ?_
      rw [hQ]
      exact W.iret (v := (-2 : Int32)) hx hb hr (fun t ht hW => ⟨⟨(-2 : Int32), (), rfl, (by show ((p1.toInt < 0 ∨ 3 < p1.toInt ∨ p2.toInt < 0 ∨ 3 < p2.toInt ∨ 60 < p3.toInt) ∧ (-2 : Int) = (-2)) ∨ (¬ (p1.toInt < 0 ∨ 3 < p1.toInt ∨ p2.toInt < 0 ∨ 3 < p2.toInt ∨ 60 < p3.toInt) ∧ p3.toInt < 0 ∧ (-2 : Int) = (-3)) ∨ (¬ (p1.toInt < 0 ∨ 3 < p1.toInt ∨ p2.toInt < 0 ∨ 3 < p2.toInt ∨ 60 < p3.toInt) ∧ 0 ≤ p3.toInt ∧ (-2 : Int) = 0); omega), vL0, sL0, lL0, vL1, sL1, lL1, vL2, sL2, lL2, vL3, sL3, lL3, hsL0, hsL1, hsL2, hsL3, by rw [ht]; exact hP⟩, hS.F ht⟩) hS.2.2 dX11_row_24
    · skip
      exact absurd cz14 (by decide)
  · obtain rfl := er.symm
    have bz15 := fb_rng p1
    have zz16 : ¬ p1.toInt < (0 : Int) := fun h9 => cz6 (zi_lt.mpr h9)
    have zz17 : ¬ (4 : Int) ≤ p1.toInt := fun h9 => cz7 (zi_le.mpr h9)
    refine lv_if_eq (tgt := 22) hx hb dX11_row_4 (by decide) (fun cz18 => ?_) (fun cz18 => ?_)
    · skip
      exact absurd cz18 (by decide)
    · skip
      refine lv_iload_n hx hb dX11_row_7 rfl (lv_at hl 2 rfl) ?_
      refine lv_if_lt (tgt := 22) hx hb dX11_row_8 (by decide) (fun cz19 => ?_) (fun cz19 => ?_)
      · skip
        have bz20 := fb_rng p2
        have zz21 : p2.toInt < (0 : Int) := zi_lt.mp cz19
        refine lv_bipush (v := (-2)) hx hb dX11_row_22 (by decide) ?_
        rw [hQ]
        exact W.iret (v := (-2 : Int32)) hx hb hr (fun t ht hW => ⟨⟨(-2 : Int32), (), rfl, (by show ((p1.toInt < 0 ∨ 3 < p1.toInt ∨ p2.toInt < 0 ∨ 3 < p2.toInt ∨ 60 < p3.toInt) ∧ (-2 : Int) = (-2)) ∨ (¬ (p1.toInt < 0 ∨ 3 < p1.toInt ∨ p2.toInt < 0 ∨ 3 < p2.toInt ∨ 60 < p3.toInt) ∧ p3.toInt < 0 ∧ (-2 : Int) = (-3)) ∨ (¬ (p1.toInt < 0 ∨ 3 < p1.toInt ∨ p2.toInt < 0 ∨ 3 < p2.toInt ∨ 60 < p3.toInt) ∧ 0 ≤ p3.toInt ∧ (-2 : Int) = 0); omega), vL0, sL0, lL0, vL1, sL1, lL1, vL2, sL2, lL2, vL3, sL3, lL3, hsL0, hsL1, hsL2, hsL3, by rw [ht]; exact hP⟩, hS.F ht⟩) hS.2.2 dX11_row_24
      · skip
        have bz22 := fb_rng p2
        have zz23 : ¬ p2.toInt < (0 : Int) := fun h9 => cz19 (zi_lt.mpr h9)
        refine lv_iload_n hx hb dX11_row_11 rfl (lv_at hl 2 rfl) ?_
        refine lv_iconst (v := 4) hx hb dX11_row_12 (by decide) ?_
        refine lv_icmp_ge (tgt := 22) hx hb dX11_row_13 (by decide) (fun cz24 => ?_) (fun cz24 => ?_)
        · skip
          have zz25 : (4 : Int) ≤ p2.toInt := zi_le.mp cz24
          refine lv_bipush (v := (-2)) hx hb dX11_row_22 (by decide) ?_
          rw [hQ]
          exact W.iret (v := (-2 : Int32)) hx hb hr (fun t ht hW => ⟨⟨(-2 : Int32), (), rfl, (by show ((p1.toInt < 0 ∨ 3 < p1.toInt ∨ p2.toInt < 0 ∨ 3 < p2.toInt ∨ 60 < p3.toInt) ∧ (-2 : Int) = (-2)) ∨ (¬ (p1.toInt < 0 ∨ 3 < p1.toInt ∨ p2.toInt < 0 ∨ 3 < p2.toInt ∨ 60 < p3.toInt) ∧ p3.toInt < 0 ∧ (-2 : Int) = (-3)) ∨ (¬ (p1.toInt < 0 ∨ 3 < p1.toInt ∨ p2.toInt < 0 ∨ 3 < p2.toInt ∨ 60 < p3.toInt) ∧ 0 ≤ p3.toInt ∧ (-2 : Int) = 0); omega), vL0, sL0, lL0, vL1, sL1, lL1, vL2, sL2, lL2, vL3, sL3, lL3, hsL0, hsL1, hsL2, hsL3, by rw [ht]; exact hP⟩, hS.F ht⟩) hS.2.2 dX11_row_24
        · skip
          have zz26 : ¬ (4 : Int) ≤ p2.toInt := fun h9 => cz24 (zi_le.mpr h9)
          refine lv_iload_n hx hb dX11_row_16 rfl (lv_at hl 3 rfl) ?_
          refine lv_bipush (v := 60) hx hb dX11_row_17 (by decide) ?_
          refine lv_icmp_le (tgt := 25) hx hb dX11_row_19 (by decide) (fun cz27 => ?_) (fun cz27 => ?_)
          · skip
            have bz28 := fb_rng p3
            have zz29 : p3.toInt ≤ (60 : Int) := zi_le.mp cz27
            refine lv_iload_n hx hb dX11_row_25 rfl (lv_at hl 3 rfl) ?_
            refine lv_if_ge (tgt := 32) hx hb dX11_row_26 (by decide) (fun cz30 => ?_) (fun cz30 => ?_)
            · skip
              have zz31 : (0 : Int) ≤ p3.toInt := zi_le.mp cz30
              refine lv_aload_n hx hb dX11_row_32 rfl (lv_at hl 0 rfl) ?_
              refine va_get (D := (dC, dI)) (ci := 11) (v := .ref (qX 3)) (C := RX11) (T := TX11) (N := 15) hx hb hts (fun w h => List.mem_cons_of_mem _ (List.mem_append_right _ (List.mem_append_right _ (List.mem_append_left _ h)))) hown hK hP 8 rfl rfl 13 (by decide) (hts (.fieldLink RX11 85 "SagMemory" "slots" "[LSagMemory$Slot;") (wl_mem 3 rfl)) (fun _ h9 => h9) rfl dX11_row_33 ?_
              refine lv_iload_n hx hb dX11_row_36 rfl (lv_at hl 1 rfl) ?_
              rcases (show p1 = 0 ∨ p1 = 1 ∨ p1 = 2 ∨ p1 = 3 by simp only [zi_eq]; show p1.toInt = 0 ∨ p1.toInt = 1 ∨ p1.toInt = 2 ∨ p1.toInt = 3; omega) with cz32 | cz32 | cz32 | cz32
              · skip
                have zz33 : p1.toInt = (0 : Int) := zi_eq.mp cz32
                refine W.eq (g2 := F0 m 37 ls [.int 0, .ref (qX 3)]) (by rw [cz32]) ?_
                refine va_aldq hx hb hK hP 11 6 rfl rfl (by unfold vp_in; decide) dX11_row_37 ?_
                refine W.eq (g2 := F0 m 38 ls [.ref (qL0 0)]) rfl ?_
                refine lv_iload_n hx hb dX11_row_38 rfl (lv_at hl 2 rfl) ?_
                refine lv_iload_n hx hb dX11_row_39 rfl (lv_at hl 3 rfl) ?_
                have hPc := hP.sub (ws' := (List.flatten [(wSlot qL0 k vL0 sL0 lL0)] ++ List.flatten ([] : List va_W))) [0, 1] rfl
                have hC : [0, 1].map (fun i => (List.flatten [(wSlot qL0 k vL0 sL0 lL0), (wSlot qL1 k vL1 sL1 lL1), (wSlot qL2 k vL2 sL2 lL2), (wSlot qL3 k vL3 sL3 lL3)] ++ List.flatten [(wSag qX k tapeX toldX actsX nowX trialX storyX attemptX orderSearchX routeSearchX setSearchX probeX (qL0 0) (qL1 0) (qL2 0) (qL3 0) image0X image1X image2X aX)])[i]?) = (List.flatten [(wSlot qL0 k vL0 sL0 lL0)] ++ List.flatten ([] : List va_W)).map some := rfl
                have hDc := hD.sub [0, 1] (by decide) hC
                have hFc := va_free hD hS hA [0, 1] hC
                refine va_callv (va_runV (As := [.int p2, .int p3]) (rest := []) ⟨hx, hb, hml, hown, hts⟩ (c_X6_begin l dC dI k s.heap.size qL0 vL0 sL0 lL0 p2 p3 hsL0 (by show 0 ≤ p3.toInt ∧ p3.toInt ≤ 60; omega)) (cwV 2 hts (gk_V (wl_mem 4 rfl) (wl_mem 5 rfl) (wl_mem 6 rfl) (wl_mem 7 rfl) (fun w h => List.mem_cons_of_mem _ (List.mem_append_right _ (List.mem_append_right _ (List.mem_append_right _ (List.mem_append_left _ h))))) wkg_c_X6_begin) rfl rfl rfl (by decide +kernel) ⟨Nat.le_of_ble_eq_true rfl, Nat.le_of_ble_eq_true rfl⟩) ⟨fun a U g mk q => by obtain ⟨q0, q1, qP, qK, qD⟩ := q; exact ⟨q0, q1, qP, va_K.moved (u := U) (U := U.calling g mk a) (Vm.Alike.refl U.vm) qK, qD⟩, va_recv hK hPc (ci := 6) (q0 := 0) rfl rfl, fun U hU hW => ⟨rfl, by rw [hU], by rw [hU]; exact hPc, va_K.moved hW.alike hK, hDc.weaken (fun _ _ _ _ => trivial)⟩⟩ rfl rfl hl.1 rfl (lv_room (Nat.le_of_ble_eq_true rfl)) dX11_row_40 ⟨Nat.le_of_ble_eq_true rfl, Nat.le_of_ble_eq_true rfl⟩) hS (fun q _ h => hFc q h) hFc (fun u t H1 locs ht hvm gz34 hB hz1 hk1 hS => ?_)
                obtain ⟨vz36, sz37, lz38, hsz37, hP1⟩ := hB
                rw [ht] at hP1
                obtain ⟨hP, hD⟩ := w_callR hP hD hk1 hP1 [0] rfl rfl (fun _ h => absurd h List.not_mem_nil) rfl [some 0, none, none, none] rfl rfl
                clear hPc hC hDc hFc hk1 hP1
                generalize H1 = H at hP hS ⊢
                have hP : va_P (dC, dI) vwCl (List.flatten [(wSlot qL0 k vz36 sz37 lz38), (wSlot qL1 k vL1 sL1 lL1), (wSlot qL2 k vL2 sL2 lL2), (wSlot qL3 k vL3 sL3 lL3)] ++ List.flatten [(wSag qX k tapeX toldX actsX nowX trialX storyX attemptX orderSearchX routeSearchX setSearchX probeX (qL0 0) (qL1 0) (qL2 0) (qL3 0) image0X image1X image2X aX)]) H := hP
                have hD : va_D A (List.flatten [(wSlot qL0 k vz36 sz37 lz38), (wSlot qL1 k vL1 sL1 lL1), (wSlot qL2 k vL2 sL2 lL2), (wSlot qL3 k vL3 sL3 lL3)] ++ List.flatten [(wSag qX k tapeX toldX actsX nowX trialX storyX attemptX orderSearchX routeSearchX setSearchX probeX (qL0 0) (qL1 0) (qL2 0) (qL3 0) image0X image1X image2X aX)]) := hD
                refine W.widen (k := 0) (n := 0) (Nat.le_refl 0) (Nat.le_refl 0) ?_
                refine lv_iconst (v := 0) hx hb dX11_row_43 (by decide) ?_
                rw [hQ]
                exact W.iret (v := (0 : Int32)) hx hb hr (fun t ht hW => ⟨⟨(0 : Int32), (), rfl, (by show ((p1.toInt < 0 ∨ 3 < p1.toInt ∨ p2.toInt < 0 ∨ 3 < p2.toInt ∨ 60 < p3.toInt) ∧ (0 : Int) = (-2)) ∨ (¬ (p1.toInt < 0 ∨ 3 < p1.toInt ∨ p2.toInt < 0 ∨ 3 < p2.toInt ∨ 60 < p3.toInt) ∧ p3.toInt < 0 ∧ (0 : Int) = (-3)) ∨ (¬ (p1.toInt < 0 ∨ 3 < p1.toInt ∨ p2.toInt < 0 ∨ 3 < p2.toInt ∨ 60 < p3.toInt) ∧ 0 ≤ p3.toInt ∧ (0 : Int) = 0); omega), vz36, sz37, lz38, vL1, sL1, lL1, vL2, sL2, lL2, vL3, sL3, lL3, hsz37, hsL1, hsL2, hsL3, by rw [ht]; exact hP⟩, hS.F ht⟩) hS.2.2 dX11_row_44
              · skip
                have zz39 : p1.toInt = (1 : Int) := zi_eq.mp cz32
                refine W.eq (g2 := F0 m 37 ls [.int 1, .ref (qX 3)]) (by rw [cz32]) ?_
                refine va_aldq hx hb hK hP 11 6 rfl rfl (by unfold vp_in; decide) dX11_row_37 ?_
                refine W.eq (g2 := F0 m 38 ls [.ref (qL1 0)]) rfl ?_
                refine lv_iload_n hx hb dX11_row_38 rfl (lv_at hl 2 rfl) ?_
                refine lv_iload_n hx hb dX11_row_39 rfl (lv_at hl 3 rfl) ?_
                have hPc := hP.sub (ws' := (List.flatten [(wSlot qL1 k vL1 sL1 lL1)] ++ List.flatten ([] : List va_W))) [2, 3] rfl
                have hC : [2, 3].map (fun i => (List.flatten [(wSlot qL0 k vL0 sL0 lL0), (wSlot qL1 k vL1 sL1 lL1), (wSlot qL2 k vL2 sL2 lL2), (wSlot qL3 k vL3 sL3 lL3)] ++ List.flatten [(wSag qX k tapeX toldX actsX nowX trialX storyX attemptX orderSearchX routeSearchX setSearchX probeX (qL0 0) (qL1 0) (qL2 0) (qL3 0) image0X image1X image2X aX)])[i]?) = (List.flatten [(wSlot qL1 k vL1 sL1 lL1)] ++ List.flatten ([] : List va_W)).map some := rfl
                have hDc := hD.sub [2, 3] (by decide) hC
                have hFc := va_free hD hS hA [2, 3] hC
                refine va_callv (va_runV (As := [.int p2, .int p3]) (rest := []) ⟨hx, hb, hml, hown, hts⟩ (c_X6_begin l dC dI k s.heap.size qL1 vL1 sL1 lL1 p2 p3 hsL1 (by show 0 ≤ p3.toInt ∧ p3.toInt ≤ 60; omega)) (cwV 2 hts (gk_V (wl_mem 4 rfl) (wl_mem 5 rfl) (wl_mem 6 rfl) (wl_mem 7 rfl) (fun w h => List.mem_cons_of_mem _ (List.mem_append_right _ (List.mem_append_right _ (List.mem_append_right _ (List.mem_append_left _ h))))) wkg_c_X6_begin) rfl rfl rfl (by decide +kernel) ⟨Nat.le_of_ble_eq_true rfl, Nat.le_of_ble_eq_true rfl⟩) ⟨fun a U g mk q => by obtain ⟨q0, q1, qP, qK, qD⟩ := q; exact ⟨q0, q1, qP, va_K.moved (u := U) (U := U.calling g mk a) (Vm.Alike.refl U.vm) qK, qD⟩, va_recv hK hPc (ci := 6) (q0 := 0) rfl rfl, fun U hU hW => ⟨rfl, by rw [hU], by rw [hU]; exact hPc, va_K.moved hW.alike hK, hDc.weaken (fun _ _ _ _ => trivial)⟩⟩ rfl rfl hl.1 rfl (lv_room (Nat.le_of_ble_eq_true rfl)) dX11_row_40 ⟨Nat.le_of_ble_eq_true rfl, Nat.le_of_ble_eq_true rfl⟩) hS (fun q _ h => hFc q h) hFc (fun u t H1 locs ht hvm gz40 hB hz1 hk1 hS => ?_)
                obtain ⟨vz42, sz43, lz44, hsz43, hP1⟩ := hB
                rw [ht] at hP1
                obtain ⟨hP, hD⟩ := w_callR hP hD hk1 hP1 [1] rfl rfl (fun _ h => absurd h List.not_mem_nil) rfl [none, some 0, none, none] rfl rfl
                clear hPc hC hDc hFc hk1 hP1
                generalize H1 = H at hP hS ⊢
                have hP : va_P (dC, dI) vwCl (List.flatten [(wSlot qL0 k vL0 sL0 lL0), (wSlot qL1 k vz42 sz43 lz44), (wSlot qL2 k vL2 sL2 lL2), (wSlot qL3 k vL3 sL3 lL3)] ++ List.flatten [(wSag qX k tapeX toldX actsX nowX trialX storyX attemptX orderSearchX routeSearchX setSearchX probeX (qL0 0) (qL1 0) (qL2 0) (qL3 0) image0X image1X image2X aX)]) H := hP
                have hD : va_D A (List.flatten [(wSlot qL0 k vL0 sL0 lL0), (wSlot qL1 k vz42 sz43 lz44), (wSlot qL2 k vL2 sL2 lL2), (wSlot qL3 k vL3 sL3 lL3)] ++ List.flatten [(wSag qX k tapeX toldX actsX nowX trialX storyX attemptX orderSearchX routeSearchX setSearchX probeX (qL0 0) (qL1 0) (qL2 0) (qL3 0) image0X image1X image2X aX)]) := hD
                refine W.widen (k := 0) (n := 0) (Nat.le_refl 0) (Nat.le_refl 0) ?_
                refine lv_iconst (v := 0) hx hb dX11_row_43 (by decide) ?_
                rw [hQ]
                exact W.iret (v := (0 : Int32)) hx hb hr (fun t ht hW => ⟨⟨(0 : Int32), (), rfl, (by show ((p1.toInt < 0 ∨ 3 < p1.toInt ∨ p2.toInt < 0 ∨ 3 < p2.toInt ∨ 60 < p3.toInt) ∧ (0 : Int) = (-2)) ∨ (¬ (p1.toInt < 0 ∨ 3 < p1.toInt ∨ p2.toInt < 0 ∨ 3 < p2.toInt ∨ 60 < p3.toInt) ∧ p3.toInt < 0 ∧ (0 : Int) = (-3)) ∨ (¬ (p1.toInt < 0 ∨ 3 < p1.toInt ∨ p2.toInt < 0 ∨ 3 < p2.toInt ∨ 60 < p3.toInt) ∧ 0 ≤ p3.toInt ∧ (0 : Int) = 0); omega), vL0, sL0, lL0, vz42, sz43, lz44, vL2, sL2, lL2, vL3, sL3, lL3, hsL0, hsz43, hsL2, hsL3, by rw [ht]; exact hP⟩, hS.F ht⟩) hS.2.2 dX11_row_44
              · skip
                have zz45 : p1.toInt = (2 : Int) := zi_eq.mp cz32
                refine W.eq (g2 := F0 m 37 ls [.int 2, .ref (qX 3)]) (by rw [cz32]) ?_
                refine va_aldq hx hb hK hP 11 6 rfl rfl (by unfold vp_in; decide) dX11_row_37 ?_
                refine W.eq (g2 := F0 m 38 ls [.ref (qL2 0)]) rfl ?_
                refine lv_iload_n hx hb dX11_row_38 rfl (lv_at hl 2 rfl) ?_
                refine lv_iload_n hx hb dX11_row_39 rfl (lv_at hl 3 rfl) ?_
                have hPc := hP.sub (ws' := (List.flatten [(wSlot qL2 k vL2 sL2 lL2)] ++ List.flatten ([] : List va_W))) [4, 5] rfl
                have hC : [4, 5].map (fun i => (List.flatten [(wSlot qL0 k vL0 sL0 lL0), (wSlot qL1 k vL1 sL1 lL1), (wSlot qL2 k vL2 sL2 lL2), (wSlot qL3 k vL3 sL3 lL3)] ++ List.flatten [(wSag qX k tapeX toldX actsX nowX trialX storyX attemptX orderSearchX routeSearchX setSearchX probeX (qL0 0) (qL1 0) (qL2 0) (qL3 0) image0X image1X image2X aX)])[i]?) = (List.flatten [(wSlot qL2 k vL2 sL2 lL2)] ++ List.flatten ([] : List va_W)).map some := rfl
                have hDc := hD.sub [4, 5] (by decide) hC
                have hFc := va_free hD hS hA [4, 5] hC
                refine va_callv (va_runV (As := [.int p2, .int p3]) (rest := []) ⟨hx, hb, hml, hown, hts⟩ (c_X6_begin l dC dI k s.heap.size qL2 vL2 sL2 lL2 p2 p3 hsL2 (by show 0 ≤ p3.toInt ∧ p3.toInt ≤ 60; omega)) (cwV 2 hts (gk_V (wl_mem 4 rfl) (wl_mem 5 rfl) (wl_mem 6 rfl) (wl_mem 7 rfl) (fun w h => List.mem_cons_of_mem _ (List.mem_append_right _ (List.mem_append_right _ (List.mem_append_right _ (List.mem_append_left _ h))))) wkg_c_X6_begin) rfl rfl rfl (by decide +kernel) ⟨Nat.le_of_ble_eq_true rfl, Nat.le_of_ble_eq_true rfl⟩) ⟨fun a U g mk q => by obtain ⟨q0, q1, qP, qK, qD⟩ := q; exact ⟨q0, q1, qP, va_K.moved (u := U) (U := U.calling g mk a) (Vm.Alike.refl U.vm) qK, qD⟩, va_recv hK hPc (ci := 6) (q0 := 0) rfl rfl, fun U hU hW => ⟨rfl, by rw [hU], by rw [hU]; exact hPc, va_K.moved hW.alike hK, hDc.weaken (fun _ _ _ _ => trivial)⟩⟩ rfl rfl hl.1 rfl (lv_room (Nat.le_of_ble_eq_true rfl)) dX11_row_40 ⟨Nat.le_of_ble_eq_true rfl, Nat.le_of_ble_eq_true rfl⟩) hS (fun q _ h => hFc q h) hFc (fun u t H1 locs ht hvm gz46 hB hz1 hk1 hS => ?_)
                obtain ⟨vz48, sz49, lz50, hsz49, hP1⟩ := hB
                rw [ht] at hP1
                obtain ⟨hP, hD⟩ := w_callR hP hD hk1 hP1 [2] rfl rfl (fun _ h => absurd h List.not_mem_nil) rfl [none, none, some 0, none] rfl rfl
                clear hPc hC hDc hFc hk1 hP1
                generalize H1 = H at hP hS ⊢
                have hP : va_P (dC, dI) vwCl (List.flatten [(wSlot qL0 k vL0 sL0 lL0), (wSlot qL1 k vL1 sL1 lL1), (wSlot qL2 k vz48 sz49 lz50), (wSlot qL3 k vL3 sL3 lL3)] ++ List.flatten [(wSag qX k tapeX toldX actsX nowX trialX storyX attemptX orderSearchX routeSearchX setSearchX probeX (qL0 0) (qL1 0) (qL2 0) (qL3 0) image0X image1X image2X aX)]) H := hP
                have hD : va_D A (List.flatten [(wSlot qL0 k vL0 sL0 lL0), (wSlot qL1 k vL1 sL1 lL1), (wSlot qL2 k vz48 sz49 lz50), (wSlot qL3 k vL3 sL3 lL3)] ++ List.flatten [(wSag qX k tapeX toldX actsX nowX trialX storyX attemptX orderSearchX routeSearchX setSearchX probeX (qL0 0) (qL1 0) (qL2 0) (qL3 0) image0X image1X image2X aX)]) := hD
                refine W.widen (k := 0) (n := 0) (Nat.le_refl 0) (Nat.le_refl 0) ?_
                refine lv_iconst (v := 0) hx hb dX11_row_43 (by decide) ?_
                rw [hQ]
                exact W.iret (v := (0 : Int32)) hx hb hr (fun t ht hW => ⟨⟨(0 : Int32), (), rfl, (by show ((p1.toInt < 0 ∨ 3 < p1.toInt ∨ p2.toInt < 0 ∨ 3 < p2.toInt ∨ 60 < p3.toInt) ∧ (0 : Int) = (-2)) ∨ (¬ (p1.toInt < 0 ∨ 3 < p1.toInt ∨ p2.toInt < 0 ∨ 3 < p2.toInt ∨ 60 < p3.toInt) ∧ p3.toInt < 0 ∧ (0 : Int) = (-3)) ∨ (¬ (p1.toInt < 0 ∨ 3 < p1.toInt ∨ p2.toInt < 0 ∨ 3 < p2.toInt ∨ 60 < p3.toInt) ∧ 0 ≤ p3.toInt ∧ (0 : Int) = 0); omega), vL0, sL0, lL0, vL1, sL1, lL1, vz48, sz49, lz50, vL3, sL3, lL3, hsL0, hsL1, hsz49, hsL3, by rw [ht]; exact hP⟩, hS.F ht⟩) hS.2.2 dX11_row_44
              · skip
                have zz51 : p1.toInt = (3 : Int) := zi_eq.mp cz32
                refine W.eq (g2 := F0 m 37 ls [.int 3, .ref (qX 3)]) (by rw [cz32]) ?_
                refine va_aldq hx hb hK hP 11 6 rfl rfl (by unfold vp_in; decide) dX11_row_37 ?_
                refine W.eq (g2 := F0 m 38 ls [.ref (qL3 0)]) rfl ?_
                refine lv_iload_n hx hb dX11_row_38 rfl (lv_at hl 2 rfl) ?_
                refine lv_iload_n hx hb dX11_row_39 rfl (lv_at hl 3 rfl) ?_
                have hPc := hP.sub (ws' := (List.flatten [(wSlot qL3 k vL3 sL3 lL3)] ++ List.flatten ([] : List va_W))) [6, 7] rfl
                have hC : [6, 7].map (fun i => (List.flatten [(wSlot qL0 k vL0 sL0 lL0), (wSlot qL1 k vL1 sL1 lL1), (wSlot qL2 k vL2 sL2 lL2), (wSlot qL3 k vL3 sL3 lL3)] ++ List.flatten [(wSag qX k tapeX toldX actsX nowX trialX storyX attemptX orderSearchX routeSearchX setSearchX probeX (qL0 0) (qL1 0) (qL2 0) (qL3 0) image0X image1X image2X aX)])[i]?) = (List.flatten [(wSlot qL3 k vL3 sL3 lL3)] ++ List.flatten ([] : List va_W)).map some := rfl
                have hDc := hD.sub [6, 7] (by decide) hC
                have hFc := va_free hD hS hA [6, 7] hC
                refine va_callv (va_runV (As := [.int p2, .int p3]) (rest := []) ⟨hx, hb, hml, hown, hts⟩ (c_X6_begin l dC dI k s.heap.size qL3 vL3 sL3 lL3 p2 p3 hsL3 (by show 0 ≤ p3.toInt ∧ p3.toInt ≤ 60; omega)) (cwV 2 hts (gk_V (wl_mem 4 rfl) (wl_mem 5 rfl) (wl_mem 6 rfl) (wl_mem 7 rfl) (fun w h => List.mem_cons_of_mem _ (List.mem_append_right _ (List.mem_append_right _ (List.mem_append_right _ (List.mem_append_left _ h))))) wkg_c_X6_begin) rfl rfl rfl (by decide +kernel) ⟨Nat.le_of_ble_eq_true rfl, Nat.le_of_ble_eq_true rfl⟩) ⟨fun a U g mk q => by obtain ⟨q0, q1, qP, qK, qD⟩ := q; exact ⟨q0, q1, qP, va_K.moved (u := U) (U := U.calling g mk a) (Vm.Alike.refl U.vm) qK, qD⟩, va_recv hK hPc (ci := 6) (q0 := 0) rfl rfl, fun U hU hW => ⟨rfl, by rw [hU], by rw [hU]; exact hPc, va_K.moved hW.alike hK, hDc.weaken (fun _ _ _ _ => trivial)⟩⟩ rfl rfl hl.1 rfl (lv_room (Nat.le_of_ble_eq_true rfl)) dX11_row_40 ⟨Nat.le_of_ble_eq_true rfl, Nat.le_of_ble_eq_true rfl⟩) hS (fun q _ h => hFc q h) hFc (fun u t H1 locs ht hvm gz52 hB hz1 hk1 hS => ?_)
                obtain ⟨vz54, sz55, lz56, hsz55, hP1⟩ := hB
                rw [ht] at hP1
                obtain ⟨hP, hD⟩ := w_callR hP hD hk1 hP1 [3] rfl rfl (fun _ h => absurd h List.not_mem_nil) rfl [none, none, none, some 0] rfl rfl
                clear hPc hC hDc hFc hk1 hP1
                generalize H1 = H at hP hS ⊢
                have hP : va_P (dC, dI) vwCl (List.flatten [(wSlot qL0 k vL0 sL0 lL0), (wSlot qL1 k vL1 sL1 lL1), (wSlot qL2 k vL2 sL2 lL2), (wSlot qL3 k vz54 sz55 lz56)] ++ List.flatten [(wSag qX k tapeX toldX actsX nowX trialX storyX attemptX orderSearchX routeSearchX setSearchX probeX (qL0 0) (qL1 0) (qL2 0) (qL3 0) image0X image1X image2X aX)]) H := hP
                have hD : va_D A (List.flatten [(wSlot qL0 k vL0 sL0 lL0), (wSlot qL1 k vL1 sL1 lL1), (wSlot qL2 k vL2 sL2 lL2), (wSlot qL3 k vz54 sz55 lz56)] ++ List.flatten [(wSag qX k tapeX toldX actsX nowX trialX storyX attemptX orderSearchX routeSearchX setSearchX probeX (qL0 0) (qL1 0) (qL2 0) (qL3 0) image0X image1X image2X aX)]) := hD
                refine W.widen (k := 0) (n := 0) (Nat.le_refl 0) (Nat.le_refl 0) ?_
                refine lv_iconst (v := 0) hx hb dX11_row_43 (by decide) ?_
                rw [hQ]
                exact W.iret (v := (0 : Int32)) hx hb hr (fun t ht hW => ⟨⟨(0 : Int32), (), rfl, (by show ((p1.toInt < 0 ∨ 3 < p1.toInt ∨ p2.toInt < 0 ∨ 3 < p2.toInt ∨ 60 < p3.toInt) ∧ (0 : Int) = (-2)) ∨ (¬ (p1.toInt < 0 ∨ 3 < p1.toInt ∨ p2.toInt < 0 ∨ 3 < p2.toInt ∨ 60 < p3.toInt) ∧ p3.toInt < 0 ∧ (0 : Int) = (-3)) ∨ (¬ (p1.toInt < 0 ∨ 3 < p1.toInt ∨ p2.toInt < 0 ∨ 3 < p2.toInt ∨ 60 < p3.toInt) ∧ 0 ≤ p3.toInt ∧ (0 : Int) = 0); omega), vL0, sL0, lL0, vL1, sL1, lL1, vL2, sL2, lL2, vz54, sz55, lz56, hsL0, hsL1, hsL2, hsz55, by rw [ht]; exact hP⟩, hS.F ht⟩) hS.2.2 dX11_row_44
            · skip
              have zz57 : ¬ (0 : Int) ≤ p3.toInt := fun h9 => cz30 (zi_le.mpr h9)
              refine lv_bipush (v := (-3)) hx hb dX11_row_29 (by decide) ?_
              rw [hQ]
              exact W.iret (v := (-3 : Int32)) hx hb hr (fun t ht hW => ⟨⟨(-3 : Int32), (), rfl, (by show ((p1.toInt < 0 ∨ 3 < p1.toInt ∨ p2.toInt < 0 ∨ 3 < p2.toInt ∨ 60 < p3.toInt) ∧ (-3 : Int) = (-2)) ∨ (¬ (p1.toInt < 0 ∨ 3 < p1.toInt ∨ p2.toInt < 0 ∨ 3 < p2.toInt ∨ 60 < p3.toInt) ∧ p3.toInt < 0 ∧ (-3 : Int) = (-3)) ∨ (¬ (p1.toInt < 0 ∨ 3 < p1.toInt ∨ p2.toInt < 0 ∨ 3 < p2.toInt ∨ 60 < p3.toInt) ∧ 0 ≤ p3.toInt ∧ (-3 : Int) = 0); omega), vL0, sL0, lL0, vL1, sL1, lL1, vL2, sL2, lL2, vL3, sL3, lL3, hsL0, hsL1, hsL2, hsL3, by rw [ht]; exact hP⟩, hS.F ht⟩) hS.2.2 dX11_row_31
          · skip
            have bz58 := fb_rng p3
            have zz59 : ¬ p3.toInt ≤ (60 : Int) := fun h9 => cz27 (zi_le.mpr h9)
            refine lv_bipush (v := (-2)) hx hb dX11_row_22 (by decide) ?_
            rw [hQ]
            exact W.iret (v := (-2 : Int32)) hx hb hr (fun t ht hW => ⟨⟨(-2 : Int32), (), rfl, (by show ((p1.toInt < 0 ∨ 3 < p1.toInt ∨ p2.toInt < 0 ∨ 3 < p2.toInt ∨ 60 < p3.toInt) ∧ (-2 : Int) = (-2)) ∨ (¬ (p1.toInt < 0 ∨ 3 < p1.toInt ∨ p2.toInt < 0 ∨ 3 < p2.toInt ∨ 60 < p3.toInt) ∧ p3.toInt < 0 ∧ (-2 : Int) = (-3)) ∨ (¬ (p1.toInt < 0 ∨ 3 < p1.toInt ∨ p2.toInt < 0 ∨ 3 < p2.toInt ∨ 60 < p3.toInt) ∧ 0 ≤ p3.toInt ∧ (-2 : Int) = 0); omega), vL0, sL0, lL0, vL1, sL1, lL1, vL2, sL2, lL2, vL3, sL3, lL3, hsL0, hsL1, hsL2, hsL3, by rw [ht]; exact hP⟩, hS.F ht⟩) hS.2.2 dX11_row_24
def wk_c_X12_image_x : List Cond := .code yX12_image cX12_image 2 (some .int) :: ([.fieldLink RX12 116 "SagMemoryModel" "thrown" "I", .constantLong RX12 345 (2), .methodLink RX12 121 yX12_in, .static yX12_in, .initialized RX12, .methodLink RX12 276 yX12_copyValley, .instanceMethod yX12_copyValley, .selects RX12 yX12_copyValley yX12_copyValley, .fieldLink RX12 52 "SagMemoryModel" "isKept" "[Z"] ++ (wsX120 ++ (wk_c_X12_in ++ (wk_c_X12_copyValley ++ []))))
theorem wkg_c_X12_image_x : wk_c_X12_image_x.all goodWord = true := by decide +kernel
set_option maxHeartbeats 4000000 in
set_option maxRecDepth 100000 in
theorem c_X12_image_x (l : Launch) (dC : Nat → ClassId) (dI : Nat → Nat → Nat) (k : Nat → ClassId) (sz : Nat) (qO : Nat → Nat) (widthO : Nat) (manyO : Nat) (cellsO : Nat) (movedO : Nat) (tapeO : Nat) (loadNowO : Nat) (byNowO : Nat) (rowO : Nat) (memoryO : Nat) (whoseO : Nat) (deepNowO : Nat) (brokenByO : Nat) (brokenAtO : Nat) (goesByO : Nat) (comesToO : Nat) (sagMoreO : Nat) (creakOfO : Nat) (wipedByO : Nat) (deepAtO : Nat) (sagAtO : Nat) (loadAtO : Nat) (orderRowO : Nat) (oftenO : Nat) (lossOneO : Nat) (lossOtherO : Nat) (vO : Nat → Int32) (tO : Nat → Int32) (mO : Nat → Int32) (gO : Nat → Int64) (qLi : Nat → Nat) (aLi : Nat → Nat → Int32) (qHa : Nat → Nat) (hHa : Nat → Nat → Int32) (qBr : Nat → Nat) (aBr : Nat → Nat → Int32) (qCa : Nat → Nat) (pCa : Nat → Nat → Int32) (qWa : Nat → Nat) (jWa : Nat → Nat → Int32) (qFr : Nat → Nat) (aFr : Nat → Nat → Int32) (qAc : Nat → Nat) (iAc : Nat → Nat → Int32) (qIk : Nat → Nat) (aIk : Nat → Nat → Int32) (p1 : Int32) (htO : Rg 0 700 tO) (hmO : Rg (-1) 127 mO) (hhHa : Pa_h hHa) (hpCa : Pa_p pCa) (hjWa : Pa_j jWa) (hiAc : Pa_i iAc) : Met l yX12_image wk_c_X12_image_x ({ frames := 2, cells := 0, slots := 0, locals := 46 }) (va_Pc [.ref (qO 0), .int p1] (fun U => U.heap.size = sz ∧ va_P (dC, dI) vwCl (List.flatten [(wMO qO k widthO manyO cellsO movedO tapeO (qLi 0) (qHa 0) (qBr 0) (qCa 0) (qWa 0) (qFr 0) (qAc 0) (qIk 0) loadNowO byNowO rowO memoryO whoseO deepNowO brokenByO brokenAtO goesByO comesToO sagMoreO creakOfO wipedByO deepAtO sagAtO loadAtO orderRowO oftenO lossOneO lossOtherO vO tO mO gO), (wmLi qLi k aLi), (wmHa qHa k hHa), (wmBr qBr k aBr), (wmCa qCa k pCa), (wmWa qWa k jWa), (wmFr qFr k aFr), (wmAc qAc k iAc), (wmIk qIk k aIk)] ++ List.flatten ([] : List va_W)) U.heap ∧ va_K (dC, dI) vwCl (tK k) U ∧ va_D (fun _ => True) (List.flatten [(wMO qO k widthO manyO cellsO movedO tapeO (qLi 0) (qHa 0) (qBr 0) (qCa 0) (qWa 0) (qFr 0) (qAc 0) (qIk 0) loadNowO byNowO rowO memoryO whoseO deepNowO brokenByO brokenAtO goesByO comesToO sagMoreO creakOfO wipedByO deepAtO sagAtO loadAtO orderRowO oftenO lossOneO lossOtherO vO tO mO gO), (wmLi qLi k aLi), (wmHa qHa k hHa), (wmBr qBr k aBr), (wmCa qCa k pCa), (wmWa qWa k jWa), (wmFr qFr k aFr), (wmAc qAc k iAc), (wmIk qIk k aIk)] ++ List.flatten ([] : List va_W)))) (va_Qi (fun (r : Int32) (_ : Unit) => ((0 ≤ p1.toInt ∧ p1.toInt ≤ 2 ∧ r.toInt = 0) ∨ ((p1.toInt < 0 ∨ 2 < p1.toInt) ∧ r.toInt = (-2)))) (fun (_ : Unit) (t : State) => ∃ (vO' : Nat → Int32) (tO' : Nat → Int32) (mO' : Nat → Int32) (gO' : Nat → Int64) (aLi' : Nat → Nat → Int32) (hHa' : Nat → Nat → Int32) (aBr' : Nat → Nat → Int32) (pCa' : Nat → Nat → Int32) (jWa' : Nat → Nat → Int32) (aFr' : Nat → Nat → Int32) (iAc' : Nat → Nat → Int32) (aIk' : Nat → Nat → Int32), Rg 0 700 tO' ∧ Rg (-1) 127 mO' ∧ Pa_h hHa' ∧ Pa_p pCa' ∧ Pa_j jWa' ∧ Pa_i iAc' ∧ va_P (dC, dI) vwCl (List.flatten [(wMO qO k widthO manyO cellsO movedO tapeO (qLi 0) (qHa 0) (qBr 0) (qCa 0) (qWa 0) (qFr 0) (qAc 0) (qIk 0) loadNowO byNowO rowO memoryO whoseO deepNowO brokenByO brokenAtO goesByO comesToO sagMoreO creakOfO wipedByO deepAtO sagAtO loadAtO orderRowO oftenO lossOneO lossOtherO vO' tO' mO' gO'), (wmLi qLi k aLi'), (wmHa qHa k hHa'), (wmBr qBr k aBr'), (wmCa qCa k pCa'), (wmWa qWa k jWa'), (wmFr qFr k aFr'), (wmAc qAc k iAc'), (wmIk qIk k aIk')] ++ List.flatten ([] : List va_W)) t.heap) (va_A (List.flatten [(wMO qO k widthO manyO cellsO movedO tapeO (qLi 0) (qHa 0) (qBr 0) (qCa 0) (qWa 0) (qFr 0) (qAc 0) (qIk 0) loadNowO byNowO rowO memoryO whoseO deepNowO brokenByO brokenAtO goesByO comesToO sagMoreO creakOfO wipedByO deepAtO sagAtO loadAtO orderRowO oftenO lossOneO lossOtherO vO tO mO gO), (wmLi qLi k aLi), (wmHa qHa k hHa), (wmBr qBr k aBr), (wmCa qCa k pCa), (wmWa qWa k jWa), (wmFr qFr k aFr), (wmAc qAc k iAc), (wmIk qIk k aIk)] ++ List.flatten ([] : List va_W)) sz)) 0 0 (va_A (List.flatten [(wMO qO k widthO manyO cellsO movedO tapeO (qLi 0) (qHa 0) (qBr 0) (qCa 0) (qWa 0) (qFr 0) (qAc 0) (qIk 0) loadNowO byNowO rowO memoryO whoseO deepNowO brokenByO brokenAtO goesByO comesToO sagMoreO creakOfO wipedByO deepAtO sagAtO loadAtO orderRowO oftenO lossOneO lossOtherO vO tO mO gO), (wmLi qLi k aLi), (wmHa qHa k hHa), (wmBr qBr k aBr), (wmCa qCa k pCa), (wmWa qWa k jWa), (wmFr qFr k aFr), (wmAc qAc k iAc), (wmIk qIk k aIk)] ++ List.flatten ([] : List va_W)) sz) := by
  refine Met.ofW (cc := cX12_image) (maxL := 2) (ret := (some .int)) (by decide) rfl ?_
  intro p e s m args below meth c s₁ B hml hv
  obtain ⟨rfl, hsz, hP, hK, hD0⟩ := hv
  have hx := B.exec
  have hb := B.bytes
  have hr := B.returns
  have hts := atoms_spec (ws := wk_c_X12_image_x) B.pre
  have hown : s.vm.findClass RX12 = some m.cls := findClass_of_methodNamed B.named
  have hlocks := B.notSynchronized
  subst hsz
  have hD := hD0.self (sz := s.heap.size)
  generalize hAe : va_A (List.flatten [(wMO qO k widthO manyO cellsO movedO tapeO (qLi 0) (qHa 0) (qBr 0) (qCa 0) (qWa 0) (qFr 0) (qAc 0) (qIk 0) loadNowO byNowO rowO memoryO whoseO deepNowO brokenByO brokenAtO goesByO comesToO sagMoreO creakOfO wipedByO deepAtO sagAtO loadAtO orderRowO oftenO lossOneO lossOtherO vO tO mO gO), (wmLi qLi k aLi), (wmHa qHa k hHa), (wmBr qBr k aBr), (wmCa qCa k pCa), (wmWa qWa k jWa), (wmFr qFr k aFr), (wmAc qAc k iAc), (wmIk qIk k aIk)] ++ List.flatten ([] : List va_W)) s.heap.size = A at hD ⊢
  have hA : ∀ q : Nat, s.heap.size ≤ q → A q := fun q h => by rw [← hAe]; exact Or.inr h
  have hS : va_S A s.heap s.heap [] := va_S.rf
  have hP : va_P (dC, dI) vwCl (List.flatten [(wMO qO k widthO manyO cellsO movedO tapeO (qLi 0) (qHa 0) (qBr 0) (qCa 0) (qWa 0) (qFr 0) (qAc 0) (qIk 0) loadNowO byNowO rowO memoryO whoseO deepNowO brokenByO brokenAtO goesByO comesToO sagMoreO creakOfO wipedByO deepAtO sagAtO loadAtO orderRowO oftenO lossOneO lossOtherO vO tO mO gO), (wmLi qLi k aLi), (wmHa qHa k hHa), (wmBr qBr k aBr), (wmCa qCa k pCa), (wmWa qWa k jWa), (wmFr qFr k aFr), (wmAc qAc k iAc), (wmIk qIk k aIk)] ++ List.flatten ([] : List va_W)) s.heap := hP
  have hl := lv_entry ([.ref (qO 0), .int p1]) (n := 2) (Nat.le_of_ble_eq_true rfl)
  rw [lg_entry_eq]
  generalize (lg_sl ([.ref (qO 0), .int p1]) ++ List.replicate (2 - (lg_sl ([.ref (qO 0), .int p1])).length) Slot.unset).toArray = ls at hl ⊢
  have hl : lv_has ls 2 [(0, .ref (qO 0)), (1, .int p1)] := hl
  refine w_gen (fun Q hQ => ?_)
  refine lv_aload_n hx hb dX12_image_0 rfl (lv_at hl 0 rfl) ?_
  refine lv_iconst (v := 0) hx hb dX12_image_1 (by decide) ?_
  refine va_put (D := (dC, dI)) (ci := 12) (v := .int 0) (ty := .int) (C := RX12) (T := TX12) (N := 59) hx hb hts (fun w h => List.mem_cons_of_mem _ (List.mem_append_right _ (List.mem_append_left _ h))) tyX12 tyX12_ok nmX12 hown hK hP hD hS 0 rfl rfl 0 (by decide) (hts (.fieldLink RX12 116 "SagMemoryModel" "thrown" "I") (wl_mem 0 rfl)) (fun _ h9 => h9) rfl (by decide +kernel) rfl rfl (Nat.le_of_ble_eq_true rfl) dX12_image_2 (fun H locs hP hD hS => ?_)
  have hP : va_P (dC, dI) vwCl (List.flatten [(wMO qO k widthO manyO cellsO movedO tapeO (qLi 0) (qHa 0) (qBr 0) (qCa 0) (qWa 0) (qFr 0) (qAc 0) (qIk 0) loadNowO byNowO rowO memoryO whoseO deepNowO brokenByO brokenAtO goesByO comesToO sagMoreO creakOfO wipedByO deepAtO sagAtO loadAtO orderRowO oftenO lossOneO lossOtherO (va_up vO 0 (0 : Int32)) tO mO gO), (wmLi qLi k aLi), (wmHa qHa k hHa), (wmBr qBr k aBr), (wmCa qCa k pCa), (wmWa qWa k jWa), (wmFr qFr k aFr), (wmAc qAc k iAc), (wmIk qIk k aIk)] ++ List.flatten ([] : List va_W)) H := hP
  have hD : va_D A (List.flatten [(wMO qO k widthO manyO cellsO movedO tapeO (qLi 0) (qHa 0) (qBr 0) (qCa 0) (qWa 0) (qFr 0) (qAc 0) (qIk 0) loadNowO byNowO rowO memoryO whoseO deepNowO brokenByO brokenAtO goesByO comesToO sagMoreO creakOfO wipedByO deepAtO sagAtO loadAtO orderRowO oftenO lossOneO lossOtherO (va_up vO 0 (0 : Int32)) tO mO gO), (wmLi qLi k aLi), (wmHa qHa k hHa), (wmBr qBr k aBr), (wmCa qCa k pCa), (wmWa qWa k jWa), (wmFr qFr k aFr), (wmAc qAc k iAc), (wmIk qIk k aIk)] ++ List.flatten ([] : List va_W)) := hD
  refine lv_iload_n hx hb dX12_image_5 rfl (lv_at hl 1 rfl) ?_
  refine lv_i2l hx hb dX12_image_6 rfl ?_
  refine lv_lconst (v := 0) hx hb dX12_image_7 (by decide) ?_
  refine lv_ldc2 (v := 2) hx hb hown (hts (.constantLong RX12 345 (2)) (wl_mem 1 rfl)) dX12_image_8 ?_
  have hPc : va_P (dC, dI) vwCl (List.flatten ([] : List va_W)) H := fun k q h => by simp at h
  refine vp_callSi (va_Run.run (va_runS (As := [.long p1.toInt64, .long 0, .long 2]) (rest := []) ⟨hx, hb, hml, hown, hts⟩ (c_X12_in l dC dI k p1.toInt64 (0 : Int64) (2 : Int64)) (va_cwS 3 hts (gk_S (wl_mem 2 rfl) (wl_mem 3 rfl) (wl_mem 4 rfl) (fun w h => List.mem_cons_of_mem _ (List.mem_append_right _ (List.mem_append_right _ (List.mem_append_left _ h)))) wkg_c_X12_in) rfl rfl rfl (by decide +kernel) ⟨Nat.le_of_ble_eq_true rfl, Nat.le_of_ble_eq_true rfl⟩) ⟨fun a U g mk q => by obtain ⟨q0, qP, qK⟩ := q; exact ⟨q0, qP, va_K.moved (u := U) (U := U.calling g mk a) (Vm.Alike.refl U.vm) qK⟩, fun U hU hW => ⟨rfl, by rw [hU]; exact hPc, va_K.moved hW.alike hK⟩⟩ rfl rfl hl.1 rfl (lv_room (Nat.le_of_ble_eq_true rfl)) dX12_image_11 ⟨Nat.le_of_ble_eq_true rfl, Nat.le_of_ble_eq_true rfl⟩)) (fun rz2 gz1 => ?_)
  clear hPc
  rcases gz1 with ⟨er, cz3⟩ | ⟨er, cz4, cz5⟩ | ⟨er, cz6, cz7⟩
  · obtain rfl := er.symm
    have zz8 : p1.toInt < (0 : Int) := by have h9 := zi_ltL.mp cz3; simp only [Int32.toInt_toInt64] at h9; exact h9
    refine lv_if_ne (tgt := 20) hx hb dX12_image_14 (by decide) (fun cz9 => ?_) (fun cz9 => ?_)
    · skip
      exact absurd cz9 (by decide)
    · skip
      refine lv_bipush (v := (-2)) hx hb dX12_image_17 (by decide) ?_
      rw [hQ]
      exact W.iret (v := (-2 : Int32)) hx hb hr (fun t ht hW => ⟨⟨(-2 : Int32), (), rfl, (by show (0 ≤ p1.toInt ∧ p1.toInt ≤ 2 ∧ (-2 : Int) = 0) ∨ ((p1.toInt < 0 ∨ 2 < p1.toInt) ∧ (-2 : Int) = (-2)); omega), (va_up vO 0 (0 : Int32)), tO, mO, gO, aLi, hHa, aBr, pCa, jWa, aFr, iAc, aIk, htO, hmO, hhHa, hpCa, hjWa, hiAc, by rw [ht]; exact hP⟩, hS.F ht⟩) hS.2.2 dX12_image_19
  · obtain rfl := er.symm
    have zz10 : ¬ p1.toInt < (0 : Int) := by intro h9; apply cz4; rw [zi_ltL]; simp only [Int32.toInt_toInt64]; exact h9
    have zz11 : (2 : Int) < p1.toInt := by have h9 := zi_ltL.mp cz5; simp only [Int32.toInt_toInt64] at h9; exact h9
    refine lv_if_ne (tgt := 20) hx hb dX12_image_14 (by decide) (fun cz12 => ?_) (fun cz12 => ?_)
    · skip
      exact absurd cz12 (by decide)
    · skip
      refine lv_bipush (v := (-2)) hx hb dX12_image_17 (by decide) ?_
      rw [hQ]
      exact W.iret (v := (-2 : Int32)) hx hb hr (fun t ht hW => ⟨⟨(-2 : Int32), (), rfl, (by show (0 ≤ p1.toInt ∧ p1.toInt ≤ 2 ∧ (-2 : Int) = 0) ∨ ((p1.toInt < 0 ∨ 2 < p1.toInt) ∧ (-2 : Int) = (-2)); omega), (va_up vO 0 (0 : Int32)), tO, mO, gO, aLi, hHa, aBr, pCa, jWa, aFr, iAc, aIk, htO, hmO, hhHa, hpCa, hjWa, hiAc, by rw [ht]; exact hP⟩, hS.F ht⟩) hS.2.2 dX12_image_19
  · obtain rfl := er.symm
    have zz13 : ¬ p1.toInt < (0 : Int) := by intro h9; apply cz6; rw [zi_ltL]; simp only [Int32.toInt_toInt64]; exact h9
    have zz14 : ¬ (2 : Int) < p1.toInt := by intro h9; apply cz7; rw [zi_ltL]; simp only [Int32.toInt_toInt64]; exact h9
    refine lv_if_ne (tgt := 20) hx hb dX12_image_14 (by decide) (fun cz15 => ?_) (fun cz15 => ?_)
    · skip
      refine lv_aload_n hx hb dX12_image_20 rfl (lv_at hl 0 rfl) ?_
      refine lv_iconst (v := 0) hx hb dX12_image_21 (by decide) ?_
      refine lv_iconst (v := 1) hx hb dX12_image_22 (by decide) ?_
      refine lv_iload_n hx hb dX12_image_23 rfl (lv_at hl 1 rfl) ?_
      refine lv_iadd hx hb dX12_image_24 ?_
      refine lv_topi (fun xz16 exz16 => ?_)
      have fxz16 : xz16.toInt = (1 : Int) + p1.toInt := by rw [exz16]; exact fb_addI (x := (1 : Int32)) (y := p1) (by show -2147483648 ≤ (1 : Int) + p1.toInt; omega) (by show (1 : Int) + p1.toInt < 2147483648; omega)
      have hPc := hP.sub (ws' := (List.flatten [(wmLi qLi k aLi), (wmHa qHa k hHa), (wmBr qBr k aBr), (wmCa qCa k pCa), (wmWa qWa k jWa), (wmFr qFr k aFr), (wmAc qAc k iAc)] ++ List.flatten [(wMO qO k widthO manyO cellsO movedO tapeO (qLi 0) (qHa 0) (qBr 0) (qCa 0) (qWa 0) (qFr 0) (qAc 0) (qIk 0) loadNowO byNowO rowO memoryO whoseO deepNowO brokenByO brokenAtO goesByO comesToO sagMoreO creakOfO wipedByO deepAtO sagAtO loadAtO orderRowO oftenO lossOneO lossOtherO (va_up vO 0 (0 : Int32)) tO mO gO)])) [1, 2, 3, 4, 5, 6, 7, 0] rfl
      have hC : [1, 2, 3, 4, 5, 6, 7, 0].map (fun i => (List.flatten [(wMO qO k widthO manyO cellsO movedO tapeO (qLi 0) (qHa 0) (qBr 0) (qCa 0) (qWa 0) (qFr 0) (qAc 0) (qIk 0) loadNowO byNowO rowO memoryO whoseO deepNowO brokenByO brokenAtO goesByO comesToO sagMoreO creakOfO wipedByO deepAtO sagAtO loadAtO orderRowO oftenO lossOneO lossOtherO (va_up vO 0 (0 : Int32)) tO mO gO), (wmLi qLi k aLi), (wmHa qHa k hHa), (wmBr qBr k aBr), (wmCa qCa k pCa), (wmWa qWa k jWa), (wmFr qFr k aFr), (wmAc qAc k iAc), (wmIk qIk k aIk)] ++ List.flatten ([] : List va_W))[i]?) = (List.flatten [(wmLi qLi k aLi), (wmHa qHa k hHa), (wmBr qBr k aBr), (wmCa qCa k pCa), (wmWa qWa k jWa), (wmFr qFr k aFr), (wmAc qAc k iAc)] ++ List.flatten [(wMO qO k widthO manyO cellsO movedO tapeO (qLi 0) (qHa 0) (qBr 0) (qCa 0) (qWa 0) (qFr 0) (qAc 0) (qIk 0) loadNowO byNowO rowO memoryO whoseO deepNowO brokenByO brokenAtO goesByO comesToO sagMoreO creakOfO wipedByO deepAtO sagAtO loadAtO orderRowO oftenO lossOneO lossOtherO (va_up vO 0 (0 : Int32)) tO mO gO)]).map some := rfl
      have hDc := hD.sub [1, 2, 3, 4, 5, 6, 7, 0] (by decide) hC
      have hFc := va_free hD hS hA [1, 2, 3, 4, 5, 6, 7, 0] hC
      refine va_callv (va_runV (As := [.int 0, .int xz16]) (rest := []) ⟨hx, hb, hml, hown, hts⟩ (c_X12_copyValley l dC dI k H.size qO widthO manyO cellsO movedO tapeO (qIk 0) loadNowO byNowO rowO memoryO whoseO deepNowO brokenByO brokenAtO goesByO comesToO sagMoreO creakOfO wipedByO deepAtO sagAtO loadAtO orderRowO oftenO lossOneO lossOtherO (va_up vO 0 (0 : Int32)) tO mO gO qLi aLi qHa hHa qBr aBr qCa pCa qWa jWa qFr aFr qAc iAc (0 : Int32) xz16 htO hmO hhHa hpCa hjWa hiAc (by show 0 ≤ (0 : Int) ∧ (0 : Int) ≤ 4; omega) (by show 0 ≤ xz16.toInt ∧ xz16.toInt ≤ 4; omega)) (cwV 2 hts (gk_V (wl_mem 5 rfl) (wl_mem 6 rfl) (wl_mem 7 rfl) (wl_mem 4 rfl) (fun w h => List.mem_cons_of_mem _ (List.mem_append_right _ (List.mem_append_right _ (List.mem_append_right _ (List.mem_append_left _ h))))) wkg_c_X12_copyValley) rfl rfl rfl (by decide +kernel) ⟨Nat.le_of_ble_eq_true rfl, Nat.le_of_ble_eq_true rfl⟩) ⟨fun a U g mk q => by obtain ⟨q0, q1, qP, qK, qD⟩ := q; exact ⟨q0, q1, qP, va_K.moved (u := U) (U := U.calling g mk a) (Vm.Alike.refl U.vm) qK, qD⟩, va_recv hK hPc (ci := 12) (q0 := 7) rfl rfl, fun U hU hW => ⟨rfl, by rw [hU], by rw [hU]; exact hPc, va_K.moved hW.alike hK, hDc.weaken (fun _ _ _ _ => trivial)⟩⟩ rfl rfl hl.1 rfl (lv_room (Nat.le_of_ble_eq_true rfl)) dX12_image_25 ⟨Nat.le_of_ble_eq_true rfl, Nat.le_of_ble_eq_true rfl⟩) hS (fun q _ h => hFc q h) hFc (fun u t H1 locs ht hvm gz17 hB hz1 hk1 hS => ?_)
      obtain ⟨az19, hz20, az21, pz22, jz23, az24, iz25, hhz20, hpz22, hjz23, hiz25, hP1⟩ := hB
      rw [ht] at hP1
      obtain ⟨hP, hD⟩ := w_callR hP hD hk1 hP1 [1, 2, 3, 4, 5, 6, 7] rfl rfl (wk_memC [0] rfl) rfl [none, some 0, some 1, some 2, some 3, some 4, some 5, some 6, none] rfl rfl
      clear hPc hC hDc hFc hk1 hP1
      generalize H1 = H at hP hS ⊢
      have hP : va_P (dC, dI) vwCl (List.flatten [(wMO qO k widthO manyO cellsO movedO tapeO (qLi 0) (qHa 0) (qBr 0) (qCa 0) (qWa 0) (qFr 0) (qAc 0) (qIk 0) loadNowO byNowO rowO memoryO whoseO deepNowO brokenByO brokenAtO goesByO comesToO sagMoreO creakOfO wipedByO deepAtO sagAtO loadAtO orderRowO oftenO lossOneO lossOtherO (va_up vO 0 (0 : Int32)) tO mO gO), (wmLi qLi k az19), (wmHa qHa k hz20), (wmBr qBr k az21), (wmCa qCa k pz22), (wmWa qWa k jz23), (wmFr qFr k az24), (wmAc qAc k iz25), (wmIk qIk k aIk)] ++ List.flatten ([] : List va_W)) H := hP
      have hD : va_D A (List.flatten [(wMO qO k widthO manyO cellsO movedO tapeO (qLi 0) (qHa 0) (qBr 0) (qCa 0) (qWa 0) (qFr 0) (qAc 0) (qIk 0) loadNowO byNowO rowO memoryO whoseO deepNowO brokenByO brokenAtO goesByO comesToO sagMoreO creakOfO wipedByO deepAtO sagAtO loadAtO orderRowO oftenO lossOneO lossOtherO (va_up vO 0 (0 : Int32)) tO mO gO), (wmLi qLi k az19), (wmHa qHa k hz20), (wmBr qBr k az21), (wmCa qCa k pz22), (wmWa qWa k jz23), (wmFr qFr k az24), (wmAc qAc k iz25), (wmIk qIk k aIk)] ++ List.flatten ([] : List va_W)) := hD
      refine W.widen (k := 0) (n := 0) (Nat.le_refl 0) (Nat.le_refl 0) ?_
      refine lv_aload_n hx hb dX12_image_28 rfl (lv_at hl 0 rfl) ?_
      refine va_get (D := (dC, dI)) (ci := 12) (v := .ref (qIk 0)) (C := RX12) (T := TX12) (N := 59) hx hb hts (fun w h => List.mem_cons_of_mem _ (List.mem_append_right _ (List.mem_append_left _ h))) hown hK hP 0 rfl rfl 23 (by decide) (hts (.fieldLink RX12 52 "SagMemoryModel" "isKept" "[Z") (wl_mem 8 rfl)) (fun _ h9 => h9) rfl dX12_image_29 ?_
      refine lv_iload_n hx hb dX12_image_32 rfl (lv_at hl 1 rfl) ?_
      refine lv_iconst (v := 1) hx hb dX12_image_33 (by decide) ?_
      refine va_zast hx hb hK hP hD hS 8 3 rfl rfl (vp_in_iff.mpr ⟨by omega, by omega⟩) dX12_image_34 (fun H locs hP hD hS => ?_)
      obtain ⟨fz26, efz26, hP, hD⟩ : ∃ fz26 : Nat → Int32, fz26 = upd (aIk 0) p1.toNatClampNeg (vp_nar .boolean (1 : Int32)) ∧ va_P (dC, dI) vwCl (List.flatten [(wMO qO k widthO manyO cellsO movedO tapeO (qLi 0) (qHa 0) (qBr 0) (qCa 0) (qWa 0) (qFr 0) (qAc 0) (qIk 0) loadNowO byNowO rowO memoryO whoseO deepNowO brokenByO brokenAtO goesByO comesToO sagMoreO creakOfO wipedByO deepAtO sagAtO loadAtO orderRowO oftenO lossOneO lossOtherO (va_up vO 0 (0 : Int32)) tO mO gO), (wmLi qLi k az19), (wmHa qHa k hz20), (wmBr qBr k az21), (wmCa qCa k pz22), (wmWa qWa k jz23), (wmFr qFr k az24), (wmAc qAc k iz25), (wmIk qIk k (va_up aIk 0 fz26))] ++ List.flatten ([] : List va_W)) H ∧ va_D A (List.flatten [(wMO qO k widthO manyO cellsO movedO tapeO (qLi 0) (qHa 0) (qBr 0) (qCa 0) (qWa 0) (qFr 0) (qAc 0) (qIk 0) loadNowO byNowO rowO memoryO whoseO deepNowO brokenByO brokenAtO goesByO comesToO sagMoreO creakOfO wipedByO deepAtO sagAtO loadAtO orderRowO oftenO lossOneO lossOtherO (va_up vO 0 (0 : Int32)) tO mO gO), (wmLi qLi k az19), (wmHa qHa k hz20), (wmBr qBr k az21), (wmCa qCa k pz22), (wmWa qWa k jz23), (wmFr qFr k az24), (wmAc qAc k iz25), (wmIk qIk k (va_up aIk 0 fz26))] ++ List.flatten ([] : List va_W)) := ⟨_, rfl, hP, hD⟩
      refine lv_iconst (v := 0) hx hb dX12_image_35 (by decide) ?_
      rw [hQ]
      exact W.iret (v := (0 : Int32)) hx hb hr (fun t ht hW => ⟨⟨(0 : Int32), (), rfl, (by show (0 ≤ p1.toInt ∧ p1.toInt ≤ 2 ∧ (0 : Int) = 0) ∨ ((p1.toInt < 0 ∨ 2 < p1.toInt) ∧ (0 : Int) = (-2)); omega), (va_up vO 0 (0 : Int32)), tO, mO, gO, az19, hz20, az21, pz22, jz23, az24, iz25, (va_up aIk 0 fz26), htO, hmO, hhz20, hpz22, hjz23, hiz25, by rw [ht]; exact hP⟩, hS.F ht⟩) hS.2.2 dX12_image_36
    · skip
      exact absurd cz15 (by decide)
def wk_c_X12_row_x : List Cond := .code yX12_row cX12_row 5 (some .int) :: ([.fieldLink RX12 116 "SagMemoryModel" "thrown" "I", .methodLink RX12 125 yX12_isSlot, .static yX12_isSlot, .initialized RX12, .constantLong RX12 119 (3), .methodLink RX12 121 yX12_in, .static yX12_in, .fieldLink RX12 7 "SagMemoryModel" "width" "[I", .fieldLink RX12 13 "SagMemoryModel" "many" "[I", .fieldLink RX12 16 "SagMemoryModel" "cells" "[J"] ++ (wsX120 ++ (wk_c_X12_isSlot ++ (wk_c_X12_in ++ []))))
theorem wkg_c_X12_row_x : wk_c_X12_row_x.all goodWord = true := by decide +kernel
set_option maxHeartbeats 4000000 in
set_option maxRecDepth 100000 in
theorem c_X12_row_x (l : Launch) (dC : Nat → ClassId) (dI : Nat → Nat → Nat) (k : Nat → ClassId) (sz : Nat) (qO : Nat → Nat) (movedO : Nat) (tapeO : Nat) (linesO : Nat) (hasO : Nat) (bridgeO : Nat) (cartO : Nat) (wardO : Nat) (frostAtO : Nat) (actO : Nat) (isKeptO : Nat) (loadNowO : Nat) (byNowO : Nat) (rowO : Nat) (memoryO : Nat) (whoseO : Nat) (deepNowO : Nat) (brokenByO : Nat) (brokenAtO : Nat) (goesByO : Nat) (comesToO : Nat) (sagMoreO : Nat) (creakOfO : Nat) (wipedByO : Nat) (deepAtO : Nat) (sagAtO : Nat) (loadAtO : Nat) (orderRowO : Nat) (oftenO : Nat) (lossOneO : Nat) (lossOtherO : Nat) (vO : Nat → Int32) (tO : Nat → Int32) (mO : Nat → Int32) (gO : Nat → Int64) (qWi : Nat → Nat) (aWi : Nat → Nat → Int32) (qMy : Nat → Nat) (zMy : Nat → Nat → Int32) (qCe : Nat → Nat) (lCe : Nat → Nat → Int64) (p1 : Int32) (p2 : Int32) (p3 : Int32) (htO : Rg 0 700 tO) (hmO : Rg (-1) 127 mO) (hzMy : RgA 0 60 zMy) : Met l yX12_row wk_c_X12_row_x ({ frames := 2, cells := 0, slots := 0, locals := 45 }) (va_Pc [.ref (qO 0), .int p1, .int p2, .int p3] (fun U => U.heap.size = sz ∧ va_P (dC, dI) vwCl (List.flatten [(wMO qO k (qWi 0) (qMy 0) (qCe 0) movedO tapeO linesO hasO bridgeO cartO wardO frostAtO actO isKeptO loadNowO byNowO rowO memoryO whoseO deepNowO brokenByO brokenAtO goesByO comesToO sagMoreO creakOfO wipedByO deepAtO sagAtO loadAtO orderRowO oftenO lossOneO lossOtherO vO tO mO gO), (wmWi qWi k aWi), (wmMy qMy k zMy), (wmCe qCe k lCe)] ++ List.flatten ([] : List va_W)) U.heap ∧ va_K (dC, dI) vwCl (tK k) U ∧ va_D (fun _ => True) (List.flatten [(wMO qO k (qWi 0) (qMy 0) (qCe 0) movedO tapeO linesO hasO bridgeO cartO wardO frostAtO actO isKeptO loadNowO byNowO rowO memoryO whoseO deepNowO brokenByO brokenAtO goesByO comesToO sagMoreO creakOfO wipedByO deepAtO sagAtO loadAtO orderRowO oftenO lossOneO lossOtherO vO tO mO gO), (wmWi qWi k aWi), (wmMy qMy k zMy), (wmCe qCe k lCe)] ++ List.flatten ([] : List va_W)))) (va_Qi (fun (r : Int32) (_ : Unit) => (((p1.toInt < 0 ∨ 3 < p1.toInt ∨ p2.toInt < 0 ∨ 3 < p2.toInt ∨ 60 < p3.toInt) ∧ r.toInt = (-2)) ∨ (¬ (p1.toInt < 0 ∨ 3 < p1.toInt ∨ p2.toInt < 0 ∨ 3 < p2.toInt ∨ 60 < p3.toInt) ∧ p3.toInt < 0 ∧ r.toInt = (-3)) ∨ (¬ (p1.toInt < 0 ∨ 3 < p1.toInt ∨ p2.toInt < 0 ∨ 3 < p2.toInt ∨ 60 < p3.toInt) ∧ 0 ≤ p3.toInt ∧ r.toInt = 0))) (fun (_ : Unit) (t : State) => ∃ (vO' : Nat → Int32) (tO' : Nat → Int32) (mO' : Nat → Int32) (gO' : Nat → Int64) (aWi' : Nat → Nat → Int32) (zMy' : Nat → Nat → Int32) (lCe' : Nat → Nat → Int64), Rg 0 700 tO' ∧ Rg (-1) 127 mO' ∧ RgA 0 60 zMy' ∧ va_P (dC, dI) vwCl (List.flatten [(wMO qO k (qWi 0) (qMy 0) (qCe 0) movedO tapeO linesO hasO bridgeO cartO wardO frostAtO actO isKeptO loadNowO byNowO rowO memoryO whoseO deepNowO brokenByO brokenAtO goesByO comesToO sagMoreO creakOfO wipedByO deepAtO sagAtO loadAtO orderRowO oftenO lossOneO lossOtherO vO' tO' mO' gO'), (wmWi qWi k aWi'), (wmMy qMy k zMy'), (wmCe qCe k lCe')] ++ List.flatten ([] : List va_W)) t.heap) (va_A (List.flatten [(wMO qO k (qWi 0) (qMy 0) (qCe 0) movedO tapeO linesO hasO bridgeO cartO wardO frostAtO actO isKeptO loadNowO byNowO rowO memoryO whoseO deepNowO brokenByO brokenAtO goesByO comesToO sagMoreO creakOfO wipedByO deepAtO sagAtO loadAtO orderRowO oftenO lossOneO lossOtherO vO tO mO gO), (wmWi qWi k aWi), (wmMy qMy k zMy), (wmCe qCe k lCe)] ++ List.flatten ([] : List va_W)) sz)) 0 0 (va_A (List.flatten [(wMO qO k (qWi 0) (qMy 0) (qCe 0) movedO tapeO linesO hasO bridgeO cartO wardO frostAtO actO isKeptO loadNowO byNowO rowO memoryO whoseO deepNowO brokenByO brokenAtO goesByO comesToO sagMoreO creakOfO wipedByO deepAtO sagAtO loadAtO orderRowO oftenO lossOneO lossOtherO vO tO mO gO), (wmWi qWi k aWi), (wmMy qMy k zMy), (wmCe qCe k lCe)] ++ List.flatten ([] : List va_W)) sz) := by
  refine Met.ofW (cc := cX12_row) (maxL := 5) (ret := (some .int)) (by decide) rfl ?_
  intro p e s m args below meth c s₁ B hml hv
  obtain ⟨rfl, hsz, hP, hK, hD0⟩ := hv
  have hx := B.exec
  have hb := B.bytes
  have hr := B.returns
  have hts := atoms_spec (ws := wk_c_X12_row_x) B.pre
  have hown : s.vm.findClass RX12 = some m.cls := findClass_of_methodNamed B.named
  have hlocks := B.notSynchronized
  subst hsz
  have hD := hD0.self (sz := s.heap.size)
  generalize hAe : va_A (List.flatten [(wMO qO k (qWi 0) (qMy 0) (qCe 0) movedO tapeO linesO hasO bridgeO cartO wardO frostAtO actO isKeptO loadNowO byNowO rowO memoryO whoseO deepNowO brokenByO brokenAtO goesByO comesToO sagMoreO creakOfO wipedByO deepAtO sagAtO loadAtO orderRowO oftenO lossOneO lossOtherO vO tO mO gO), (wmWi qWi k aWi), (wmMy qMy k zMy), (wmCe qCe k lCe)] ++ List.flatten ([] : List va_W)) s.heap.size = A at hD ⊢
  have hA : ∀ q : Nat, s.heap.size ≤ q → A q := fun q h => by rw [← hAe]; exact Or.inr h
  have hS : va_S A s.heap s.heap [] := va_S.rf
  have hP : va_P (dC, dI) vwCl (List.flatten [(wMO qO k (qWi 0) (qMy 0) (qCe 0) movedO tapeO linesO hasO bridgeO cartO wardO frostAtO actO isKeptO loadNowO byNowO rowO memoryO whoseO deepNowO brokenByO brokenAtO goesByO comesToO sagMoreO creakOfO wipedByO deepAtO sagAtO loadAtO orderRowO oftenO lossOneO lossOtherO vO tO mO gO), (wmWi qWi k aWi), (wmMy qMy k zMy), (wmCe qCe k lCe)] ++ List.flatten ([] : List va_W)) s.heap := hP
  have hl := lv_entry ([.ref (qO 0), .int p1, .int p2, .int p3]) (n := 5) (Nat.le_of_ble_eq_true rfl)
  rw [lg_entry_eq]
  generalize (lg_sl ([.ref (qO 0), .int p1, .int p2, .int p3]) ++ List.replicate (5 - (lg_sl ([.ref (qO 0), .int p1, .int p2, .int p3])).length) Slot.unset).toArray = ls at hl ⊢
  have hl : lv_has ls 5 [(0, .ref (qO 0)), (1, .int p1), (2, .int p2), (3, .int p3)] := hl
  refine w_gen (fun Q hQ => ?_)
  refine lv_aload_n hx hb dX12_row_0 rfl (lv_at hl 0 rfl) ?_
  refine lv_iconst (v := 0) hx hb dX12_row_1 (by decide) ?_
  refine va_put (D := (dC, dI)) (ci := 12) (v := .int 0) (ty := .int) (C := RX12) (T := TX12) (N := 59) hx hb hts (fun w h => List.mem_cons_of_mem _ (List.mem_append_right _ (List.mem_append_left _ h))) tyX12 tyX12_ok nmX12 hown hK hP hD hS 0 rfl rfl 0 (by decide) (hts (.fieldLink RX12 116 "SagMemoryModel" "thrown" "I") (wl_mem 0 rfl)) (fun _ h9 => h9) rfl (by decide +kernel) rfl rfl (Nat.le_of_ble_eq_true rfl) dX12_row_2 (fun H locs hP hD hS => ?_)
  have hP : va_P (dC, dI) vwCl (List.flatten [(wMO qO k (qWi 0) (qMy 0) (qCe 0) movedO tapeO linesO hasO bridgeO cartO wardO frostAtO actO isKeptO loadNowO byNowO rowO memoryO whoseO deepNowO brokenByO brokenAtO goesByO comesToO sagMoreO creakOfO wipedByO deepAtO sagAtO loadAtO orderRowO oftenO lossOneO lossOtherO (va_up vO 0 (0 : Int32)) tO mO gO), (wmWi qWi k aWi), (wmMy qMy k zMy), (wmCe qCe k lCe)] ++ List.flatten ([] : List va_W)) H := hP
  have hD : va_D A (List.flatten [(wMO qO k (qWi 0) (qMy 0) (qCe 0) movedO tapeO linesO hasO bridgeO cartO wardO frostAtO actO isKeptO loadNowO byNowO rowO memoryO whoseO deepNowO brokenByO brokenAtO goesByO comesToO sagMoreO creakOfO wipedByO deepAtO sagAtO loadAtO orderRowO oftenO lossOneO lossOtherO (va_up vO 0 (0 : Int32)) tO mO gO), (wmWi qWi k aWi), (wmMy qMy k zMy), (wmCe qCe k lCe)] ++ List.flatten ([] : List va_W)) := hD
  refine lv_iload_n hx hb dX12_row_5 rfl (lv_at hl 1 rfl) ?_
  have hPc : va_P (dC, dI) vwCl (List.flatten ([] : List va_W)) H := fun k q h => by simp at h
  refine vp_callSi (va_Run.run (va_runS (As := [.int p1]) (rest := []) ⟨hx, hb, hml, hown, hts⟩ (c_X12_isSlot l dC dI k p1) (va_cwS 1 hts (gk_S (wl_mem 1 rfl) (wl_mem 2 rfl) (wl_mem 3 rfl) (fun w h => List.mem_cons_of_mem _ (List.mem_append_right _ (List.mem_append_right _ (List.mem_append_left _ h)))) wkg_c_X12_isSlot) rfl rfl rfl (by decide +kernel) ⟨Nat.le_of_ble_eq_true rfl, Nat.le_of_ble_eq_true rfl⟩) ⟨fun a U g mk q => by obtain ⟨q0, qP, qK⟩ := q; exact ⟨q0, qP, va_K.moved (u := U) (U := U.calling g mk a) (Vm.Alike.refl U.vm) qK⟩, fun U hU hW => ⟨rfl, by rw [hU]; exact hPc, va_K.moved hW.alike hK⟩⟩ rfl rfl hl.1 rfl (lv_room (Nat.le_of_ble_eq_true rfl)) dX12_row_6 ⟨Nat.le_of_ble_eq_true rfl, Nat.le_of_ble_eq_true rfl⟩)) (fun rz2 gz1 => ?_)
  clear hPc
  rcases gz1 with ⟨er, cz3⟩ | ⟨er, cz4, cz5⟩ | ⟨er, cz6, cz7⟩
  · obtain rfl := er.symm
    have zz8 : p1.toInt < (0 : Int) := by have h9 := zi_ltL.mp cz3; simp only [Int32.toInt_toInt64] at h9; exact h9
    refine lv_if_eq (tgt := 30) hx hb dX12_row_9 (by decide) (fun cz9 => ?_) (fun cz9 => ?_)
    · skip
      refine lv_bipush (v := (-2)) hx hb dX12_row_30 (by decide) ?_
      rw [hQ]
      exact W.iret (v := (-2 : Int32)) hx hb hr (fun t ht hW => ⟨⟨(-2 : Int32), (), rfl, (by show ((p1.toInt < 0 ∨ 3 < p1.toInt ∨ p2.toInt < 0 ∨ 3 < p2.toInt ∨ 60 < p3.toInt) ∧ (-2 : Int) = (-2)) ∨ (¬ (p1.toInt < 0 ∨ 3 < p1.toInt ∨ p2.toInt < 0 ∨ 3 < p2.toInt ∨ 60 < p3.toInt) ∧ p3.toInt < 0 ∧ (-2 : Int) = (-3)) ∨ (¬ (p1.toInt < 0 ∨ 3 < p1.toInt ∨ p2.toInt < 0 ∨ 3 < p2.toInt ∨ 60 < p3.toInt) ∧ 0 ≤ p3.toInt ∧ (-2 : Int) = 0); omega), (va_up vO 0 (0 : Int32)), tO, mO, gO, aWi, zMy, lCe, htO, hmO, hzMy, by rw [ht]; exact hP⟩, hS.F ht⟩) hS.2.2 dX12_row_32
    · skip
      exact absurd cz9 (by decide)
  · obtain rfl := er.symm
    have zz10 : ¬ p1.toInt < (0 : Int) := by intro h9; apply cz4; rw [zi_ltL]; simp only [Int32.toInt_toInt64]; exact h9
    have zz11 : (3 : Int) < p1.toInt := by have h9 := zi_ltL.mp cz5; simp only [Int32.toInt_toInt64] at h9; exact h9
    refine lv_if_eq (tgt := 30) hx hb dX12_row_9 (by decide) (fun cz12 => ?_) (fun cz12 => ?_)
    · skip
      refine lv_bipush (v := (-2)) hx hb dX12_row_30 (by decide) ?_
      rw [hQ]
      exact W.iret (v := (-2 : Int32)) hx hb hr (fun t ht hW => ⟨⟨(-2 : Int32), (), rfl, (by show ((p1.toInt < 0 ∨ 3 < p1.toInt ∨ p2.toInt < 0 ∨ 3 < p2.toInt ∨ 60 < p3.toInt) ∧ (-2 : Int) = (-2)) ∨ (¬ (p1.toInt < 0 ∨ 3 < p1.toInt ∨ p2.toInt < 0 ∨ 3 < p2.toInt ∨ 60 < p3.toInt) ∧ p3.toInt < 0 ∧ (-2 : Int) = (-3)) ∨ (¬ (p1.toInt < 0 ∨ 3 < p1.toInt ∨ p2.toInt < 0 ∨ 3 < p2.toInt ∨ 60 < p3.toInt) ∧ 0 ≤ p3.toInt ∧ (-2 : Int) = 0); omega), (va_up vO 0 (0 : Int32)), tO, mO, gO, aWi, zMy, lCe, htO, hmO, hzMy, by rw [ht]; exact hP⟩, hS.F ht⟩) hS.2.2 dX12_row_32
    · skip
      exact absurd cz12 (by decide)
  · obtain rfl := er.symm
    have zz13 : ¬ p1.toInt < (0 : Int) := by intro h9; apply cz6; rw [zi_ltL]; simp only [Int32.toInt_toInt64]; exact h9
    have zz14 : ¬ (3 : Int) < p1.toInt := by intro h9; apply cz7; rw [zi_ltL]; simp only [Int32.toInt_toInt64]; exact h9
    refine lv_if_eq (tgt := 30) hx hb dX12_row_9 (by decide) (fun cz15 => ?_) (fun cz15 => ?_)
    · skip
      exact absurd cz15 (by decide)
    · skip
      refine lv_iload_n hx hb dX12_row_12 rfl (lv_at hl 2 rfl) ?_
      refine lv_i2l hx hb dX12_row_13 rfl ?_
      refine lv_lconst (v := 0) hx hb dX12_row_14 (by decide) ?_
      refine lv_ldc2 (v := 3) hx hb hown (hts (.constantLong RX12 119 (3)) (wl_mem 4 rfl)) dX12_row_15 ?_
      have hPc : va_P (dC, dI) vwCl (List.flatten ([] : List va_W)) H := fun k q h => by simp at h
      refine vp_callSi (va_Run.run (va_runS (As := [.long p2.toInt64, .long 0, .long 3]) (rest := []) ⟨hx, hb, hml, hown, hts⟩ (c_X12_in l dC dI k p2.toInt64 (0 : Int64) (3 : Int64)) (va_cwS 3 hts (gk_S (wl_mem 5 rfl) (wl_mem 6 rfl) (wl_mem 3 rfl) (fun w h => List.mem_cons_of_mem _ (List.mem_append_right _ (List.mem_append_right _ (List.mem_append_right _ (List.mem_append_left _ h))))) wkg_c_X12_in) rfl rfl rfl (by decide +kernel) ⟨Nat.le_of_ble_eq_true rfl, Nat.le_of_ble_eq_true rfl⟩) ⟨fun a U g mk q => by obtain ⟨q0, qP, qK⟩ := q; exact ⟨q0, qP, va_K.moved (u := U) (U := U.calling g mk a) (Vm.Alike.refl U.vm) qK⟩, fun U hU hW => ⟨rfl, by rw [hU]; exact hPc, va_K.moved hW.alike hK⟩⟩ rfl rfl hl.1 rfl (lv_room (Nat.le_of_ble_eq_true rfl)) dX12_row_18 ⟨Nat.le_of_ble_eq_true rfl, Nat.le_of_ble_eq_true rfl⟩)) (fun rz17 gz16 => ?_)
      clear hPc
      rcases gz16 with ⟨er, cz18⟩ | ⟨er, cz19, cz20⟩ | ⟨er, cz21, cz22⟩
      · obtain rfl := er.symm
        have zz23 : p2.toInt < (0 : Int) := by have h9 := zi_ltL.mp cz18; simp only [Int32.toInt_toInt64] at h9; exact h9
        refine lv_if_eq (tgt := 30) hx hb dX12_row_21 (by decide) (fun cz24 => ?_) (fun cz24 => ?_)
        · skip
          refine lv_bipush (v := (-2)) hx hb dX12_row_30 (by decide) ?_
          rw [hQ]
          exact W.iret (v := (-2 : Int32)) hx hb hr (fun t ht hW => ⟨⟨(-2 : Int32), (), rfl, (by show ((p1.toInt < 0 ∨ 3 < p1.toInt ∨ p2.toInt < 0 ∨ 3 < p2.toInt ∨ 60 < p3.toInt) ∧ (-2 : Int) = (-2)) ∨ (¬ (p1.toInt < 0 ∨ 3 < p1.toInt ∨ p2.toInt < 0 ∨ 3 < p2.toInt ∨ 60 < p3.toInt) ∧ p3.toInt < 0 ∧ (-2 : Int) = (-3)) ∨ (¬ (p1.toInt < 0 ∨ 3 < p1.toInt ∨ p2.toInt < 0 ∨ 3 < p2.toInt ∨ 60 < p3.toInt) ∧ 0 ≤ p3.toInt ∧ (-2 : Int) = 0); omega), (va_up vO 0 (0 : Int32)), tO, mO, gO, aWi, zMy, lCe, htO, hmO, hzMy, by rw [ht]; exact hP⟩, hS.F ht⟩) hS.2.2 dX12_row_32
        · skip
          exact absurd cz24 (by decide)
      · obtain rfl := er.symm
        have zz25 : ¬ p2.toInt < (0 : Int) := by intro h9; apply cz19; rw [zi_ltL]; simp only [Int32.toInt_toInt64]; exact h9
        have zz26 : (3 : Int) < p2.toInt := by have h9 := zi_ltL.mp cz20; simp only [Int32.toInt_toInt64] at h9; exact h9
        refine lv_if_eq (tgt := 30) hx hb dX12_row_21 (by decide) (fun cz27 => ?_) (fun cz27 => ?_)
        · skip
          refine lv_bipush (v := (-2)) hx hb dX12_row_30 (by decide) ?_
          rw [hQ]
          exact W.iret (v := (-2 : Int32)) hx hb hr (fun t ht hW => ⟨⟨(-2 : Int32), (), rfl, (by show ((p1.toInt < 0 ∨ 3 < p1.toInt ∨ p2.toInt < 0 ∨ 3 < p2.toInt ∨ 60 < p3.toInt) ∧ (-2 : Int) = (-2)) ∨ (¬ (p1.toInt < 0 ∨ 3 < p1.toInt ∨ p2.toInt < 0 ∨ 3 < p2.toInt ∨ 60 < p3.toInt) ∧ p3.toInt < 0 ∧ (-2 : Int) = (-3)) ∨ (¬ (p1.toInt < 0 ∨ 3 < p1.toInt ∨ p2.toInt < 0 ∨ 3 < p2.toInt ∨ 60 < p3.toInt) ∧ 0 ≤ p3.toInt ∧ (-2 : Int) = 0); omega), (va_up vO 0 (0 : Int32)), tO, mO, gO, aWi, zMy, lCe, htO, hmO, hzMy, by rw [ht]; exact hP⟩, hS.F ht⟩) hS.2.2 dX12_row_32
        · skip
          exact absurd cz27 (by decide)
      · obtain rfl := er.symm
        have zz28 : ¬ p2.toInt < (0 : Int) := by intro h9; apply cz21; rw [zi_ltL]; simp only [Int32.toInt_toInt64]; exact h9
        have zz29 : ¬ (3 : Int) < p2.toInt := by intro h9; apply cz22; rw [zi_ltL]; simp only [Int32.toInt_toInt64]; exact h9
        refine lv_if_eq (tgt := 30) hx hb dX12_row_21 (by decide) (fun cz30 => ?_) (fun cz30 => ?_)
        · skip
          exact absurd cz30 (by decide)
        · skip
          refine lv_iload_n hx hb dX12_row_24 rfl (lv_at hl 3 rfl) ?_
          refine lv_bipush (v := 60) hx hb dX12_row_25 (by decide) ?_
          refine lv_icmp_le (tgt := 33) hx hb dX12_row_27 (by decide) (fun cz31 => ?_) (fun cz31 => ?_)
          · skip
            have bz32 := fb_rng p3
            have zz33 : p3.toInt ≤ (60 : Int) := zi_le.mp cz31
            refine lv_iload_n hx hb dX12_row_33 rfl (lv_at hl 3 rfl) ?_
            refine lv_if_ge (tgt := 40) hx hb dX12_row_34 (by decide) (fun cz34 => ?_) (fun cz34 => ?_)
            · skip
              have zz35 : (0 : Int) ≤ p3.toInt := zi_le.mp cz34
              refine lv_aload_n hx hb dX12_row_40 rfl (lv_at hl 0 rfl) ?_
              refine va_get (D := (dC, dI)) (ci := 12) (v := .ref (qWi 0)) (C := RX12) (T := TX12) (N := 59) hx hb hts (fun w h => List.mem_cons_of_mem _ (List.mem_append_right _ (List.mem_append_left _ h))) hown hK hP 0 rfl rfl 1 (by decide) (hts (.fieldLink RX12 7 "SagMemoryModel" "width" "[I") (wl_mem 7 rfl)) (fun _ h9 => h9) rfl dX12_row_41 ?_
              refine lv_iload_n hx hb dX12_row_44 rfl (lv_at hl 1 rfl) ?_
              refine lv_iload_n hx hb dX12_row_45 rfl (lv_at hl 2 rfl) ?_
              refine va_iast hx hb hK hP hD hS 1 0 rfl rfl (vp_in_iff.mpr ⟨by omega, by omega⟩) dX12_row_46 (fun H locs hP hD hS => ?_)
              obtain ⟨fz36, efz36, hP, hD⟩ : ∃ fz36 : Nat → Int32, fz36 = upd (aWi 0) p1.toNatClampNeg p2 ∧ va_P (dC, dI) vwCl (List.flatten [(wMO qO k (qWi 0) (qMy 0) (qCe 0) movedO tapeO linesO hasO bridgeO cartO wardO frostAtO actO isKeptO loadNowO byNowO rowO memoryO whoseO deepNowO brokenByO brokenAtO goesByO comesToO sagMoreO creakOfO wipedByO deepAtO sagAtO loadAtO orderRowO oftenO lossOneO lossOtherO (va_up vO 0 (0 : Int32)) tO mO gO), (wmWi qWi k (va_up aWi 0 fz36)), (wmMy qMy k zMy), (wmCe qCe k lCe)] ++ List.flatten ([] : List va_W)) H ∧ va_D A (List.flatten [(wMO qO k (qWi 0) (qMy 0) (qCe 0) movedO tapeO linesO hasO bridgeO cartO wardO frostAtO actO isKeptO loadNowO byNowO rowO memoryO whoseO deepNowO brokenByO brokenAtO goesByO comesToO sagMoreO creakOfO wipedByO deepAtO sagAtO loadAtO orderRowO oftenO lossOneO lossOtherO (va_up vO 0 (0 : Int32)) tO mO gO), (wmWi qWi k (va_up aWi 0 fz36)), (wmMy qMy k zMy), (wmCe qCe k lCe)] ++ List.flatten ([] : List va_W)) := ⟨_, rfl, hP, hD⟩
              have kfz36 : fz36 p1.toNatClampNeg = p2 := by rw [efz36]; exact pk_us
              refine lv_aload_n hx hb dX12_row_47 rfl (lv_at hl 0 rfl) ?_
              refine va_get (D := (dC, dI)) (ci := 12) (v := .ref (qMy 0)) (C := RX12) (T := TX12) (N := 59) hx hb hts (fun w h => List.mem_cons_of_mem _ (List.mem_append_right _ (List.mem_append_left _ h))) hown hK hP 0 rfl rfl 2 (by decide) (hts (.fieldLink RX12 13 "SagMemoryModel" "many" "[I") (wl_mem 8 rfl)) (fun _ h9 => h9) rfl dX12_row_48 ?_
              refine lv_iload_n hx hb dX12_row_51 rfl (lv_at hl 1 rfl) ?_
              refine lv_iload_n hx hb dX12_row_52 rfl (lv_at hl 3 rfl) ?_
              refine va_iast hx hb hK hP hD hS 2 0 rfl rfl (vp_in_iff.mpr ⟨by omega, by omega⟩) dX12_row_53 (fun H locs hP hD hS => ?_)
              obtain ⟨fz37, efz37, hP, hD⟩ : ∃ fz37 : Nat → Int32, fz37 = upd (zMy 0) p1.toNatClampNeg p3 ∧ va_P (dC, dI) vwCl (List.flatten [(wMO qO k (qWi 0) (qMy 0) (qCe 0) movedO tapeO linesO hasO bridgeO cartO wardO frostAtO actO isKeptO loadNowO byNowO rowO memoryO whoseO deepNowO brokenByO brokenAtO goesByO comesToO sagMoreO creakOfO wipedByO deepAtO sagAtO loadAtO orderRowO oftenO lossOneO lossOtherO (va_up vO 0 (0 : Int32)) tO mO gO), (wmWi qWi k (va_up aWi 0 fz36)), (wmMy qMy k (va_up zMy 0 fz37)), (wmCe qCe k lCe)] ++ List.flatten ([] : List va_W)) H ∧ va_D A (List.flatten [(wMO qO k (qWi 0) (qMy 0) (qCe 0) movedO tapeO linesO hasO bridgeO cartO wardO frostAtO actO isKeptO loadNowO byNowO rowO memoryO whoseO deepNowO brokenByO brokenAtO goesByO comesToO sagMoreO creakOfO wipedByO deepAtO sagAtO loadAtO orderRowO oftenO lossOneO lossOtherO (va_up vO 0 (0 : Int32)) tO mO gO), (wmWi qWi k (va_up aWi 0 fz36)), (wmMy qMy k (va_up zMy 0 fz37)), (wmCe qCe k lCe)] ++ List.flatten ([] : List va_W)) := ⟨_, rfl, hP, hD⟩
              have hfz37 : Rg 0 60 fz37 := by rw [efz37]; exact rg_upd (hzMy 0) (by show 0 ≤ p3.toInt ∧ p3.toInt ≤ 60; omega)
              have kfz37 : fz37 p1.toNatClampNeg = p3 := by rw [efz37]; exact pk_us
              refine lv_iconst (v := 0) hx hb dX12_row_54 (by decide) ?_
              refine lv_istore (lv' := [(4, .int 0), (0, .ref (qO 0)), (1, .int p1), (2, .int p2), (3, .int p3)]) hx hb dX12_row_55 hl (by decide) rfl (fun ls hl => ?_)
              have lp57_kz57 : ∀ (n9_57 : Nat) (H : Heap) (locs : List Loc) (ls : Array Slot) (lz55 : Nat → Nat → Int64) (xz56 : Int32), (2147483647 - xz56.toInt).toNat < n9_57 → 0 ≤ xz56.toInt → va_P (dC, dI) vwCl (List.flatten [(wMO qO k (qWi 0) (qMy 0) (qCe 0) movedO tapeO linesO hasO bridgeO cartO wardO frostAtO actO isKeptO loadNowO byNowO rowO memoryO whoseO deepNowO brokenByO brokenAtO goesByO comesToO sagMoreO creakOfO wipedByO deepAtO sagAtO loadAtO orderRowO oftenO lossOneO lossOtherO (va_up vO 0 (0 : Int32)) tO mO gO), (wmWi qWi k (va_up aWi 0 fz36)), (wmMy qMy k (va_up zMy 0 fz37)), (wmCe qCe k lz55)] ++ List.flatten ([] : List va_W)) H → va_D A (List.flatten [(wMO qO k (qWi 0) (qMy 0) (qCe 0) movedO tapeO linesO hasO bridgeO cartO wardO frostAtO actO isKeptO loadNowO byNowO rowO memoryO whoseO deepNowO brokenByO brokenAtO goesByO comesToO sagMoreO creakOfO wipedByO deepAtO sagAtO loadAtO orderRowO oftenO lossOneO lossOtherO (va_up vO 0 (0 : Int32)) tO mO gO), (wmWi qWi k (va_up aWi 0 fz36)), (wmMy qMy k (va_up zMy 0 fz37)), (wmCe qCe k lz55)] ++ List.flatten ([] : List va_W)) → va_S A s.heap H locs → lv_has ls 5 [(0, .ref (qO 0)), (1, .int p1), (3, .int p3), (4, .int xz56)] → W p l e (headSpec wk_c_X12_row_x ({ frames := 2, cells := 0, slots := 0, locals := 45 })).room s m ([.ref (qO 0), .int p1, .int p2, .int p3] : List Value).toArray below meth c H locs 0 0 Q (F0 m 57 ls []) := by
                intro n9_57
                induction n9_57 with
                | zero => intro H locs ls lz55 xz56 hm; exact absurd hm (Nat.not_lt_zero _)
                | succ n9_57 ih57 =>
                  intro H locs ls lz55 xz56 hm57 jz58 hP hD hS hl
                  refine lv_iload hx hb dX12_row_57 (lv_at hl 3 rfl) ?_
                  refine lv_iload_n hx hb dX12_row_59 rfl (lv_at hl 2 rfl) ?_
                  refine lv_icmp_ge (tgt := 82) hx hb dX12_row_60 (by decide) (fun cz59 => ?_) (fun cz59 => ?_)
                  · skip
                    have bz60 := fb_rng xz56
                    have zz61 : p3.toInt ≤ xz56.toInt := zi_le.mp cz59
                    refine lv_iconst (v := 0) hx hb dX12_row_82 (by decide) ?_
                    rw [hQ]
                    exact W.iret (v := (0 : Int32)) hx hb hr (fun t ht hW => ⟨⟨(0 : Int32), (), rfl, (by show ((p1.toInt < 0 ∨ 3 < p1.toInt ∨ p2.toInt < 0 ∨ 3 < p2.toInt ∨ 60 < p3.toInt) ∧ (0 : Int) = (-2)) ∨ (¬ (p1.toInt < 0 ∨ 3 < p1.toInt ∨ p2.toInt < 0 ∨ 3 < p2.toInt ∨ 60 < p3.toInt) ∧ p3.toInt < 0 ∧ (0 : Int) = (-3)) ∨ (¬ (p1.toInt < 0 ∨ 3 < p1.toInt ∨ p2.toInt < 0 ∨ 3 < p2.toInt ∨ 60 < p3.toInt) ∧ 0 ≤ p3.toInt ∧ (0 : Int) = 0); omega), (va_up vO 0 (0 : Int32)), tO, mO, gO, (va_up aWi 0 fz36), (va_up zMy 0 fz37), lz55, htO, hmO, (rga_up hzMy hfz37), by rw [ht]; exact hP⟩, hS.F ht⟩) hS.2.2 dX12_row_83
                  · skip
                    have bz62 := fb_rng xz56
                    have zz63 : ¬ p3.toInt ≤ xz56.toInt := fun h9 => cz59 (zi_le.mpr h9)
                    refine lv_aload_n hx hb dX12_row_63 rfl (lv_at hl 0 rfl) ?_
                    refine va_get (D := (dC, dI)) (ci := 12) (v := .ref (qCe 0)) (C := RX12) (T := TX12) (N := 59) hx hb hts (fun w h => List.mem_cons_of_mem _ (List.mem_append_right _ (List.mem_append_left _ h))) hown hK hP 0 rfl rfl 3 (by decide) (hts (.fieldLink RX12 16 "SagMemoryModel" "cells" "[J") (wl_mem 9 rfl)) (fun _ h9 => h9) rfl dX12_row_64 ?_
                    refine lv_bipush (v := 60) hx hb dX12_row_67 (by decide) ?_
                    refine lv_iload_n hx hb dX12_row_69 rfl (lv_at hl 1 rfl) ?_
                    refine lv_imul hx hb dX12_row_70 ?_
                    refine lv_topi (fun xz64 exz64 => ?_)
                    have fxz64 : xz64.toInt = (60 : Int) * p1.toInt := by rw [exz64]; exact fb_mulI (x := (60 : Int32)) (y := p1) (by show -2147483648 ≤ (60 : Int) * p1.toInt; omega) (by show (60 : Int) * p1.toInt < 2147483648; omega)
                    refine lv_iload hx hb dX12_row_71 (lv_at hl 3 rfl) ?_
                    refine lv_iadd hx hb dX12_row_73 ?_
                    refine lv_topi (fun xz65 exz65 => ?_)
                    have fxz65 : xz65.toInt = xz64.toInt + xz56.toInt := by rw [exz65]; exact fb_addI (x := xz64) (y := xz56) (by show -2147483648 ≤ xz64.toInt + xz56.toInt; omega) (by show xz64.toInt + xz56.toInt < 2147483648; omega)
                    refine lv_lconst (v := 0) hx hb dX12_row_74 (by decide) ?_
                    refine va_last hx hb hK hP hD hS 3 1 rfl rfl (vp_in_iff.mpr ⟨by omega, by omega⟩) dX12_row_75 (fun H locs hP hD hS => ?_)
                    obtain ⟨fz66, efz66, hP, hD⟩ : ∃ fz66 : Nat → Int64, fz66 = vp_updL (lz55 0) xz65.toNatClampNeg (0 : Int64) ∧ va_P (dC, dI) vwCl (List.flatten [(wMO qO k (qWi 0) (qMy 0) (qCe 0) movedO tapeO linesO hasO bridgeO cartO wardO frostAtO actO isKeptO loadNowO byNowO rowO memoryO whoseO deepNowO brokenByO brokenAtO goesByO comesToO sagMoreO creakOfO wipedByO deepAtO sagAtO loadAtO orderRowO oftenO lossOneO lossOtherO (va_up vO 0 (0 : Int32)) tO mO gO), (wmWi qWi k (va_up aWi 0 fz36)), (wmMy qMy k (va_up zMy 0 fz37)), (wmCe qCe k (va_up lz55 0 fz66))] ++ List.flatten ([] : List va_W)) H ∧ va_D A (List.flatten [(wMO qO k (qWi 0) (qMy 0) (qCe 0) movedO tapeO linesO hasO bridgeO cartO wardO frostAtO actO isKeptO loadNowO byNowO rowO memoryO whoseO deepNowO brokenByO brokenAtO goesByO comesToO sagMoreO creakOfO wipedByO deepAtO sagAtO loadAtO orderRowO oftenO lossOneO lossOtherO (va_up vO 0 (0 : Int32)) tO mO gO), (wmWi qWi k (va_up aWi 0 fz36)), (wmMy qMy k (va_up zMy 0 fz37)), (wmCe qCe k (va_up lz55 0 fz66))] ++ List.flatten ([] : List va_W)) := ⟨_, rfl, hP, hD⟩
                    have kfz66 : fz66 xz65.toNatClampNeg = (0 : Int64) := by rw [efz66]; exact pk_uLs
                    obtain ⟨xz67, exz67⟩ : ∃ y : Int32, y = xz56 + Int32.ofInt (1) := ⟨_, rfl⟩
                    have fxz67 : xz67.toInt = xz56.toInt + (1) := by rw [exz67]; exact fb_addI (y := Int32.ofInt (1)) (by show -2147483648 ≤ xz56.toInt + (1); omega) (by show xz56.toInt + (1) < 2147483648; omega)
                    refine lv_iinc (v := xz67) (lv' := [(4, .int xz67), (0, .ref (qO 0)), (1, .int p1), (3, .int p3)]) hx hb dX12_row_76 hl (k := 3) rfl exz67.symm (by decide) rfl (fun ls hl => ?_)
                    refine lv_goto (tgt := 57) hx hb dX12_row_79 (by decide) ?_
                    exact ih57 H locs ls (va_up lz55 0 fz66) xz67 (by show (2147483647 - xz67.toInt).toNat < n9_57; omega) (by show 0 ≤ xz67.toInt; omega) hP hD hS (lv_sub hl [1, 2, 3, 0] rfl)
              exact lp57_kz57 _ H locs ls lCe (0 : Int32) (Nat.lt_succ_self _) (by show 0 ≤ (0 : Int); omega) hP hD hS (lv_sub hl [1, 2, 4, 0] rfl)
            · skip
              have zz68 : ¬ (0 : Int) ≤ p3.toInt := fun h9 => cz34 (zi_le.mpr h9)
              refine lv_bipush (v := (-3)) hx hb dX12_row_37 (by decide) ?_
              rw [hQ]
              exact W.iret (v := (-3 : Int32)) hx hb hr (fun t ht hW => ⟨⟨(-3 : Int32), (), rfl, (by show ((p1.toInt < 0 ∨ 3 < p1.toInt ∨ p2.toInt < 0 ∨ 3 < p2.toInt ∨ 60 < p3.toInt) ∧ (-3 : Int) = (-2)) ∨ (¬ (p1.toInt < 0 ∨ 3 < p1.toInt ∨ p2.toInt < 0 ∨ 3 < p2.toInt ∨ 60 < p3.toInt) ∧ p3.toInt < 0 ∧ (-3 : Int) = (-3)) ∨ (¬ (p1.toInt < 0 ∨ 3 < p1.toInt ∨ p2.toInt < 0 ∨ 3 < p2.toInt ∨ 60 < p3.toInt) ∧ 0 ≤ p3.toInt ∧ (-3 : Int) = 0); omega), (va_up vO 0 (0 : Int32)), tO, mO, gO, aWi, zMy, lCe, htO, hmO, hzMy, by rw [ht]; exact hP⟩, hS.F ht⟩) hS.2.2 dX12_row_39
          · skip
            have bz69 := fb_rng p3
            have zz70 : ¬ p3.toInt ≤ (60 : Int) := fun h9 => cz31 (zi_le.mpr h9)
            refine lv_bipush (v := (-2)) hx hb dX12_row_30 (by decide) ?_
            rw [hQ]
            exact W.iret (v := (-2 : Int32)) hx hb hr (fun t ht hW => ⟨⟨(-2 : Int32), (), rfl, (by show ((p1.toInt < 0 ∨ 3 < p1.toInt ∨ p2.toInt < 0 ∨ 3 < p2.toInt ∨ 60 < p3.toInt) ∧ (-2 : Int) = (-2)) ∨ (¬ (p1.toInt < 0 ∨ 3 < p1.toInt ∨ p2.toInt < 0 ∨ 3 < p2.toInt ∨ 60 < p3.toInt) ∧ p3.toInt < 0 ∧ (-2 : Int) = (-3)) ∨ (¬ (p1.toInt < 0 ∨ 3 < p1.toInt ∨ p2.toInt < 0 ∨ 3 < p2.toInt ∨ 60 < p3.toInt) ∧ 0 ≤ p3.toInt ∧ (-2 : Int) = 0); omega), (va_up vO 0 (0 : Int32)), tO, mO, gO, aWi, zMy, lCe, htO, hmO, hzMy, by rw [ht]; exact hP⟩, hS.F ht⟩) hS.2.2 dX12_row_32
