def wk_c_X11_fewest : List Cond := .code yX11_fewest cX11_fewest 4 (some .int) :: ([.methodLink RX11 267 yX11_seekSets, .instanceMethod yX11_seekSets, .selects RX11 yX11_seekSets yX11_seekSets, .initialized RX11, .fieldLink RX11 65 "SagMemory" "setSearch" "LSagMemory$Sets;", .fieldLink RX11 281 "SagMemory$Sets" "smallest" "I"] ++ (wk_c_X11_seekSets ++ (wsX110 ++ (wsX50 ++ []))))
theorem wkg_c_X11_fewest : wk_c_X11_fewest.all goodWord = true := by decide +kernel
set_option maxHeartbeats 4000000 in
set_option maxRecDepth 100000 in
theorem c_X11_fewest (l : Launch) (dC : Nat → ClassId) (dI : Nat → Nat → Nat) (k : Nat → ClassId) (sz : Nat) (qX : Nat → Nat) (tapeX : Nat) (actsX : Nat) (nowX : Nat) (trialX : Nat) (storyX : Nat) (attemptX : Nat) (orderSearchX : Nat) (routeSearchX : Nat) (image0X : Nat) (image1X : Nat) (image2X : Nat) (aX : Nat → Nat → Int32) (qV : Nat → Nat) (vV : Nat → Int32) (bV : Nat → Int32) (cV : Nat → Int32) (wV : Nat → Int32) (aV : Nat → Nat → Int32) (eV : Nat → Nat → Int32) (qE : Nat → Nat) (vE : Nat → Int32) (cE : Nat → Int32) (aE : Nat → Nat → Int32) (qM : Nat → Nat) (nM : Nat → Int32) (aM : Nat → Nat → Int32) (qL0 : Nat → Nat) (vL0 : Nat → Int32) (sL0 : Nat → Int32) (lL0 : Nat → Nat → Int64) (qL1 : Nat → Nat) (vL1 : Nat → Int32) (sL1 : Nat → Int32) (lL1 : Nat → Nat → Int64) (qL2 : Nat → Nat) (vL2 : Nat → Int32) (sL2 : Nat → Int32) (lL2 : Nat → Nat → Int64) (qL3 : Nat → Nat) (vL3 : Nat → Int32) (sL3 : Nat → Int32) (lL3 : Nat → Nat → Int64) (p1 : Int32) (p2 : Int32) (hbV : Rg 0 3 bV) (hcV : Rg 0 7 cV) (hwV : Rg 0 5 wV) (heV : RgA 0 99 eV) (hcE : Rg 0 7 cE) (hnM : Rg 0 8 nM) (hsL0 : Rg 0 60 sL0) (hsL1 : Rg 0 60 sL1) (hsL2 : Rg 0 60 sL2) (hsL3 : Rg 0 60 sL3) : Met l yX11_fewest wk_c_X11_fewest ({ frames := 4, cells := 0, slots := 0, locals := 91 }) (va_Pc [.ref (qX 0), .int p1, .int p2] (fun U => U.heap.size = sz ∧ va_P (dC, dI) vwCl (List.flatten [(wSets qE k vE cE aE), (wMem qM k nM aM)] ++ List.flatten [(wSag qX k tapeX (qV 0) actsX nowX trialX storyX attemptX orderSearchX routeSearchX (qE 0) (qM 0) (qL0 0) (qL1 0) (qL2 0) (qL3 0) image0X image1X image2X aX), (wValley qV k vV bV cV wV aV eV), (wSlot qL0 k vL0 sL0 lL0), (wSlot qL1 k vL1 sL1 lL1), (wSlot qL2 k vL2 sL2 lL2), (wSlot qL3 k vL3 sL3 lL3)]) U.heap ∧ va_K (dC, dI) vwCl (tK k) U ∧ va_D (fun _ => True) (List.flatten [(wSets qE k vE cE aE), (wMem qM k nM aM)] ++ List.flatten [(wSag qX k tapeX (qV 0) actsX nowX trialX storyX attemptX orderSearchX routeSearchX (qE 0) (qM 0) (qL0 0) (qL1 0) (qL2 0) (qL3 0) image0X image1X image2X aX), (wValley qV k vV bV cV wV aV eV), (wSlot qL0 k vL0 sL0 lL0), (wSlot qL1 k vL1 sL1 lL1), (wSlot qL2 k vL2 sL2 lL2), (wSlot qL3 k vL3 sL3 lL3)]))) (va_Qi (fun (r : Int32) (_ : Unit) => True) (fun (_ : Unit) (t : State) => ∃ (vE' : Nat → Int32) (cE' : Nat → Int32) (aE' : Nat → Nat → Int32) (nM' : Nat → Int32) (aM' : Nat → Nat → Int32), Rg 0 7 cE' ∧ Rg 0 8 nM' ∧ va_P (dC, dI) vwCl (List.flatten [(wSets qE k vE' cE' aE'), (wMem qM k nM' aM')] ++ List.flatten [(wSag qX k tapeX (qV 0) actsX nowX trialX storyX attemptX orderSearchX routeSearchX (qE 0) (qM 0) (qL0 0) (qL1 0) (qL2 0) (qL3 0) image0X image1X image2X aX), (wValley qV k vV bV cV wV aV eV), (wSlot qL0 k vL0 sL0 lL0), (wSlot qL1 k vL1 sL1 lL1), (wSlot qL2 k vL2 sL2 lL2), (wSlot qL3 k vL3 sL3 lL3)]) t.heap) (va_A (List.flatten [(wSets qE k vE cE aE), (wMem qM k nM aM)] ++ List.flatten [(wSag qX k tapeX (qV 0) actsX nowX trialX storyX attemptX orderSearchX routeSearchX (qE 0) (qM 0) (qL0 0) (qL1 0) (qL2 0) (qL3 0) image0X image1X image2X aX), (wValley qV k vV bV cV wV aV eV), (wSlot qL0 k vL0 sL0 lL0), (wSlot qL1 k vL1 sL1 lL1), (wSlot qL2 k vL2 sL2 lL2), (wSlot qL3 k vL3 sL3 lL3)]) sz)) 0 0 (va_A (List.flatten [(wSets qE k vE cE aE), (wMem qM k nM aM)] ++ List.flatten [(wSag qX k tapeX (qV 0) actsX nowX trialX storyX attemptX orderSearchX routeSearchX (qE 0) (qM 0) (qL0 0) (qL1 0) (qL2 0) (qL3 0) image0X image1X image2X aX), (wValley qV k vV bV cV wV aV eV), (wSlot qL0 k vL0 sL0 lL0), (wSlot qL1 k vL1 sL1 lL1), (wSlot qL2 k vL2 sL2 lL2), (wSlot qL3 k vL3 sL3 lL3)]) sz) := by
  refine Met.ofW (cc := cX11_fewest) (maxL := 4) (ret := (some .int)) (by decide) rfl ?_
  intro p e s m args below meth c s₁ B hml hv
  obtain ⟨rfl, hsz, hP, hK, hD0⟩ := hv
  have hx := B.exec
  have hb := B.bytes
  have hr := B.returns
  have hts := atoms_spec (ws := wk_c_X11_fewest) B.pre
  have hown : s.vm.findClass RX11 = some m.cls := findClass_of_methodNamed B.named
  have hlocks := B.notSynchronized
  subst hsz
  have hD := hD0.self (sz := s.heap.size)
  generalize hAe : va_A (List.flatten [(wSets qE k vE cE aE), (wMem qM k nM aM)] ++ List.flatten [(wSag qX k tapeX (qV 0) actsX nowX trialX storyX attemptX orderSearchX routeSearchX (qE 0) (qM 0) (qL0 0) (qL1 0) (qL2 0) (qL3 0) image0X image1X image2X aX), (wValley qV k vV bV cV wV aV eV), (wSlot qL0 k vL0 sL0 lL0), (wSlot qL1 k vL1 sL1 lL1), (wSlot qL2 k vL2 sL2 lL2), (wSlot qL3 k vL3 sL3 lL3)]) s.heap.size = A at hD ⊢
  have hA : ∀ q : Nat, s.heap.size ≤ q → A q := fun q h => by rw [← hAe]; exact Or.inr h
  have hS : va_S A s.heap s.heap [] := va_S.rf
  have hP : va_P (dC, dI) vwCl (List.flatten [(wSets qE k vE cE aE), (wMem qM k nM aM)] ++ List.flatten [(wSag qX k tapeX (qV 0) actsX nowX trialX storyX attemptX orderSearchX routeSearchX (qE 0) (qM 0) (qL0 0) (qL1 0) (qL2 0) (qL3 0) image0X image1X image2X aX), (wValley qV k vV bV cV wV aV eV), (wSlot qL0 k vL0 sL0 lL0), (wSlot qL1 k vL1 sL1 lL1), (wSlot qL2 k vL2 sL2 lL2), (wSlot qL3 k vL3 sL3 lL3)]) s.heap := hP
  have hl := lv_entry ([.ref (qX 0), .int p1, .int p2]) (n := 4) (Nat.le_of_ble_eq_true rfl)
  rw [lg_entry_eq]
  generalize (lg_sl ([.ref (qX 0), .int p1, .int p2]) ++ List.replicate (4 - (lg_sl ([.ref (qX 0), .int p1, .int p2])).length) Slot.unset).toArray = ls at hl ⊢
  have hl : lv_has ls 4 [(0, .ref (qX 0)), (1, .int p1), (2, .int p2)] := hl
  refine w_gen (fun Q hQ => ?_)
  refine lv_aload_n hx hb dX11_fewest_0 rfl (lv_at hl 0 rfl) ?_
  refine lv_iload_n hx hb dX11_fewest_1 rfl (lv_at hl 1 rfl) ?_
  refine lv_iload_n hx hb dX11_fewest_2 rfl (lv_at hl 2 rfl) ?_
  have hPc := hP
  have hDc : va_D A (List.flatten [(wSets qE k vE cE aE), (wMem qM k nM aM)] ++ List.flatten [(wSag qX k tapeX (qV 0) actsX nowX trialX storyX attemptX orderSearchX routeSearchX (qE 0) (qM 0) (qL0 0) (qL1 0) (qL2 0) (qL3 0) image0X image1X image2X aX), (wValley qV k vV bV cV wV aV eV), (wSlot qL0 k vL0 sL0 lL0), (wSlot qL1 k vL1 sL1 lL1), (wSlot qL2 k vL2 sL2 lL2), (wSlot qL3 k vL3 sL3 lL3)]) := wc_subD hD [0, 1, 2, 3, 4, 5, 6, 7] rfl rfl
  have hFc := wc_free hDc hS hA
  refine va_calli (va_runV (As := [.int p1, .int p2]) (rest := []) ⟨hx, hb, hml, hown, hts⟩ (c_X11_seekSets l dC dI k s.heap.size qX tapeX actsX nowX trialX storyX attemptX orderSearchX routeSearchX image0X image1X image2X aX qV vV bV cV wV aV eV qE vE cE aE qM nM aM qL0 vL0 sL0 lL0 qL1 vL1 sL1 lL1 qL2 vL2 sL2 lL2 qL3 vL3 sL3 lL3 p1 p2 hbV hcV hwV heV hcE hnM hsL0 hsL1 hsL2 hsL3) (cwV 2 hts (gk_V (wl_mem 0 rfl) (wl_mem 1 rfl) (wl_mem 2 rfl) (wl_mem 3 rfl) (fun w h => List.mem_cons_of_mem _ (List.mem_append_right _ (List.mem_append_left _ h))) wkg_c_X11_seekSets) rfl rfl rfl (by decide +kernel) ⟨Nat.le_of_ble_eq_true rfl, Nat.le_of_ble_eq_true rfl⟩) ⟨fun a U g mk q => by obtain ⟨q0, q1, qP, qK, qD⟩ := q; exact ⟨q0, q1, qP, va_K.moved (u := U) (U := U.calling g mk a) (Vm.Alike.refl U.vm) qK, qD⟩, va_recv hK hPc (ci := 11) (q0 := 5) rfl rfl, fun U hU hW => ⟨rfl, by rw [hU], by rw [hU]; exact hPc, va_K.moved hW.alike hK, hDc.weaken (fun _ _ _ _ => trivial)⟩⟩ rfl rfl hl.1 rfl (lv_room (Nat.le_of_ble_eq_true rfl)) dX11_fewest_3 ⟨Nat.le_of_ble_eq_true rfl, Nat.le_of_ble_eq_true rfl⟩) hS (fun q _ h => hFc q h) hFc (fun rz2 u t H1 locs ht hvm gz1 hB hz1 hk1 hS => ?_)
  obtain ⟨vz3, cz4, az5, nz6, az7, hcz4, hnz6, hP1⟩ := hB
  rw [ht] at hP1
  obtain ⟨hP, hD⟩ := w_callR hP hD hk1 hP1 [0, 1] rfl rfl (wk_memC [2, 3, 4, 5, 6, 7] rfl) rfl [some 0, some 1] rfl rfl
  clear hPc hDc hFc hk1 hP1
  generalize H1 = H at hP hS ⊢
  have hP : va_P (dC, dI) vwCl (List.flatten [(wSets qE k vz3 cz4 az5), (wMem qM k nz6 az7)] ++ List.flatten [(wSag qX k tapeX (qV 0) actsX nowX trialX storyX attemptX orderSearchX routeSearchX (qE 0) (qM 0) (qL0 0) (qL1 0) (qL2 0) (qL3 0) image0X image1X image2X aX), (wValley qV k vV bV cV wV aV eV), (wSlot qL0 k vL0 sL0 lL0), (wSlot qL1 k vL1 sL1 lL1), (wSlot qL2 k vL2 sL2 lL2), (wSlot qL3 k vL3 sL3 lL3)]) H := hP
  have hD : va_D A (List.flatten [(wSets qE k vz3 cz4 az5), (wMem qM k nz6 az7)] ++ List.flatten [(wSag qX k tapeX (qV 0) actsX nowX trialX storyX attemptX orderSearchX routeSearchX (qE 0) (qM 0) (qL0 0) (qL1 0) (qL2 0) (qL3 0) image0X image1X image2X aX), (wValley qV k vV bV cV wV aV eV), (wSlot qL0 k vL0 sL0 lL0), (wSlot qL1 k vL1 sL1 lL1), (wSlot qL2 k vL2 sL2 lL2), (wSlot qL3 k vL3 sL3 lL3)]) := hD
  refine W.widen (k := 0) (n := 0) (Nat.le_refl 0) (Nat.le_refl 0) ?_
  refine lv_istore_n (lv' := [(3, .int rz2), (0, .ref (qX 0)), (1, .int p1), (2, .int p2)]) hx hb dX11_fewest_6 rfl hl (by decide) rfl (fun ls hl => ?_)
  refine lv_iload_n hx hb dX11_fewest_7 rfl (lv_at hl 0 rfl) ?_
  refine lv_if_ge (tgt := 15) hx hb dX11_fewest_8 (by decide) (fun cz8 => ?_) (fun cz8 => ?_)
  · skip
    have bz9 := fb_rng rz2
    have zz10 : (0 : Int) ≤ rz2.toInt := zi_le.mp cz8
    refine lv_aload_n hx hb dX11_fewest_15 rfl (lv_at hl 1 rfl) ?_
    refine va_get (D := (dC, dI)) (ci := 11) (v := .ref (qE 0)) (C := RX11) (T := TX11) (N := 15) hx hb hts (fun w h => List.mem_cons_of_mem _ (List.mem_append_right _ (List.mem_append_right _ (List.mem_append_left _ h)))) hown hK hP 5 rfl rfl 9 (by decide) (hts (.fieldLink RX11 65 "SagMemory" "setSearch" "LSagMemory$Sets;") (wl_mem 4 rfl)) (fun _ h9 => h9) rfl dX11_fewest_16 ?_
    refine va_get (D := (dC, dI)) (ci := 5) (v := .int (vz3 3)) (C := RX5) (T := TX5) (N := 6) hx hb hts (fun w h => List.mem_cons_of_mem _ (List.mem_append_right _ (List.mem_append_right _ (List.mem_append_right _ (List.mem_append_left _ h))))) hown hK hP 0 rfl rfl 5 (by decide) (hts (.fieldLink RX11 281 "SagMemory$Sets" "smallest" "I") (wl_mem 5 rfl)) (fun _ h9 => h9) rfl dX11_fewest_19 ?_
    rw [hQ]
    exact W.iret (v := (vz3 3)) hx hb hr (fun t ht hW => ⟨⟨(vz3 3), (), rfl, trivial, vz3, cz4, az5, nz6, az7, hcz4, hnz6, by rw [ht]; exact hP⟩, hS.F ht⟩) hS.2.2 dX11_fewest_22
  · skip
    have bz11 := fb_rng rz2
    have zz12 : ¬ (0 : Int) ≤ rz2.toInt := fun h9 => cz8 (zi_le.mpr h9)
    refine lv_iload_n hx hb dX11_fewest_11 rfl (lv_at hl 0 rfl) ?_
    refine lv_goto (tgt := 22) hx hb dX11_fewest_12 (by decide) ?_
    rw [hQ]
    exact W.iret (v := rz2) hx hb hr (fun t ht hW => ⟨⟨rz2, (), rfl, trivial, vz3, cz4, az5, nz6, az7, hcz4, hnz6, by rw [ht]; exact hP⟩, hS.F ht⟩) hS.2.2 dX11_fewest_22
def wk_c_X11_ask : List Cond := .code yX11_ask cX11_ask 4 (some .int) :: ([.methodLink RX11 267 yX11_seekSets, .instanceMethod yX11_seekSets, .selects RX11 yX11_seekSets yX11_seekSets, .initialized RX11, .fieldLink RX11 65 "SagMemory" "setSearch" "LSagMemory$Sets;", .methodLink RX11 284 yX5_question, .instanceMethod yX5_question, .selects RX5 yX5_question yX5_question, .initialized RX5] ++ (wk_c_X11_seekSets ++ (wsX110 ++ (wk_c_X5_question ++ []))))
theorem wkg_c_X11_ask : wk_c_X11_ask.all goodWord = true := by decide +kernel
set_option maxHeartbeats 4000000 in
set_option maxRecDepth 100000 in
theorem c_X11_ask (l : Launch) (dC : Nat → ClassId) (dI : Nat → Nat → Nat) (k : Nat → ClassId) (sz : Nat) (qX : Nat → Nat) (tapeX : Nat) (actsX : Nat) (nowX : Nat) (trialX : Nat) (storyX : Nat) (attemptX : Nat) (orderSearchX : Nat) (routeSearchX : Nat) (image0X : Nat) (image1X : Nat) (image2X : Nat) (aX : Nat → Nat → Int32) (qV : Nat → Nat) (vV : Nat → Int32) (bV : Nat → Int32) (cV : Nat → Int32) (wV : Nat → Int32) (aV : Nat → Nat → Int32) (eV : Nat → Nat → Int32) (qE : Nat → Nat) (vE : Nat → Int32) (cE : Nat → Int32) (aE : Nat → Nat → Int32) (qM : Nat → Nat) (nM : Nat → Int32) (aM : Nat → Nat → Int32) (qL0 : Nat → Nat) (vL0 : Nat → Int32) (sL0 : Nat → Int32) (lL0 : Nat → Nat → Int64) (qL1 : Nat → Nat) (vL1 : Nat → Int32) (sL1 : Nat → Int32) (lL1 : Nat → Nat → Int64) (qL2 : Nat → Nat) (vL2 : Nat → Int32) (sL2 : Nat → Int32) (lL2 : Nat → Nat → Int64) (qL3 : Nat → Nat) (vL3 : Nat → Int32) (sL3 : Nat → Int32) (lL3 : Nat → Nat → Int64) (p1 : Int32) (p2 : Int32) (hbV : Rg 0 3 bV) (hcV : Rg 0 7 cV) (hwV : Rg 0 5 wV) (heV : RgA 0 99 eV) (hcE : Rg 0 7 cE) (hnM : Rg 0 8 nM) (hsL0 : Rg 0 60 sL0) (hsL1 : Rg 0 60 sL1) (hsL2 : Rg 0 60 sL2) (hsL3 : Rg 0 60 sL3) : Met l yX11_ask wk_c_X11_ask ({ frames := 4, cells := 0, slots := 0, locals := 123 }) (va_Pc [.ref (qX 0), .int p1, .int p2] (fun U => U.heap.size = sz ∧ va_P (dC, dI) vwCl (List.flatten [(wSets qE k vE cE aE), (wMem qM k nM aM)] ++ List.flatten [(wSag qX k tapeX (qV 0) actsX nowX trialX storyX attemptX orderSearchX routeSearchX (qE 0) (qM 0) (qL0 0) (qL1 0) (qL2 0) (qL3 0) image0X image1X image2X aX), (wValley qV k vV bV cV wV aV eV), (wSlot qL0 k vL0 sL0 lL0), (wSlot qL1 k vL1 sL1 lL1), (wSlot qL2 k vL2 sL2 lL2), (wSlot qL3 k vL3 sL3 lL3)]) U.heap ∧ va_K (dC, dI) vwCl (tK k) U ∧ va_D (fun _ => True) (List.flatten [(wSets qE k vE cE aE), (wMem qM k nM aM)] ++ List.flatten [(wSag qX k tapeX (qV 0) actsX nowX trialX storyX attemptX orderSearchX routeSearchX (qE 0) (qM 0) (qL0 0) (qL1 0) (qL2 0) (qL3 0) image0X image1X image2X aX), (wValley qV k vV bV cV wV aV eV), (wSlot qL0 k vL0 sL0 lL0), (wSlot qL1 k vL1 sL1 lL1), (wSlot qL2 k vL2 sL2 lL2), (wSlot qL3 k vL3 sL3 lL3)]))) (va_Qi (fun (r : Int32) (_ : Unit) => True) (fun (_ : Unit) (t : State) => ∃ (vE' : Nat → Int32) (cE' : Nat → Int32) (aE' : Nat → Nat → Int32) (nM' : Nat → Int32) (aM' : Nat → Nat → Int32), Rg 0 7 cE' ∧ Rg 0 8 nM' ∧ va_P (dC, dI) vwCl (List.flatten [(wSets qE k vE' cE' aE'), (wMem qM k nM' aM')] ++ List.flatten [(wSag qX k tapeX (qV 0) actsX nowX trialX storyX attemptX orderSearchX routeSearchX (qE 0) (qM 0) (qL0 0) (qL1 0) (qL2 0) (qL3 0) image0X image1X image2X aX), (wValley qV k vV bV cV wV aV eV), (wSlot qL0 k vL0 sL0 lL0), (wSlot qL1 k vL1 sL1 lL1), (wSlot qL2 k vL2 sL2 lL2), (wSlot qL3 k vL3 sL3 lL3)]) t.heap) (va_A (List.flatten [(wSets qE k vE cE aE), (wMem qM k nM aM)] ++ List.flatten [(wSag qX k tapeX (qV 0) actsX nowX trialX storyX attemptX orderSearchX routeSearchX (qE 0) (qM 0) (qL0 0) (qL1 0) (qL2 0) (qL3 0) image0X image1X image2X aX), (wValley qV k vV bV cV wV aV eV), (wSlot qL0 k vL0 sL0 lL0), (wSlot qL1 k vL1 sL1 lL1), (wSlot qL2 k vL2 sL2 lL2), (wSlot qL3 k vL3 sL3 lL3)]) sz)) 0 0 (va_A (List.flatten [(wSets qE k vE cE aE), (wMem qM k nM aM)] ++ List.flatten [(wSag qX k tapeX (qV 0) actsX nowX trialX storyX attemptX orderSearchX routeSearchX (qE 0) (qM 0) (qL0 0) (qL1 0) (qL2 0) (qL3 0) image0X image1X image2X aX), (wValley qV k vV bV cV wV aV eV), (wSlot qL0 k vL0 sL0 lL0), (wSlot qL1 k vL1 sL1 lL1), (wSlot qL2 k vL2 sL2 lL2), (wSlot qL3 k vL3 sL3 lL3)]) sz) := by
  refine Met.ofW (cc := cX11_ask) (maxL := 4) (ret := (some .int)) (by decide) rfl ?_
  intro p e s m args below meth c s₁ B hml hv
  obtain ⟨rfl, hsz, hP, hK, hD0⟩ := hv
  have hx := B.exec
  have hb := B.bytes
  have hr := B.returns
  have hts := atoms_spec (ws := wk_c_X11_ask) B.pre
  have hown : s.vm.findClass RX11 = some m.cls := findClass_of_methodNamed B.named
  have hlocks := B.notSynchronized
  subst hsz
  have hD := hD0.self (sz := s.heap.size)
  generalize hAe : va_A (List.flatten [(wSets qE k vE cE aE), (wMem qM k nM aM)] ++ List.flatten [(wSag qX k tapeX (qV 0) actsX nowX trialX storyX attemptX orderSearchX routeSearchX (qE 0) (qM 0) (qL0 0) (qL1 0) (qL2 0) (qL3 0) image0X image1X image2X aX), (wValley qV k vV bV cV wV aV eV), (wSlot qL0 k vL0 sL0 lL0), (wSlot qL1 k vL1 sL1 lL1), (wSlot qL2 k vL2 sL2 lL2), (wSlot qL3 k vL3 sL3 lL3)]) s.heap.size = A at hD ⊢
  have hA : ∀ q : Nat, s.heap.size ≤ q → A q := fun q h => by rw [← hAe]; exact Or.inr h
  have hS : va_S A s.heap s.heap [] := va_S.rf
  have hP : va_P (dC, dI) vwCl (List.flatten [(wSets qE k vE cE aE), (wMem qM k nM aM)] ++ List.flatten [(wSag qX k tapeX (qV 0) actsX nowX trialX storyX attemptX orderSearchX routeSearchX (qE 0) (qM 0) (qL0 0) (qL1 0) (qL2 0) (qL3 0) image0X image1X image2X aX), (wValley qV k vV bV cV wV aV eV), (wSlot qL0 k vL0 sL0 lL0), (wSlot qL1 k vL1 sL1 lL1), (wSlot qL2 k vL2 sL2 lL2), (wSlot qL3 k vL3 sL3 lL3)]) s.heap := hP
  have hl := lv_entry ([.ref (qX 0), .int p1, .int p2]) (n := 4) (Nat.le_of_ble_eq_true rfl)
  rw [lg_entry_eq]
  generalize (lg_sl ([.ref (qX 0), .int p1, .int p2]) ++ List.replicate (4 - (lg_sl ([.ref (qX 0), .int p1, .int p2])).length) Slot.unset).toArray = ls at hl ⊢
  have hl : lv_has ls 4 [(0, .ref (qX 0)), (1, .int p1), (2, .int p2)] := hl
  refine w_gen (fun Q hQ => ?_)
  refine lv_aload_n hx hb dX11_ask_0 rfl (lv_at hl 0 rfl) ?_
  refine lv_iload_n hx hb dX11_ask_1 rfl (lv_at hl 1 rfl) ?_
  refine lv_iload_n hx hb dX11_ask_2 rfl (lv_at hl 2 rfl) ?_
  have hPc := hP
  have hDc : va_D A (List.flatten [(wSets qE k vE cE aE), (wMem qM k nM aM)] ++ List.flatten [(wSag qX k tapeX (qV 0) actsX nowX trialX storyX attemptX orderSearchX routeSearchX (qE 0) (qM 0) (qL0 0) (qL1 0) (qL2 0) (qL3 0) image0X image1X image2X aX), (wValley qV k vV bV cV wV aV eV), (wSlot qL0 k vL0 sL0 lL0), (wSlot qL1 k vL1 sL1 lL1), (wSlot qL2 k vL2 sL2 lL2), (wSlot qL3 k vL3 sL3 lL3)]) := wc_subD hD [0, 1, 2, 3, 4, 5, 6, 7] rfl rfl
  have hFc := wc_free hDc hS hA
  refine va_calli (va_runV (As := [.int p1, .int p2]) (rest := []) ⟨hx, hb, hml, hown, hts⟩ (c_X11_seekSets l dC dI k s.heap.size qX tapeX actsX nowX trialX storyX attemptX orderSearchX routeSearchX image0X image1X image2X aX qV vV bV cV wV aV eV qE vE cE aE qM nM aM qL0 vL0 sL0 lL0 qL1 vL1 sL1 lL1 qL2 vL2 sL2 lL2 qL3 vL3 sL3 lL3 p1 p2 hbV hcV hwV heV hcE hnM hsL0 hsL1 hsL2 hsL3) (cwV 2 hts (gk_V (wl_mem 0 rfl) (wl_mem 1 rfl) (wl_mem 2 rfl) (wl_mem 3 rfl) (fun w h => List.mem_cons_of_mem _ (List.mem_append_right _ (List.mem_append_left _ h))) wkg_c_X11_seekSets) rfl rfl rfl (by decide +kernel) ⟨Nat.le_of_ble_eq_true rfl, Nat.le_of_ble_eq_true rfl⟩) ⟨fun a U g mk q => by obtain ⟨q0, q1, qP, qK, qD⟩ := q; exact ⟨q0, q1, qP, va_K.moved (u := U) (U := U.calling g mk a) (Vm.Alike.refl U.vm) qK, qD⟩, va_recv hK hPc (ci := 11) (q0 := 5) rfl rfl, fun U hU hW => ⟨rfl, by rw [hU], by rw [hU]; exact hPc, va_K.moved hW.alike hK, hDc.weaken (fun _ _ _ _ => trivial)⟩⟩ rfl rfl hl.1 rfl (lv_room (Nat.le_of_ble_eq_true rfl)) dX11_ask_3 ⟨Nat.le_of_ble_eq_true rfl, Nat.le_of_ble_eq_true rfl⟩) hS (fun q _ h => hFc q h) hFc (fun rz2 u t H1 locs ht hvm gz1 hB hz1 hk1 hS => ?_)
  obtain ⟨vz3, cz4, az5, nz6, az7, hcz4, hnz6, hP1⟩ := hB
  rw [ht] at hP1
  obtain ⟨hP, hD⟩ := w_callR hP hD hk1 hP1 [0, 1] rfl rfl (wk_memC [2, 3, 4, 5, 6, 7] rfl) rfl [some 0, some 1] rfl rfl
  clear hPc hDc hFc hk1 hP1
  generalize H1 = H at hP hS ⊢
  have hP : va_P (dC, dI) vwCl (List.flatten [(wSets qE k vz3 cz4 az5), (wMem qM k nz6 az7)] ++ List.flatten [(wSag qX k tapeX (qV 0) actsX nowX trialX storyX attemptX orderSearchX routeSearchX (qE 0) (qM 0) (qL0 0) (qL1 0) (qL2 0) (qL3 0) image0X image1X image2X aX), (wValley qV k vV bV cV wV aV eV), (wSlot qL0 k vL0 sL0 lL0), (wSlot qL1 k vL1 sL1 lL1), (wSlot qL2 k vL2 sL2 lL2), (wSlot qL3 k vL3 sL3 lL3)]) H := hP
  have hD : va_D A (List.flatten [(wSets qE k vz3 cz4 az5), (wMem qM k nz6 az7)] ++ List.flatten [(wSag qX k tapeX (qV 0) actsX nowX trialX storyX attemptX orderSearchX routeSearchX (qE 0) (qM 0) (qL0 0) (qL1 0) (qL2 0) (qL3 0) image0X image1X image2X aX), (wValley qV k vV bV cV wV aV eV), (wSlot qL0 k vL0 sL0 lL0), (wSlot qL1 k vL1 sL1 lL1), (wSlot qL2 k vL2 sL2 lL2), (wSlot qL3 k vL3 sL3 lL3)]) := hD
  refine W.widen (k := 0) (n := 0) (Nat.le_refl 0) (Nat.le_refl 0) ?_
  refine lv_istore_n (lv' := [(3, .int rz2), (0, .ref (qX 0)), (1, .int p1), (2, .int p2)]) hx hb dX11_ask_6 rfl hl (by decide) rfl (fun ls hl => ?_)
  refine lv_iload_n hx hb dX11_ask_7 rfl (lv_at hl 0 rfl) ?_
  refine lv_if_ge (tgt := 15) hx hb dX11_ask_8 (by decide) (fun cz8 => ?_) (fun cz8 => ?_)
  · skip
    have bz9 := fb_rng rz2
    have zz10 : (0 : Int) ≤ rz2.toInt := zi_le.mp cz8
    refine lv_aload_n hx hb dX11_ask_15 rfl (lv_at hl 1 rfl) ?_
    refine va_get (D := (dC, dI)) (ci := 11) (v := .ref (qE 0)) (C := RX11) (T := TX11) (N := 15) hx hb hts (fun w h => List.mem_cons_of_mem _ (List.mem_append_right _ (List.mem_append_right _ (List.mem_append_left _ h)))) hown hK hP 5 rfl rfl 9 (by decide) (hts (.fieldLink RX11 65 "SagMemory" "setSearch" "LSagMemory$Sets;") (wl_mem 4 rfl)) (fun _ h9 => h9) rfl dX11_ask_16 ?_
    have hPc := hP.sub (ws' := (List.flatten [(wSets qE k vz3 cz4 az5)])) [0, 1] rfl
    refine vp_callSi (va_Run.run (va_runV (As := []) (rest := []) ⟨hx, hb, hml, hown, hts⟩ (c_X5_question l dC dI k qE vz3 cz4 az5 hcz4) (cwV 0 hts (gk_V (wl_mem 5 rfl) (wl_mem 6 rfl) (wl_mem 7 rfl) (wl_mem 8 rfl) (fun w h => List.mem_cons_of_mem _ (List.mem_append_right _ (List.mem_append_right _ (List.mem_append_right _ (List.mem_append_left _ h))))) wkg_c_X5_question) rfl rfl rfl (by decide +kernel) ⟨Nat.le_of_ble_eq_true rfl, Nat.le_of_ble_eq_true rfl⟩) ⟨fun a U g mk q => by obtain ⟨q0, qP, qK⟩ := q; exact ⟨q0, qP, va_K.moved (u := U) (U := U.calling g mk a) (Vm.Alike.refl U.vm) qK⟩, va_recv hK hPc (ci := 5) (q0 := 0) rfl rfl, fun U hU hW => ⟨rfl, by rw [hU]; exact hPc, va_K.moved hW.alike hK⟩⟩ rfl rfl hl.1 rfl (lv_room (Nat.le_of_ble_eq_true rfl)) dX11_ask_19 ⟨Nat.le_of_ble_eq_true rfl, Nat.le_of_ble_eq_true rfl⟩)) (fun rz12 gz11 => ?_)
    clear hPc
    rw [hQ]
    exact W.iret (v := rz12) hx hb hr (fun t ht hW => ⟨⟨rz12, (), rfl, trivial, vz3, cz4, az5, nz6, az7, hcz4, hnz6, by rw [ht]; exact hP⟩, hS.F ht⟩) hS.2.2 dX11_ask_22
  · skip
    have bz13 := fb_rng rz2
    have zz14 : ¬ (0 : Int) ≤ rz2.toInt := fun h9 => cz8 (zi_le.mpr h9)
    refine lv_iload_n hx hb dX11_ask_11 rfl (lv_at hl 0 rfl) ?_
    refine lv_goto (tgt := 22) hx hb dX11_ask_12 (by decide) ?_
    rw [hQ]
    exact W.iret (v := rz2) hx hb hr (fun t ht hW => ⟨⟨rz2, (), rfl, trivial, vz3, cz4, az5, nz6, az7, hcz4, hnz6, by rw [ht]; exact hP⟩, hS.F ht⟩) hS.2.2 dX11_ask_22
def wk_c_X11_leaves : List Cond := .code yX11_leaves cX11_leaves 4 (some .int) :: ([.methodLink RX11 267 yX11_seekSets, .instanceMethod yX11_seekSets, .selects RX11 yX11_seekSets yX11_seekSets, .initialized RX11, .fieldLink RX11 65 "SagMemory" "setSearch" "LSagMemory$Sets;", .methodLink RX11 284 yX5_question, .instanceMethod yX5_question, .selects RX5 yX5_question yX5_question, .initialized RX5, .methodLink RX11 287 yX5_leftBy, .instanceMethod yX5_leftBy, .selects RX5 yX5_leftBy yX5_leftBy] ++ (wk_c_X11_seekSets ++ (wsX110 ++ (wk_c_X5_question ++ (wk_c_X5_leftBy ++ [])))))
theorem wkg_c_X11_leaves : wk_c_X11_leaves.all goodWord = true := by decide +kernel
set_option maxHeartbeats 4000000 in
set_option maxRecDepth 100000 in
theorem c_X11_leaves (l : Launch) (dC : Nat → ClassId) (dI : Nat → Nat → Nat) (k : Nat → ClassId) (sz : Nat) (qX : Nat → Nat) (tapeX : Nat) (actsX : Nat) (nowX : Nat) (trialX : Nat) (storyX : Nat) (attemptX : Nat) (orderSearchX : Nat) (routeSearchX : Nat) (image0X : Nat) (image1X : Nat) (image2X : Nat) (aX : Nat → Nat → Int32) (qV : Nat → Nat) (vV : Nat → Int32) (bV : Nat → Int32) (cV : Nat → Int32) (wV : Nat → Int32) (aV : Nat → Nat → Int32) (eV : Nat → Nat → Int32) (qE : Nat → Nat) (vE : Nat → Int32) (cE : Nat → Int32) (aE : Nat → Nat → Int32) (qM : Nat → Nat) (nM : Nat → Int32) (aM : Nat → Nat → Int32) (qL0 : Nat → Nat) (vL0 : Nat → Int32) (sL0 : Nat → Int32) (lL0 : Nat → Nat → Int64) (qL1 : Nat → Nat) (vL1 : Nat → Int32) (sL1 : Nat → Int32) (lL1 : Nat → Nat → Int64) (qL2 : Nat → Nat) (vL2 : Nat → Int32) (sL2 : Nat → Int32) (lL2 : Nat → Nat → Int64) (qL3 : Nat → Nat) (vL3 : Nat → Int32) (sL3 : Nat → Int32) (lL3 : Nat → Nat → Int64) (p1 : Int32) (p2 : Int32) (hbV : Rg 0 3 bV) (hcV : Rg 0 7 cV) (hwV : Rg 0 5 wV) (heV : RgA 0 99 eV) (hcE : Rg 0 7 cE) (hnM : Rg 0 8 nM) (hsL0 : Rg 0 60 sL0) (hsL1 : Rg 0 60 sL1) (hsL2 : Rg 0 60 sL2) (hsL3 : Rg 0 60 sL3) : Met l yX11_leaves wk_c_X11_leaves ({ frames := 4, cells := 0, slots := 0, locals := 123 }) (va_Pc [.ref (qX 0), .int p1, .int p2] (fun U => U.heap.size = sz ∧ va_P (dC, dI) vwCl (List.flatten [(wSets qE k vE cE aE), (wMem qM k nM aM)] ++ List.flatten [(wSag qX k tapeX (qV 0) actsX nowX trialX storyX attemptX orderSearchX routeSearchX (qE 0) (qM 0) (qL0 0) (qL1 0) (qL2 0) (qL3 0) image0X image1X image2X aX), (wValley qV k vV bV cV wV aV eV), (wSlot qL0 k vL0 sL0 lL0), (wSlot qL1 k vL1 sL1 lL1), (wSlot qL2 k vL2 sL2 lL2), (wSlot qL3 k vL3 sL3 lL3)]) U.heap ∧ va_K (dC, dI) vwCl (tK k) U ∧ va_D (fun _ => True) (List.flatten [(wSets qE k vE cE aE), (wMem qM k nM aM)] ++ List.flatten [(wSag qX k tapeX (qV 0) actsX nowX trialX storyX attemptX orderSearchX routeSearchX (qE 0) (qM 0) (qL0 0) (qL1 0) (qL2 0) (qL3 0) image0X image1X image2X aX), (wValley qV k vV bV cV wV aV eV), (wSlot qL0 k vL0 sL0 lL0), (wSlot qL1 k vL1 sL1 lL1), (wSlot qL2 k vL2 sL2 lL2), (wSlot qL3 k vL3 sL3 lL3)]))) (va_Qi (fun (r : Int32) (_ : Unit) => True) (fun (_ : Unit) (t : State) => ∃ (vE' : Nat → Int32) (cE' : Nat → Int32) (aE' : Nat → Nat → Int32) (nM' : Nat → Int32) (aM' : Nat → Nat → Int32), Rg 0 7 cE' ∧ Rg 0 8 nM' ∧ va_P (dC, dI) vwCl (List.flatten [(wSets qE k vE' cE' aE'), (wMem qM k nM' aM')] ++ List.flatten [(wSag qX k tapeX (qV 0) actsX nowX trialX storyX attemptX orderSearchX routeSearchX (qE 0) (qM 0) (qL0 0) (qL1 0) (qL2 0) (qL3 0) image0X image1X image2X aX), (wValley qV k vV bV cV wV aV eV), (wSlot qL0 k vL0 sL0 lL0), (wSlot qL1 k vL1 sL1 lL1), (wSlot qL2 k vL2 sL2 lL2), (wSlot qL3 k vL3 sL3 lL3)]) t.heap) (va_A (List.flatten [(wSets qE k vE cE aE), (wMem qM k nM aM)] ++ List.flatten [(wSag qX k tapeX (qV 0) actsX nowX trialX storyX attemptX orderSearchX routeSearchX (qE 0) (qM 0) (qL0 0) (qL1 0) (qL2 0) (qL3 0) image0X image1X image2X aX), (wValley qV k vV bV cV wV aV eV), (wSlot qL0 k vL0 sL0 lL0), (wSlot qL1 k vL1 sL1 lL1), (wSlot qL2 k vL2 sL2 lL2), (wSlot qL3 k vL3 sL3 lL3)]) sz)) 0 0 (va_A (List.flatten [(wSets qE k vE cE aE), (wMem qM k nM aM)] ++ List.flatten [(wSag qX k tapeX (qV 0) actsX nowX trialX storyX attemptX orderSearchX routeSearchX (qE 0) (qM 0) (qL0 0) (qL1 0) (qL2 0) (qL3 0) image0X image1X image2X aX), (wValley qV k vV bV cV wV aV eV), (wSlot qL0 k vL0 sL0 lL0), (wSlot qL1 k vL1 sL1 lL1), (wSlot qL2 k vL2 sL2 lL2), (wSlot qL3 k vL3 sL3 lL3)]) sz) := by
  refine Met.ofW (cc := cX11_leaves) (maxL := 4) (ret := (some .int)) (by decide) rfl ?_
  intro p e s m args below meth c s₁ B hml hv
  obtain ⟨rfl, hsz, hP, hK, hD0⟩ := hv
  have hx := B.exec
  have hb := B.bytes
  have hr := B.returns
  have hts := atoms_spec (ws := wk_c_X11_leaves) B.pre
  have hown : s.vm.findClass RX11 = some m.cls := findClass_of_methodNamed B.named
  have hlocks := B.notSynchronized
  subst hsz
  have hD := hD0.self (sz := s.heap.size)
  generalize hAe : va_A (List.flatten [(wSets qE k vE cE aE), (wMem qM k nM aM)] ++ List.flatten [(wSag qX k tapeX (qV 0) actsX nowX trialX storyX attemptX orderSearchX routeSearchX (qE 0) (qM 0) (qL0 0) (qL1 0) (qL2 0) (qL3 0) image0X image1X image2X aX), (wValley qV k vV bV cV wV aV eV), (wSlot qL0 k vL0 sL0 lL0), (wSlot qL1 k vL1 sL1 lL1), (wSlot qL2 k vL2 sL2 lL2), (wSlot qL3 k vL3 sL3 lL3)]) s.heap.size = A at hD ⊢
  have hA : ∀ q : Nat, s.heap.size ≤ q → A q := fun q h => by rw [← hAe]; exact Or.inr h
  have hS : va_S A s.heap s.heap [] := va_S.rf
  have hP : va_P (dC, dI) vwCl (List.flatten [(wSets qE k vE cE aE), (wMem qM k nM aM)] ++ List.flatten [(wSag qX k tapeX (qV 0) actsX nowX trialX storyX attemptX orderSearchX routeSearchX (qE 0) (qM 0) (qL0 0) (qL1 0) (qL2 0) (qL3 0) image0X image1X image2X aX), (wValley qV k vV bV cV wV aV eV), (wSlot qL0 k vL0 sL0 lL0), (wSlot qL1 k vL1 sL1 lL1), (wSlot qL2 k vL2 sL2 lL2), (wSlot qL3 k vL3 sL3 lL3)]) s.heap := hP
  have hl := lv_entry ([.ref (qX 0), .int p1, .int p2]) (n := 4) (Nat.le_of_ble_eq_true rfl)
  rw [lg_entry_eq]
  generalize (lg_sl ([.ref (qX 0), .int p1, .int p2]) ++ List.replicate (4 - (lg_sl ([.ref (qX 0), .int p1, .int p2])).length) Slot.unset).toArray = ls at hl ⊢
  have hl : lv_has ls 4 [(0, .ref (qX 0)), (1, .int p1), (2, .int p2)] := hl
  refine w_gen (fun Q hQ => ?_)
  refine lv_aload_n hx hb dX11_leaves_0 rfl (lv_at hl 0 rfl) ?_
  refine lv_iload_n hx hb dX11_leaves_1 rfl (lv_at hl 1 rfl) ?_
  refine lv_iload_n hx hb dX11_leaves_2 rfl (lv_at hl 2 rfl) ?_
  have hPc := hP
  have hDc : va_D A (List.flatten [(wSets qE k vE cE aE), (wMem qM k nM aM)] ++ List.flatten [(wSag qX k tapeX (qV 0) actsX nowX trialX storyX attemptX orderSearchX routeSearchX (qE 0) (qM 0) (qL0 0) (qL1 0) (qL2 0) (qL3 0) image0X image1X image2X aX), (wValley qV k vV bV cV wV aV eV), (wSlot qL0 k vL0 sL0 lL0), (wSlot qL1 k vL1 sL1 lL1), (wSlot qL2 k vL2 sL2 lL2), (wSlot qL3 k vL3 sL3 lL3)]) := wc_subD hD [0, 1, 2, 3, 4, 5, 6, 7] rfl rfl
  have hFc := wc_free hDc hS hA
  refine va_calli (va_runV (As := [.int p1, .int p2]) (rest := []) ⟨hx, hb, hml, hown, hts⟩ (c_X11_seekSets l dC dI k s.heap.size qX tapeX actsX nowX trialX storyX attemptX orderSearchX routeSearchX image0X image1X image2X aX qV vV bV cV wV aV eV qE vE cE aE qM nM aM qL0 vL0 sL0 lL0 qL1 vL1 sL1 lL1 qL2 vL2 sL2 lL2 qL3 vL3 sL3 lL3 p1 p2 hbV hcV hwV heV hcE hnM hsL0 hsL1 hsL2 hsL3) (cwV 2 hts (gk_V (wl_mem 0 rfl) (wl_mem 1 rfl) (wl_mem 2 rfl) (wl_mem 3 rfl) (fun w h => List.mem_cons_of_mem _ (List.mem_append_right _ (List.mem_append_left _ h))) wkg_c_X11_seekSets) rfl rfl rfl (by decide +kernel) ⟨Nat.le_of_ble_eq_true rfl, Nat.le_of_ble_eq_true rfl⟩) ⟨fun a U g mk q => by obtain ⟨q0, q1, qP, qK, qD⟩ := q; exact ⟨q0, q1, qP, va_K.moved (u := U) (U := U.calling g mk a) (Vm.Alike.refl U.vm) qK, qD⟩, va_recv hK hPc (ci := 11) (q0 := 5) rfl rfl, fun U hU hW => ⟨rfl, by rw [hU], by rw [hU]; exact hPc, va_K.moved hW.alike hK, hDc.weaken (fun _ _ _ _ => trivial)⟩⟩ rfl rfl hl.1 rfl (lv_room (Nat.le_of_ble_eq_true rfl)) dX11_leaves_3 ⟨Nat.le_of_ble_eq_true rfl, Nat.le_of_ble_eq_true rfl⟩) hS (fun q _ h => hFc q h) hFc (fun rz2 u t H1 locs ht hvm gz1 hB hz1 hk1 hS => ?_)
  obtain ⟨vz3, cz4, az5, nz6, az7, hcz4, hnz6, hP1⟩ := hB
  rw [ht] at hP1
  obtain ⟨hP, hD⟩ := w_callR hP hD hk1 hP1 [0, 1] rfl rfl (wk_memC [2, 3, 4, 5, 6, 7] rfl) rfl [some 0, some 1] rfl rfl
  clear hPc hDc hFc hk1 hP1
  generalize H1 = H at hP hS ⊢
  have hP : va_P (dC, dI) vwCl (List.flatten [(wSets qE k vz3 cz4 az5), (wMem qM k nz6 az7)] ++ List.flatten [(wSag qX k tapeX (qV 0) actsX nowX trialX storyX attemptX orderSearchX routeSearchX (qE 0) (qM 0) (qL0 0) (qL1 0) (qL2 0) (qL3 0) image0X image1X image2X aX), (wValley qV k vV bV cV wV aV eV), (wSlot qL0 k vL0 sL0 lL0), (wSlot qL1 k vL1 sL1 lL1), (wSlot qL2 k vL2 sL2 lL2), (wSlot qL3 k vL3 sL3 lL3)]) H := hP
  have hD : va_D A (List.flatten [(wSets qE k vz3 cz4 az5), (wMem qM k nz6 az7)] ++ List.flatten [(wSag qX k tapeX (qV 0) actsX nowX trialX storyX attemptX orderSearchX routeSearchX (qE 0) (qM 0) (qL0 0) (qL1 0) (qL2 0) (qL3 0) image0X image1X image2X aX), (wValley qV k vV bV cV wV aV eV), (wSlot qL0 k vL0 sL0 lL0), (wSlot qL1 k vL1 sL1 lL1), (wSlot qL2 k vL2 sL2 lL2), (wSlot qL3 k vL3 sL3 lL3)]) := hD
  refine W.widen (k := 0) (n := 0) (Nat.le_refl 0) (Nat.le_refl 0) ?_
  refine lv_istore_n (lv' := [(3, .int rz2), (0, .ref (qX 0)), (1, .int p1), (2, .int p2)]) hx hb dX11_leaves_6 rfl hl (by decide) rfl (fun ls hl => ?_)
  refine lv_iload_n hx hb dX11_leaves_7 rfl (lv_at hl 0 rfl) ?_
  refine lv_if_ge (tgt := 15) hx hb dX11_leaves_8 (by decide) (fun cz8 => ?_) (fun cz8 => ?_)
  · skip
    have bz9 := fb_rng rz2
    have zz10 : (0 : Int) ≤ rz2.toInt := zi_le.mp cz8
    refine lv_aload_n hx hb dX11_leaves_15 rfl (lv_at hl 1 rfl) ?_
    refine va_get (D := (dC, dI)) (ci := 11) (v := .ref (qE 0)) (C := RX11) (T := TX11) (N := 15) hx hb hts (fun w h => List.mem_cons_of_mem _ (List.mem_append_right _ (List.mem_append_right _ (List.mem_append_left _ h)))) hown hK hP 5 rfl rfl 9 (by decide) (hts (.fieldLink RX11 65 "SagMemory" "setSearch" "LSagMemory$Sets;") (wl_mem 4 rfl)) (fun _ h9 => h9) rfl dX11_leaves_16 ?_
    refine lv_aload_n hx hb dX11_leaves_19 rfl (lv_at hl 1 rfl) ?_
    refine va_get (D := (dC, dI)) (ci := 11) (v := .ref (qE 0)) (C := RX11) (T := TX11) (N := 15) hx hb hts (fun w h => List.mem_cons_of_mem _ (List.mem_append_right _ (List.mem_append_right _ (List.mem_append_left _ h)))) hown hK hP 5 rfl rfl 9 (by decide) (hts (.fieldLink RX11 65 "SagMemory" "setSearch" "LSagMemory$Sets;") (wl_mem 4 rfl)) (fun _ h9 => h9) rfl dX11_leaves_20 ?_
    have hPc := hP.sub (ws' := (List.flatten [(wSets qE k vz3 cz4 az5)])) [0, 1] rfl
    refine vp_callSi (va_Run.run (va_runV (As := []) (rest := [.ref (qE 0)]) ⟨hx, hb, hml, hown, hts⟩ (c_X5_question l dC dI k qE vz3 cz4 az5 hcz4) (cwV 0 hts (gk_V (wl_mem 5 rfl) (wl_mem 6 rfl) (wl_mem 7 rfl) (wl_mem 8 rfl) (fun w h => List.mem_cons_of_mem _ (List.mem_append_right _ (List.mem_append_right _ (List.mem_append_right _ (List.mem_append_left _ h))))) wkg_c_X5_question) rfl rfl rfl (by decide +kernel) ⟨Nat.le_of_ble_eq_true rfl, Nat.le_of_ble_eq_true rfl⟩) ⟨fun a U g mk q => by obtain ⟨q0, qP, qK⟩ := q; exact ⟨q0, qP, va_K.moved (u := U) (U := U.calling g mk a) (Vm.Alike.refl U.vm) qK⟩, va_recv hK hPc (ci := 5) (q0 := 0) rfl rfl, fun U hU hW => ⟨rfl, by rw [hU]; exact hPc, va_K.moved hW.alike hK⟩⟩ rfl rfl hl.1 rfl (lv_room (Nat.le_of_ble_eq_true rfl)) dX11_leaves_23 ⟨Nat.le_of_ble_eq_true rfl, Nat.le_of_ble_eq_true rfl⟩)) (fun rz12 gz11 => ?_)
    clear hPc
    have hPc := hP.sub (ws' := (List.flatten [(wSets qE k vz3 cz4 az5)])) [0, 1] rfl
    refine vp_callSi (va_Run.run (va_runV (As := [.int rz12]) (rest := []) ⟨hx, hb, hml, hown, hts⟩ (c_X5_leftBy l dC dI k qE vz3 cz4 az5 rz12 hcz4) (cwV 1 hts (gk_V (wl_mem 9 rfl) (wl_mem 10 rfl) (wl_mem 11 rfl) (wl_mem 8 rfl) (fun w h => List.mem_cons_of_mem _ (List.mem_append_right _ (List.mem_append_right _ (List.mem_append_right _ (List.mem_append_right _ (List.mem_append_left _ h)))))) wkg_c_X5_leftBy) rfl rfl rfl (by decide +kernel) ⟨Nat.le_of_ble_eq_true rfl, Nat.le_of_ble_eq_true rfl⟩) ⟨fun a U g mk q => by obtain ⟨q0, qP, qK⟩ := q; exact ⟨q0, qP, va_K.moved (u := U) (U := U.calling g mk a) (Vm.Alike.refl U.vm) qK⟩, va_recv hK hPc (ci := 5) (q0 := 0) rfl rfl, fun U hU hW => ⟨rfl, by rw [hU]; exact hPc, va_K.moved hW.alike hK⟩⟩ rfl rfl hl.1 rfl (lv_room (Nat.le_of_ble_eq_true rfl)) dX11_leaves_26 ⟨Nat.le_of_ble_eq_true rfl, Nat.le_of_ble_eq_true rfl⟩)) (fun rz14 gz13 => ?_)
    clear hPc
    rw [hQ]
    exact W.iret (v := rz14) hx hb hr (fun t ht hW => ⟨⟨rz14, (), rfl, trivial, vz3, cz4, az5, nz6, az7, hcz4, hnz6, by rw [ht]; exact hP⟩, hS.F ht⟩) hS.2.2 dX11_leaves_29
  · skip
    have bz15 := fb_rng rz2
    have zz16 : ¬ (0 : Int) ≤ rz2.toInt := fun h9 => cz8 (zi_le.mpr h9)
    refine lv_iload_n hx hb dX11_leaves_11 rfl (lv_at hl 0 rfl) ?_
    refine lv_goto (tgt := 29) hx hb dX11_leaves_12 (by decide) ?_
    rw [hQ]
    exact W.iret (v := rz2) hx hb hr (fun t ht hW => ⟨⟨rz2, (), rfl, trivial, vz3, cz4, az5, nz6, az7, hcz4, hnz6, by rw [ht]; exact hP⟩, hS.F ht⟩) hS.2.2 dX11_leaves_29
