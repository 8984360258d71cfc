def wk_c_X11_isAtRest : List Cond := .code yX11_isAtRest cX11_isAtRest 5 (some .boolean) :: ([.fieldLink RX11 19 "SagMemory" "told" "LSagMemory$Valley;", .fieldLink RX11 212 "SagMemory$Valley" "bridges" "I", .fieldLink RX11 76 "SagMemory" "ownLosses" "[I", .fieldLink RX11 80 "SagMemory" "otherLosses" "[I"] ++ (wsX110 ++ (wsX100 ++ [])))
theorem wkg_c_X11_isAtRest : wk_c_X11_isAtRest.all goodWord = true := by decide +kernel
set_option maxHeartbeats 4000000 in
set_option maxRecDepth 100000 in
theorem c_X11_isAtRest (l : Launch) (dC : Nat → ClassId) (dI : Nat → Nat → Nat) (k : Nat → ClassId) (qX : Nat → Nat) (tapeX : Nat) (actsX : Nat) (nowX : Nat) (trialX : Nat) (storyX : Nat) (attemptX : Nat) (orderSearchX : Nat) (routeSearchX : Nat) (setSearchX : Nat) (probeX : Nat) (slot0X : Nat) (slot1X : Nat) (slot2X : Nat) (slot3X : Nat) (image0X : Nat) (image1X : Nat) (image2X : Nat) (aX : Nat → Nat → Int32) (qV : Nat → Nat) (vV : Nat → Int32) (bV : Nat → Int32) (cV : Nat → Int32) (wV : Nat → Int32) (aV : Nat → Nat → Int32) (eV : Nat → Nat → Int32) (p1 : Int32) (p2 : Int32) (hbV : Rg 0 3 bV) (hcV : Rg 0 7 cV) (hwV : Rg 0 5 wV) (heV : RgA 0 99 eV) (hp0 : 0 ≤ p1.toInt ∧ p1.toInt ≤ 2) (hp1 : 0 ≤ p2.toInt ∧ p2.toInt ≤ 2) : Met l yX11_isAtRest wk_c_X11_isAtRest ({ frames := 0, cells := 0, slots := 0, locals := 0 }) (va_Pc [.ref (qX 0), .int p1, .int p2] (fun U => va_P (dC, dI) vwCl (List.flatten [(wSag qX k tapeX (qV 0) actsX nowX trialX storyX attemptX orderSearchX routeSearchX setSearchX probeX slot0X slot1X slot2X slot3X image0X image1X image2X aX), (wValley qV k vV bV cV wV aV eV)]) U.heap ∧ va_K (dC, dI) vwCl (tK k) U)) (vp_Si (fun r : Int32 => (r.toInt = 0 ∨ r.toInt = 1))) 0 0 (fun _ => False) := by
  refine Met.ofW (cc := cX11_isAtRest) (maxL := 5) (ret := (some .boolean)) (by decide) rfl ?_
  intro p e s m args below meth c s₁ B hml hv
  obtain ⟨rfl, hP, hK⟩ := hv
  have hx := B.exec
  have hb := B.bytes
  have hr := B.returns
  have hts := atoms_spec (ws := wk_c_X11_isAtRest) B.pre
  have hown : s.vm.findClass RX11 = some m.cls := findClass_of_methodNamed B.named
  have hlocks := B.notSynchronized
  have hP : va_P (dC, dI) vwCl (List.flatten [(wSag qX k tapeX (qV 0) actsX nowX trialX storyX attemptX orderSearchX routeSearchX setSearchX probeX slot0X slot1X slot2X slot3X image0X image1X image2X aX), (wValley qV k vV bV cV wV aV eV)]) s.heap := hP
  have hl := lv_entry ([.ref (qX 0), .int p1, .int p2]) (n := 5) (Nat.le_of_ble_eq_true rfl)
  rw [lg_entry_eq]
  generalize (lg_sl ([.ref (qX 0), .int p1, .int p2]) ++ List.replicate (5 - (lg_sl ([.ref (qX 0), .int p1, .int p2])).length) Slot.unset).toArray = ls at hl ⊢
  have hl : lv_has ls 5 [(0, .ref (qX 0)), (1, .int p1), (2, .int p2)] := hl
  refine w_gen (fun Q hQ => ?_)
  refine lv_iload_n hx hb dX11_isAtRest_0 rfl (lv_at hl 1 rfl) ?_
  refine lv_iconst (v := 3) hx hb dX11_isAtRest_1 (by decide) ?_
  refine lv_imul hx hb dX11_isAtRest_2 ?_
  refine lv_topi (fun xz1 exz1 => ?_)
  have fxz1 : xz1.toInt = p1.toInt * (3 : Int) := by rw [exz1]; exact fb_mulI (x := p1) (y := (3 : Int32)) (by show -2147483648 ≤ p1.toInt * (3 : Int); omega) (by show p1.toInt * (3 : Int) < 2147483648; omega)
  refine lv_iload_n hx hb dX11_isAtRest_3 rfl (lv_at hl 2 rfl) ?_
  refine lv_iadd hx hb dX11_isAtRest_4 ?_
  refine lv_topi (fun xz2 exz2 => ?_)
  have fxz2 : xz2.toInt = xz1.toInt + p2.toInt := by rw [exz2]; exact fb_addI (x := xz1) (y := p2) (by show -2147483648 ≤ xz1.toInt + p2.toInt; omega) (by show xz1.toInt + p2.toInt < 2147483648; omega)
  refine lv_istore_n (lv' := [(3, .int xz2), (0, .ref (qX 0)), (1, .int p1), (2, .int p2)]) hx hb dX11_isAtRest_5 rfl hl (by decide) rfl (fun ls hl => ?_)
  refine lv_iconst (v := 0) hx hb dX11_isAtRest_6 (by decide) ?_
  refine lv_istore (lv' := [(4, .int 0), (3, .int xz2), (0, .ref (qX 0)), (1, .int p1), (2, .int p2)]) hx hb dX11_isAtRest_7 hl (by decide) rfl (fun ls hl => ?_)
  have lp9_kz34 : ∀ (n9_9 : Nat) (ls : Array Slot) (xz33 : Int32), (2147483647 - xz33.toInt).toNat < n9_9 → 0 ≤ xz33.toInt → lv_has ls 5 [(0, .ref (qX 0)), (1, .int p1), (2, .int p2), (3, .int xz2), (4, .int xz33)] → W p l e (headSpec wk_c_X11_isAtRest ({ frames := 0, cells := 0, slots := 0, locals := 0 })).room s m ([.ref (qX 0), .int p1, .int p2] : List Value).toArray below meth c s.heap [] 0 0 Q (F0 m 9 ls []) := by
    intro n9_9
    induction n9_9 with
    | zero => intro ls xz33 hm; exact absurd hm (Nat.not_lt_zero _)
    | succ n9_9 ih9 =>
      intro ls xz33 hm9 jz35 hl
      refine lv_iload hx hb dX11_isAtRest_9 (lv_at hl 4 rfl) ?_
      refine lv_aload_n hx hb dX11_isAtRest_11 rfl (lv_at hl 0 rfl) ?_
      refine va_get (D := (dC, dI)) (ci := 11) (v := .ref (qV 0)) (C := RX11) (T := TX11) (N := 15) hx hb hts (fun w h => List.mem_cons_of_mem _ (List.mem_append_right _ (List.mem_append_left _ h))) hown hK hP 0 rfl rfl 1 (by decide) (hts (.fieldLink RX11 19 "SagMemory" "told" "LSagMemory$Valley;") (wl_mem 0 rfl)) (fun _ h9 => h9) rfl dX11_isAtRest_12 ?_
      refine va_get (D := (dC, dI)) (ci := 10) (v := .int (bV 0)) (C := RX10) (T := TX10) (N := 16) hx hb hts (fun w h => List.mem_cons_of_mem _ (List.mem_append_right _ (List.mem_append_right _ (List.mem_append_left _ h)))) hown hK hP 5 rfl rfl 11 (by decide) (hts (.fieldLink RX11 212 "SagMemory$Valley" "bridges" "I") (wl_mem 1 rfl)) (fun _ h9 => h9) rfl dX11_isAtRest_15 ?_
      have bz36 := hbV 0
      refine lv_icmp_ge (tgt := 69) hx hb dX11_isAtRest_18 (by decide) (fun cz37 => ?_) (fun cz37 => ?_)
      · skip
        have bz38 := fb_rng xz33
        have zz39 : (bV 0).toInt ≤ xz33.toInt := zi_le.mp cz37
        refine lv_iconst (v := 1) hx hb dX11_isAtRest_69 (by decide) ?_
        rw [hQ]
        exact W.zret (v := (1 : Int32)) hx hb hr rfl (fun t ht hW => ⟨(1 : Int32), rfl, (by show (1 : Int) = 0 ∨ (1 : Int) = 1; omega), ht⟩) (fun _ h => absurd h List.not_mem_nil) dX11_isAtRest_70
      · skip
        have bz40 := fb_rng xz33
        have zz41 : ¬ (bV 0).toInt ≤ xz33.toInt := fun h9 => cz37 (zi_le.mpr h9)
        refine lv_aload_n hx hb dX11_isAtRest_21 rfl (lv_at hl 0 rfl) ?_
        refine va_get (D := (dC, dI)) (ci := 11) (v := .ref (qX 1)) (C := RX11) (T := TX11) (N := 15) hx hb hts (fun w h => List.mem_cons_of_mem _ (List.mem_append_right _ (List.mem_append_left _ h))) hown hK hP 0 rfl rfl 11 (by decide) (hts (.fieldLink RX11 76 "SagMemory" "ownLosses" "[I") (wl_mem 2 rfl)) (fun _ h9 => h9) rfl dX11_isAtRest_22 ?_
        refine lv_iload hx hb dX11_isAtRest_25 (lv_at hl 4 rfl) ?_
        refine lv_iconst (v := 3) hx hb dX11_isAtRest_27 (by decide) ?_
        refine lv_imul hx hb dX11_isAtRest_28 ?_
        refine lv_topi (fun xz42 exz42 => ?_)
        have fxz42 : xz42.toInt = xz33.toInt * (3 : Int) := by rw [exz42]; exact fb_mulI (x := xz33) (y := (3 : Int32)) (by show -2147483648 ≤ xz33.toInt * (3 : Int); omega) (by show xz33.toInt * (3 : Int) < 2147483648; omega)
        refine lv_iload_n hx hb dX11_isAtRest_29 rfl (lv_at hl 2 rfl) ?_
        refine lv_iadd hx hb dX11_isAtRest_30 ?_
        refine lv_topi (fun xz43 exz43 => ?_)
        have fxz43 : xz43.toInt = xz42.toInt + p2.toInt := by rw [exz43]; exact fb_addI (x := xz42) (y := p2) (by show -2147483648 ≤ xz42.toInt + p2.toInt; omega) (by show xz42.toInt + p2.toInt < 2147483648; omega)
        refine va_iald hx hb hK hP 1 0 rfl rfl (vp_in_iff.mpr ⟨by omega, by omega⟩) dX11_isAtRest_31 ?_
        refine lv_topi (fun xz44 exz44 => ?_)
        refine lv_aload_n hx hb dX11_isAtRest_32 rfl (lv_at hl 0 rfl) ?_
        refine va_get (D := (dC, dI)) (ci := 11) (v := .ref (qX 1)) (C := RX11) (T := TX11) (N := 15) hx hb hts (fun w h => List.mem_cons_of_mem _ (List.mem_append_right _ (List.mem_append_left _ h))) hown hK hP 0 rfl rfl 11 (by decide) (hts (.fieldLink RX11 76 "SagMemory" "ownLosses" "[I") (wl_mem 2 rfl)) (fun _ h9 => h9) rfl dX11_isAtRest_33 ?_
        refine lv_iload_n hx hb dX11_isAtRest_36 rfl (lv_at hl 3 rfl) ?_
        refine va_iald hx hb hK hP 1 0 rfl rfl (vp_in_iff.mpr ⟨by omega, by omega⟩) dX11_isAtRest_37 ?_
        refine lv_topi (fun xz45 exz45 => ?_)
        refine lv_icmp_lt (tgt := 61) hx hb dX11_isAtRest_38 (by decide) (fun cz46 => ?_) (fun cz46 => ?_)
        · skip
          have bz47 := fb_rng xz44
          have bz48 := fb_rng xz45
          have zz49 : xz44.toInt < xz45.toInt := zi_lt.mp cz46
          refine lv_iconst (v := 0) hx hb dX11_isAtRest_61 (by decide) ?_
          rw [hQ]
          exact W.zret (v := (0 : Int32)) hx hb hr rfl (fun t ht hW => ⟨(0 : Int32), rfl, (by show (0 : Int) = 0 ∨ (0 : Int) = 1; omega), ht⟩) (fun _ h => absurd h List.not_mem_nil) dX11_isAtRest_62
        · skip
          have bz50 := fb_rng xz44
          have bz51 := fb_rng xz45
          have zz52 : ¬ xz44.toInt < xz45.toInt := fun h9 => cz46 (zi_lt.mpr h9)
          refine lv_aload_n hx hb dX11_isAtRest_41 rfl (lv_at hl 0 rfl) ?_
          refine va_get (D := (dC, dI)) (ci := 11) (v := .ref (qX 2)) (C := RX11) (T := TX11) (N := 15) hx hb hts (fun w h => List.mem_cons_of_mem _ (List.mem_append_right _ (List.mem_append_left _ h))) hown hK hP 0 rfl rfl 12 (by decide) (hts (.fieldLink RX11 80 "SagMemory" "otherLosses" "[I") (wl_mem 3 rfl)) (fun _ h9 => h9) rfl dX11_isAtRest_42 ?_
          refine lv_iload_n hx hb dX11_isAtRest_45 rfl (lv_at hl 1 rfl) ?_
          refine lv_iconst (v := 3) hx hb dX11_isAtRest_46 (by decide) ?_
          refine lv_imul hx hb dX11_isAtRest_47 ?_
          refine lv_topi (fun xz53 exz53 => ?_)
          have fxz53 : xz53.toInt = p1.toInt * (3 : Int) := by rw [exz53]; exact fb_mulI (x := p1) (y := (3 : Int32)) (by show -2147483648 ≤ p1.toInt * (3 : Int); omega) (by show p1.toInt * (3 : Int) < 2147483648; omega)
          refine lv_iload hx hb dX11_isAtRest_48 (lv_at hl 4 rfl) ?_
          refine lv_iadd hx hb dX11_isAtRest_50 ?_
          refine lv_topi (fun xz54 exz54 => ?_)
          have fxz54 : xz54.toInt = xz53.toInt + xz33.toInt := by rw [exz54]; exact fb_addI (x := xz53) (y := xz33) (by show -2147483648 ≤ xz53.toInt + xz33.toInt; omega) (by show xz53.toInt + xz33.toInt < 2147483648; omega)
          refine va_iald hx hb hK hP 2 0 rfl rfl (vp_in_iff.mpr ⟨by omega, by omega⟩) dX11_isAtRest_51 ?_
          refine lv_topi (fun xz55 exz55 => ?_)
          refine lv_aload_n hx hb dX11_isAtRest_52 rfl (lv_at hl 0 rfl) ?_
          refine va_get (D := (dC, dI)) (ci := 11) (v := .ref (qX 2)) (C := RX11) (T := TX11) (N := 15) hx hb hts (fun w h => List.mem_cons_of_mem _ (List.mem_append_right _ (List.mem_append_left _ h))) hown hK hP 0 rfl rfl 12 (by decide) (hts (.fieldLink RX11 80 "SagMemory" "otherLosses" "[I") (wl_mem 3 rfl)) (fun _ h9 => h9) rfl dX11_isAtRest_53 ?_
          refine lv_iload_n hx hb dX11_isAtRest_56 rfl (lv_at hl 3 rfl) ?_
          refine va_iald hx hb hK hP 2 0 rfl rfl (vp_in_iff.mpr ⟨by omega, by omega⟩) dX11_isAtRest_57 ?_
          refine lv_topi (fun xz56 exz56 => ?_)
          refine lv_icmp_ge (tgt := 63) hx hb dX11_isAtRest_58 (by decide) (fun cz57 => ?_) (fun cz57 => ?_)
          · skip
            have bz58 := fb_rng xz56
            have bz59 := fb_rng xz55
            have zz60 : xz56.toInt ≤ xz55.toInt := zi_le.mp cz57
            obtain ⟨xz61, exz61⟩ : ∃ y : Int32, y = xz33 + Int32.ofInt (1) := ⟨_, rfl⟩
            have fxz61 : xz61.toInt = xz33.toInt + (1) := by rw [exz61]; exact fb_addI (y := Int32.ofInt (1)) (by show -2147483648 ≤ xz33.toInt + (1); omega) (by show xz33.toInt + (1) < 2147483648; omega)
            refine lv_iinc (v := xz61) (lv' := [(4, .int xz61), (0, .ref (qX 0)), (1, .int p1), (2, .int p2), (3, .int xz2)]) hx hb dX11_isAtRest_63 hl (k := 4) rfl exz61.symm (by decide) rfl (fun ls hl => ?_)
            refine lv_goto (tgt := 9) hx hb dX11_isAtRest_66 (by decide) ?_
            exact ih9 ls xz61 (by show (2147483647 - xz61.toInt).toNat < n9_9; omega) (by show 0 ≤ xz61.toInt; omega) (lv_sub hl [1, 2, 3, 4, 0] rfl)
          · skip
            have bz62 := fb_rng xz56
            have bz63 := fb_rng xz55
            have zz64 : ¬ xz56.toInt ≤ xz55.toInt := fun h9 => cz57 (zi_le.mpr h9)
            refine lv_iconst (v := 0) hx hb dX11_isAtRest_61 (by decide) ?_
            rw [hQ]
            exact W.zret (v := (0 : Int32)) hx hb hr rfl (fun t ht hW => ⟨(0 : Int32), rfl, (by show (0 : Int) = 0 ∨ (0 : Int) = 1; omega), ht⟩) (fun _ h => absurd h List.not_mem_nil) dX11_isAtRest_62
  exact lp9_kz34 _ ls (0 : Int32) (Nat.lt_succ_self _) (by show 0 ≤ (0 : Int); omega) (lv_sub hl [2, 3, 4, 1, 0] rfl)
def wk_c_X11_waysTo : List Cond := .code yX11_waysTo cX11_waysTo 3 (some .long) :: ([.methodLink RX11 307 yJ6_bitCount_0f7a4, .static yJ6_bitCount_0f7a4, .initialized RJ6, .fieldLink RX11 19 "SagMemory" "told" "LSagMemory$Valley;", .fieldLink RX11 360 "SagMemory$Valley" "odds" "I", .methodLink RX11 336 yX11_power, .static yX11_power, .initialized RX11, .fieldLink RX11 177 "SagMemory$Valley" "carts" "I"] ++ (wk_c_J6_bitCount_0f7a4 ++ (wsX110 ++ (wsX100 ++ (wk_c_X11_power ++ [])))))
theorem wkg_c_X11_waysTo : wk_c_X11_waysTo.all goodWord = true := by decide +kernel
set_option maxHeartbeats 4000000 in
set_option maxRecDepth 100000 in
theorem c_X11_waysTo (l : Launch) (dC : Nat → ClassId) (dI : Nat → Nat → Nat) (k : Nat → ClassId) (qX : Nat → Nat) (tapeX : Nat) (actsX : Nat) (nowX : Nat) (trialX : Nat) (storyX : Nat) (attemptX : Nat) (orderSearchX : Nat) (routeSearchX : Nat) (setSearchX : Nat) (probeX : Nat) (slot0X : Nat) (slot1X : Nat) (slot2X : Nat) (slot3X : Nat) (image0X : Nat) (image1X : Nat) (image2X : Nat) (aX : Nat → Nat → Int32) (qV : Nat → Nat) (vV : Nat → Int32) (bV : Nat → Int32) (cV : Nat → Int32) (wV : Nat → Int32) (aV : Nat → Nat → Int32) (eV : Nat → Nat → Int32) (p1 : Int32) (hbV : Rg 0 3 bV) (hcV : Rg 0 7 cV) (hwV : Rg 0 5 wV) (heV : RgA 0 99 eV) : Met l yX11_waysTo wk_c_X11_waysTo ({ frames := 1, cells := 0, slots := 0, locals := 24 }) (va_Pc [.ref (qX 0), .int p1] (fun U => va_P (dC, dI) vwCl (List.flatten [(wSag qX k tapeX (qV 0) actsX nowX trialX storyX attemptX orderSearchX routeSearchX setSearchX probeX slot0X slot1X slot2X slot3X image0X image1X image2X aX), (wValley qV k vV bV cV wV aV eV)]) U.heap ∧ va_K (dC, dI) vwCl (tK k) U)) (vp_Sl (fun r : Int64 => True)) 0 0 (fun _ => False) := by
  refine Met.ofW (cc := cX11_waysTo) (maxL := 3) (ret := (some .long)) (by decide) rfl ?_
  intro p e s m args below meth c s₁ B hml hv
  obtain ⟨rfl, hP, hK⟩ := hv
  have hx := B.exec
  have hb := B.bytes
  have hr := B.returns
  have hts := atoms_spec (ws := wk_c_X11_waysTo) B.pre
  have hown : s.vm.findClass RX11 = some m.cls := findClass_of_methodNamed B.named
  have hlocks := B.notSynchronized
  have hP : va_P (dC, dI) vwCl (List.flatten [(wSag qX k tapeX (qV 0) actsX nowX trialX storyX attemptX orderSearchX routeSearchX setSearchX probeX slot0X slot1X slot2X slot3X image0X image1X image2X aX), (wValley qV k vV bV cV wV aV eV)]) s.heap := hP
  have hl := lv_entry ([.ref (qX 0), .int p1]) (n := 3) (Nat.le_of_ble_eq_true rfl)
  rw [lg_entry_eq]
  generalize (lg_sl ([.ref (qX 0), .int p1]) ++ List.replicate (3 - (lg_sl ([.ref (qX 0), .int p1])).length) Slot.unset).toArray = ls at hl ⊢
  have hl : lv_has ls 3 [(0, .ref (qX 0)), (1, .int p1)] := hl
  refine w_gen (fun Q hQ => ?_)
  refine lv_iload_n hx hb dX11_waysTo_0 rfl (lv_at hl 1 rfl) ?_
  have hPc : va_P (dC, dI) vwCl (List.flatten ([] : List va_W)) s.heap := fun k q h => by simp at h
  refine vp_callSi (va_Run.run (va_runS (As := [.int p1]) (rest := []) ⟨hx, hb, hml, hown, hts⟩ (c_J6_bitCount_0f7a4 l dC dI k p1) (va_cwS 1 hts (gk_S (wl_mem 0 rfl) (wl_mem 1 rfl) (wl_mem 2 rfl) (fun w h => List.mem_cons_of_mem _ (List.mem_append_right _ (List.mem_append_left _ h))) wkg_c_J6_bitCount_0f7a4) rfl rfl rfl (by decide +kernel) ⟨Nat.le_of_ble_eq_true rfl, Nat.le_of_ble_eq_true rfl⟩) ⟨fun a U g mk q => by obtain ⟨q0, qP, qK⟩ := q; exact ⟨q0, qP, va_K.moved (u := U) (U := U.calling g mk a) (Vm.Alike.refl U.vm) qK⟩, fun U hU hW => ⟨rfl, by rw [hU]; exact hPc, va_K.moved hW.alike hK⟩⟩ rfl rfl hl.1 rfl (lv_room (Nat.le_of_ble_eq_true rfl)) dX11_waysTo_1 ⟨Nat.le_of_ble_eq_true rfl, Nat.le_of_ble_eq_true rfl⟩)) (fun rz2 gz1 => ?_)
  clear hPc
  have pz3 := gz1
  have pz3 : 0 ≤ rz2.toInt ∧ rz2.toInt ≤ 63 := pz3
  refine lv_istore_n (lv' := [(2, .int rz2), (0, .ref (qX 0)), (1, .int p1)]) hx hb dX11_waysTo_4 rfl hl (by decide) rfl (fun ls hl => ?_)
  refine lv_aload_n hx hb dX11_waysTo_5 rfl (lv_at hl 1 rfl) ?_
  refine va_get (D := (dC, dI)) (ci := 11) (v := .ref (qV 0)) (C := RX11) (T := TX11) (N := 15) hx hb hts (fun w h => List.mem_cons_of_mem _ (List.mem_append_right _ (List.mem_append_right _ (List.mem_append_left _ h)))) hown hK hP 0 rfl rfl 1 (by decide) (hts (.fieldLink RX11 19 "SagMemory" "told" "LSagMemory$Valley;") (wl_mem 3 rfl)) (fun _ h9 => h9) rfl dX11_waysTo_6 ?_
  refine va_get (D := (dC, dI)) (ci := 10) (v := .int (vV 3)) (C := RX10) (T := TX10) (N := 16) hx hb hts (fun w h => List.mem_cons_of_mem _ (List.mem_append_right _ (List.mem_append_right _ (List.mem_append_right _ (List.mem_append_left _ h))))) hown hK hP 5 rfl rfl 10 (by decide) (hts (.fieldLink RX11 360 "SagMemory$Valley" "odds" "I") (wl_mem 4 rfl)) (fun _ h9 => h9) rfl dX11_waysTo_9 ?_
  refine lv_iload_n hx hb dX11_waysTo_12 rfl (lv_at hl 0 rfl) ?_
  have hPc : va_P (dC, dI) vwCl (List.flatten ([] : List va_W)) s.heap := fun k q h => by simp at h
  refine vp_callSl (va_Run.run (va_runS (As := [.int (vV 3), .int rz2]) (rest := []) ⟨hx, hb, hml, hown, hts⟩ (c_X11_power l dC dI k (vV 3) rz2) (va_cwS 2 hts (gk_S (wl_mem 5 rfl) (wl_mem 6 rfl) (wl_mem 7 rfl) (fun w h => List.mem_cons_of_mem _ (List.mem_append_right _ (List.mem_append_right _ (List.mem_append_right _ (List.mem_append_right _ (List.mem_append_left _ h)))))) wkg_c_X11_power) rfl rfl rfl (by decide +kernel) ⟨Nat.le_of_ble_eq_true rfl, Nat.le_of_ble_eq_true rfl⟩) ⟨fun a U g mk q => by obtain ⟨q0, qP, qK⟩ := q; exact ⟨q0, qP, va_K.moved (u := U) (U := U.calling g mk a) (Vm.Alike.refl U.vm) qK⟩, fun U hU hW => ⟨rfl, by rw [hU]; exact hPc, va_K.moved hW.alike hK⟩⟩ rfl rfl hl.1 rfl (lv_room (Nat.le_of_ble_eq_true rfl)) dX11_waysTo_13 ⟨Nat.le_of_ble_eq_true rfl, Nat.le_of_ble_eq_true rfl⟩)) (fun rz5 gz4 => ?_)
  clear hPc
  refine lv_bipush (v := 10) hx hb dX11_waysTo_16 (by decide) ?_
  refine lv_aload_n hx hb dX11_waysTo_18 rfl (lv_at hl 1 rfl) ?_
  refine va_get (D := (dC, dI)) (ci := 11) (v := .ref (qV 0)) (C := RX11) (T := TX11) (N := 15) hx hb hts (fun w h => List.mem_cons_of_mem _ (List.mem_append_right _ (List.mem_append_right _ (List.mem_append_left _ h)))) hown hK hP 0 rfl rfl 1 (by decide) (hts (.fieldLink RX11 19 "SagMemory" "told" "LSagMemory$Valley;") (wl_mem 3 rfl)) (fun _ h9 => h9) rfl dX11_waysTo_19 ?_
  refine va_get (D := (dC, dI)) (ci := 10) (v := .int (vV 3)) (C := RX10) (T := TX10) (N := 16) hx hb hts (fun w h => List.mem_cons_of_mem _ (List.mem_append_right _ (List.mem_append_right _ (List.mem_append_right _ (List.mem_append_left _ h))))) hown hK hP 5 rfl rfl 10 (by decide) (hts (.fieldLink RX11 360 "SagMemory$Valley" "odds" "I") (wl_mem 4 rfl)) (fun _ h9 => h9) rfl dX11_waysTo_22 ?_
  refine lv_isub hx hb dX11_waysTo_25 ?_
  refine lv_topi (fun xz6 exz6 => ?_)
  refine lv_aload_n hx hb dX11_waysTo_26 rfl (lv_at hl 1 rfl) ?_
  refine va_get (D := (dC, dI)) (ci := 11) (v := .ref (qV 0)) (C := RX11) (T := TX11) (N := 15) hx hb hts (fun w h => List.mem_cons_of_mem _ (List.mem_append_right _ (List.mem_append_right _ (List.mem_append_left _ h)))) hown hK hP 0 rfl rfl 1 (by decide) (hts (.fieldLink RX11 19 "SagMemory" "told" "LSagMemory$Valley;") (wl_mem 3 rfl)) (fun _ h9 => h9) rfl dX11_waysTo_27 ?_
  refine va_get (D := (dC, dI)) (ci := 10) (v := .int (cV 0)) (C := RX10) (T := TX10) (N := 16) hx hb hts (fun w h => List.mem_cons_of_mem _ (List.mem_append_right _ (List.mem_append_right _ (List.mem_append_right _ (List.mem_append_left _ h))))) hown hK hP 5 rfl rfl 12 (by decide) (hts (.fieldLink RX11 177 "SagMemory$Valley" "carts" "I") (wl_mem 8 rfl)) (fun _ h9 => h9) rfl dX11_waysTo_30 ?_
  have bz7 := hcV 0
  refine lv_iload_n hx hb dX11_waysTo_33 rfl (lv_at hl 0 rfl) ?_
  refine lv_isub hx hb dX11_waysTo_34 ?_
  refine lv_topi (fun xz8 exz8 => ?_)
  have fxz8 : xz8.toInt = (cV 0).toInt - rz2.toInt := by rw [exz8]; exact fb_subI (x := (cV 0)) (y := rz2) (by show -2147483648 ≤ (cV 0).toInt - rz2.toInt; omega) (by show (cV 0).toInt - rz2.toInt < 2147483648; omega)
  have hPc : va_P (dC, dI) vwCl (List.flatten ([] : List va_W)) s.heap := fun k q h => by simp at h
  refine vp_callSl (va_Run.run (va_runS (As := [.int xz6, .int xz8]) (rest := [.long rz5]) ⟨hx, hb, hml, hown, hts⟩ (c_X11_power l dC dI k xz6 xz8) (va_cwS 2 hts (gk_S (wl_mem 5 rfl) (wl_mem 6 rfl) (wl_mem 7 rfl) (fun w h => List.mem_cons_of_mem _ (List.mem_append_right _ (List.mem_append_right _ (List.mem_append_right _ (List.mem_append_right _ (List.mem_append_left _ h)))))) wkg_c_X11_power) rfl rfl rfl (by decide +kernel) ⟨Nat.le_of_ble_eq_true rfl, Nat.le_of_ble_eq_true rfl⟩) ⟨fun a U g mk q => by obtain ⟨q0, qP, qK⟩ := q; exact ⟨q0, qP, va_K.moved (u := U) (U := U.calling g mk a) (Vm.Alike.refl U.vm) qK⟩, fun U hU hW => ⟨rfl, by rw [hU]; exact hPc, va_K.moved hW.alike hK⟩⟩ rfl rfl hl.1 rfl (lv_room (Nat.le_of_ble_eq_true rfl)) dX11_waysTo_35 ⟨Nat.le_of_ble_eq_true rfl, Nat.le_of_ble_eq_true rfl⟩)) (fun rz10 gz9 => ?_)
  clear hPc
  refine lv_lmul hx hb dX11_waysTo_38 ?_
  refine lv_topl (fun xz11 exz11 => ?_)
  rw [hQ]
  exact W.lret (v := xz11) hx hb hr (fun t ht hW => ⟨xz11, rfl, trivial, ht⟩) (fun _ h => absurd h List.not_mem_nil) dX11_waysTo_39
def wk_c_X11_winterOf : List Cond := .code yX11_winterOf cX11_winterOf 7 (some .int) :: ([.fieldLink RX11 19 "SagMemory" "told" "LSagMemory$Valley;", .fieldLink RX11 177 "SagMemory$Valley" "carts" "I", .constantLong RX11 448 (1103515245), .constantLong RX11 450 (12345), .constantLong RX11 452 (2147483648), .constantLong RX11 454 (65536), .constantLong RX11 456 (10), .fieldLink RX11 360 "SagMemory$Valley" "odds" "I"] ++ (wsX110 ++ (wsX100 ++ [])))
theorem wkg_c_X11_winterOf : wk_c_X11_winterOf.all goodWord = true := by decide +kernel
set_option maxHeartbeats 4000000 in
set_option maxRecDepth 100000 in
theorem c_X11_winterOf (l : Launch) (dC : Nat → ClassId) (dI : Nat → Nat → Nat) (k : Nat → ClassId) (qX : Nat → Nat) (tapeX : Nat) (actsX : Nat) (nowX : Nat) (trialX : Nat) (storyX : Nat) (attemptX : Nat) (orderSearchX : Nat) (routeSearchX : Nat) (setSearchX : Nat) (probeX : Nat) (slot0X : Nat) (slot1X : Nat) (slot2X : Nat) (slot3X : Nat) (image0X : Nat) (image1X : Nat) (image2X : Nat) (aX : Nat → Nat → Int32) (qV : Nat → Nat) (vV : Nat → Int32) (bV : Nat → Int32) (cV : Nat → Int32) (wV : Nat → Int32) (aV : Nat → Nat → Int32) (eV : Nat → Nat → Int32) (p1 : Int64) (hbV : Rg 0 3 bV) (hcV : Rg 0 7 cV) (hwV : Rg 0 5 wV) (heV : RgA 0 99 eV) : Met l yX11_winterOf wk_c_X11_winterOf ({ frames := 0, cells := 0, slots := 0, locals := 0 }) (va_Pc [.ref (qX 0), .long p1] (fun U => va_P (dC, dI) vwCl (List.flatten [(wSag qX k tapeX (qV 0) actsX nowX trialX storyX attemptX orderSearchX routeSearchX setSearchX probeX slot0X slot1X slot2X slot3X image0X image1X image2X aX), (wValley qV k vV bV cV wV aV eV)]) U.heap ∧ va_K (dC, dI) vwCl (tK k) U)) (vp_Si (fun r : Int32 => True)) 0 0 (fun _ => False) := by
  refine Met.ofW (cc := cX11_winterOf) (maxL := 7) (ret := (some .int)) (by decide) rfl ?_
  intro p e s m args below meth c s₁ B hml hv
  obtain ⟨rfl, hP, hK⟩ := hv
  have hx := B.exec
  have hb := B.bytes
  have hr := B.returns
  have hts := atoms_spec (ws := wk_c_X11_winterOf) B.pre
  have hown : s.vm.findClass RX11 = some m.cls := findClass_of_methodNamed B.named
  have hlocks := B.notSynchronized
  have hP : va_P (dC, dI) vwCl (List.flatten [(wSag qX k tapeX (qV 0) actsX nowX trialX storyX attemptX orderSearchX routeSearchX setSearchX probeX slot0X slot1X slot2X slot3X image0X image1X image2X aX), (wValley qV k vV bV cV wV aV eV)]) s.heap := hP
  have hl := lv_entry ([.ref (qX 0), .long p1]) (n := 7) (Nat.le_of_ble_eq_true rfl)
  rw [lg_entry_eq]
  generalize (lg_sl ([.ref (qX 0), .long p1]) ++ List.replicate (7 - (lg_sl ([.ref (qX 0), .long p1])).length) Slot.unset).toArray = ls at hl ⊢
  have hl : lv_has ls 7 [(0, .ref (qX 0)), (1, .long p1)] := hl
  refine w_gen (fun Q hQ => ?_)
  refine lv_lload_n hx hb dX11_winterOf_0 rfl (lv_at hl 1 rfl) ?_
  refine lv_lstore_n (lv' := [(3, .long p1), (0, .ref (qX 0)), (1, .long p1)]) hx hb dX11_winterOf_1 rfl hl (by decide) rfl (fun ls hl => ?_)
  refine lv_iconst (v := 0) hx hb dX11_winterOf_2 (by decide) ?_
  refine lv_istore (lv' := [(5, .int 0), (3, .long p1), (0, .ref (qX 0)), (1, .long p1)]) hx hb dX11_winterOf_3 hl (by decide) rfl (fun ls hl => ?_)
  refine lv_iconst (v := 0) hx hb dX11_winterOf_5 (by decide) ?_
  refine lv_istore (lv' := [(6, .int 0), (5, .int 0), (3, .long p1), (0, .ref (qX 0)), (1, .long p1)]) hx hb dX11_winterOf_6 hl (by decide) rfl (fun ls hl => ?_)
  have lp8_kz31 : ∀ (n9_8 : Nat) (ls : Array Slot) (xz28 : Int64) (xz29 : Int32) (xz30 : Int32), (2147483647 - xz30.toInt).toNat < n9_8 → 0 ≤ xz30.toInt → lv_has ls 7 [(0, .ref (qX 0)), (3, .long xz28), (5, .int xz29), (6, .int xz30)] → W p l e (headSpec wk_c_X11_winterOf ({ frames := 0, cells := 0, slots := 0, locals := 0 })).room s m ([.ref (qX 0), .long p1] : List Value).toArray below meth c s.heap [] 0 0 Q (F0 m 8 ls []) := by
    intro n9_8
    induction n9_8 with
    | zero => intro ls xz28 xz29 xz30 hm; exact absurd hm (Nat.not_lt_zero _)
    | succ n9_8 ih8 =>
      intro ls xz28 xz29 xz30 hm8 jz32 hl
      refine lv_iload hx hb dX11_winterOf_8 (lv_at hl 3 rfl) ?_
      refine lv_aload_n hx hb dX11_winterOf_10 rfl (lv_at hl 0 rfl) ?_
      refine va_get (D := (dC, dI)) (ci := 11) (v := .ref (qV 0)) (C := RX11) (T := TX11) (N := 15) hx hb hts (fun w h => List.mem_cons_of_mem _ (List.mem_append_right _ (List.mem_append_left _ h))) hown hK hP 0 rfl rfl 1 (by decide) (hts (.fieldLink RX11 19 "SagMemory" "told" "LSagMemory$Valley;") (wl_mem 0 rfl)) (fun _ h9 => h9) rfl dX11_winterOf_11 ?_
      refine va_get (D := (dC, dI)) (ci := 10) (v := .int (cV 0)) (C := RX10) (T := TX10) (N := 16) hx hb hts (fun w h => List.mem_cons_of_mem _ (List.mem_append_right _ (List.mem_append_right _ (List.mem_append_left _ h)))) hown hK hP 5 rfl rfl 12 (by decide) (hts (.fieldLink RX11 177 "SagMemory$Valley" "carts" "I") (wl_mem 1 rfl)) (fun _ h9 => h9) rfl dX11_winterOf_14 ?_
      have bz33 := hcV 0
      refine lv_icmp_ge (tgt := 70) hx hb dX11_winterOf_17 (by decide) (fun cz34 => ?_) (fun cz34 => ?_)
      · skip
        have bz35 := fb_rng xz30
        have zz36 : (cV 0).toInt ≤ xz30.toInt := zi_le.mp cz34
        refine lv_iload hx hb dX11_winterOf_70 (lv_at hl 2 rfl) ?_
        rw [hQ]
        exact W.iret (v := xz29) hx hb hr (fun t ht hW => ⟨xz29, rfl, trivial, ht⟩) (fun _ h => absurd h List.not_mem_nil) dX11_winterOf_72
      · skip
        have bz37 := fb_rng xz30
        have zz38 : ¬ (cV 0).toInt ≤ xz30.toInt := fun h9 => cz34 (zi_le.mpr h9)
        refine lv_ldc2 (v := 1103515245) hx hb hown (hts (.constantLong RX11 448 (1103515245)) (wl_mem 2 rfl)) dX11_winterOf_20 ?_
        refine lv_lload_n hx hb dX11_winterOf_23 rfl (lv_at hl 1 rfl) ?_
        refine lv_lmul hx hb dX11_winterOf_24 ?_
        refine lv_topl (fun xz39 exz39 => ?_)
        refine lv_ldc2 (v := 12345) hx hb hown (hts (.constantLong RX11 450 (12345)) (wl_mem 3 rfl)) dX11_winterOf_25 ?_
        refine lv_ladd hx hb dX11_winterOf_28 ?_
        refine lv_topl (fun xz40 exz40 => ?_)
        refine lv_ldc2 (v := 2147483648) hx hb hown (hts (.constantLong RX11 452 (2147483648)) (wl_mem 4 rfl)) dX11_winterOf_29 ?_
        refine lv_lrem hx hb dX11_winterOf_32 (by decide) ?_
        refine lv_topl (fun xz41 exz41 => ?_)
        refine lv_lstore_n (lv' := [(3, .long xz41), (0, .ref (qX 0)), (5, .int xz29), (6, .int xz30)]) hx hb dX11_winterOf_33 rfl hl (by decide) rfl (fun ls hl => ?_)
        refine lv_lload_n hx hb dX11_winterOf_34 rfl (lv_at hl 0 rfl) ?_
        refine lv_ldc2 (v := 65536) hx hb hown (hts (.constantLong RX11 454 (65536)) (wl_mem 5 rfl)) dX11_winterOf_35 ?_
        refine lv_ldiv hx hb dX11_winterOf_38 (by decide) ?_
        refine lv_topl (fun xz42 exz42 => ?_)
        refine lv_ldc2 (v := 10) hx hb hown (hts (.constantLong RX11 456 (10)) (wl_mem 6 rfl)) dX11_winterOf_39 ?_
        refine lv_lrem hx hb dX11_winterOf_42 (by decide) ?_
        refine lv_topl (fun xz43 exz43 => ?_)
        refine lv_aload_n hx hb dX11_winterOf_43 rfl (lv_at hl 1 rfl) ?_
        refine va_get (D := (dC, dI)) (ci := 11) (v := .ref (qV 0)) (C := RX11) (T := TX11) (N := 15) hx hb hts (fun w h => List.mem_cons_of_mem _ (List.mem_append_right _ (List.mem_append_left _ h))) hown hK hP 0 rfl rfl 1 (by decide) (hts (.fieldLink RX11 19 "SagMemory" "told" "LSagMemory$Valley;") (wl_mem 0 rfl)) (fun _ h9 => h9) rfl dX11_winterOf_44 ?_
        refine va_get (D := (dC, dI)) (ci := 10) (v := .int (vV 3)) (C := RX10) (T := TX10) (N := 16) hx hb hts (fun w h => List.mem_cons_of_mem _ (List.mem_append_right _ (List.mem_append_right _ (List.mem_append_left _ h)))) hown hK hP 5 rfl rfl 10 (by decide) (hts (.fieldLink RX11 360 "SagMemory$Valley" "odds" "I") (wl_mem 7 rfl)) (fun _ h9 => h9) rfl dX11_winterOf_47 ?_
        refine lv_i2l hx hb dX11_winterOf_50 rfl ?_
        refine W.lcmp hx hb dX11_winterOf_51 ?_
        have ct64_kz50 : ∀ (ls : Array Slot) (xz49 : Int32), lv_has ls 7 [(0, .ref (qX 0)), (3, .long xz41), (5, .int xz49), (6, .int xz30)] → W p l e (headSpec wk_c_X11_winterOf ({ frames := 0, cells := 0, slots := 0, locals := 0 })).room s m ([.ref (qX 0), .long p1] : List Value).toArray below meth c s.heap [] 0 0 Q (F0 m 64 ls []) := by
          intro ls xz49  hl
          obtain ⟨xz51, exz51⟩ : ∃ y : Int32, y = xz30 + Int32.ofInt (1) := ⟨_, rfl⟩
          have fxz51 : xz51.toInt = xz30.toInt + (1) := by rw [exz51]; exact fb_addI (y := Int32.ofInt (1)) (by show -2147483648 ≤ xz30.toInt + (1); omega) (by show xz30.toInt + (1) < 2147483648; omega)
          refine lv_iinc (v := xz51) (lv' := [(6, .int xz51), (0, .ref (qX 0)), (3, .long xz41), (5, .int xz49)]) hx hb dX11_winterOf_64 hl (k := 3) rfl exz51.symm (by decide) rfl (fun ls hl => ?_)
          refine lv_goto (tgt := 8) hx hb dX11_winterOf_67 (by decide) ?_
          exact ih8 ls xz41 xz49 xz51 (by show (2147483647 - xz51.toInt).toNat < n9_8; omega) (by show 0 ≤ xz51.toInt; omega) (lv_sub hl [1, 2, 3, 0] rfl)
        refine lv_if_ge (tgt := 64) hx hb dX11_winterOf_52 (by decide) (fun cz52 => ?_) (fun cz52 => ?_)
        · skip
          rw [lg_cmp_ge] at cz52
          have zz53 : (vV 3).toInt ≤ xz43.toInt := by have h9 := zi_leL.mp cz52; simp only [Int32.toInt_toInt64] at h9; exact h9
          exact ct64_kz50 ls xz29   (lv_sub hl [1, 0, 2, 3] rfl)
        · skip
          rw [lg_cmp_ge] at cz52
          have zz54 : ¬ (vV 3).toInt ≤ xz43.toInt := by intro h9; apply cz52; rw [zi_leL]; simp only [Int32.toInt_toInt64]; exact h9
          refine lv_iload hx hb dX11_winterOf_55 (lv_at hl 2 rfl) ?_
          refine lv_iconst (v := 1) hx hb dX11_winterOf_57 (by decide) ?_
          refine lv_iload hx hb dX11_winterOf_58 (lv_at hl 3 rfl) ?_
          refine lv_ishl hx hb dX11_winterOf_60 ?_
          refine lv_topi (fun xz55 exz55 => ?_)
          refine lv_ior hx hb dX11_winterOf_61 ?_
          refine lv_topi (fun xz56 exz56 => ?_)
          refine lv_istore (lv' := [(5, .int xz56), (3, .long xz41), (0, .ref (qX 0)), (6, .int xz30)]) hx hb dX11_winterOf_62 hl (by decide) rfl (fun ls hl => ?_)
          exact ct64_kz50 ls xz56   (lv_sub hl [2, 1, 0, 3] rfl)
  exact lp8_kz31 _ ls p1 (0 : Int32) (0 : Int32) (Nat.lt_succ_self _) (by show 0 ≤ (0 : Int); omega) (lv_sub hl [3, 2, 1, 0] rfl)
