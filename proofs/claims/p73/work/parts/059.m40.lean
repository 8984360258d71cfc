def wk_c_isRoom_3 : List Cond := .code yX12_isRoom cX12_isRoom 4 (some .boolean) :: ([.methodLink RX12 198 yX12_hasRead, .instanceMethod yX12_hasRead, .selects RX12 yX12_hasRead yX12_hasRead, .initialized RX12, .methodLink RX12 184 yX12_fails, .instanceMethod yX12_fails, .selects RX12 yX12_fails yX12_fails, .fieldLink RX12 168 "SagMemoryModel" "bad" "I", .methodLink RX12 178 yX12_next, .instanceMethod yX12_next, .selects RX12 yX12_next yX12_next] ++ (wk_c_hasRead_3 ++ (wk_c_X12_fails ++ (wsX120 ++ (wk_c_X12_next ++ [])))))
theorem wkg_c_isRoom_3 : wk_c_isRoom_3.all goodWord = true := by decide +kernel
set_option maxHeartbeats 4000000 in
set_option maxRecDepth 100000 in
theorem c_isRoom_3 (l : Launch) (dC : Nat → ClassId) (dI : Nat → Nat → Nat) (k : Nat → ClassId) (sz : Nat) (qO : Nat → Nat) (widthO : Nat) (manyO : Nat) (cellsO : Nat) (movedO : Nat) (linesO : Nat) (bridgeO : Nat) (cartO : Nat) (wardO : Nat) (frostAtO : Nat) (actO : Nat) (isKeptO : Nat) (loadNowO : Nat) (byNowO : Nat) (rowO : Nat) (memoryO : Nat) (whoseO : Nat) (deepNowO : Nat) (brokenByO : Nat) (brokenAtO : Nat) (goesByO : Nat) (comesToO : Nat) (sagMoreO : Nat) (creakOfO : Nat) (wipedByO : Nat) (deepAtO : Nat) (sagAtO : Nat) (loadAtO : Nat) (orderRowO : Nat) (oftenO : Nat) (lossOneO : Nat) (lossOtherO : Nat) (vO : Nat → Int32) (tO : Nat → Int32) (mO : Nat → Int32) (gO : Nat → Int64) (qTa : Nat → Nat) (aTa : Nat → Nat → Int32) (qHa : Nat → Nat) (hHa : Nat → Nat → Int32) (p1 : Int32) (htO : Rg 0 700 tO) (hmO : Rg (-1) 127 mO) (hhHa : Pa_h hHa) (hp0 : (tO 1).toInt ≤ (tO 0).toInt) (hp1 : 0 ≤ p1.toInt ∧ p1.toInt ≤ 1) : Met l yX12_isRoom wk_c_isRoom_3 ({ frames := 2, cells := 0, slots := 0, locals := 44 }) (va_Pc [.ref (qO 0), .int p1, .int 3, .int 3] (fun U => U.heap.size = sz ∧ va_P (dC, dI) vwCl (List.flatten [(wMO qO k widthO manyO cellsO movedO (qTa 0) linesO (qHa 0) bridgeO cartO wardO frostAtO actO isKeptO loadNowO byNowO rowO memoryO whoseO deepNowO brokenByO brokenAtO goesByO comesToO sagMoreO creakOfO wipedByO deepAtO sagAtO loadAtO orderRowO oftenO lossOneO lossOtherO vO tO mO gO)] ++ List.flatten [(wmTa qTa k aTa), (wmHa qHa k hHa)]) U.heap ∧ va_K (dC, dI) vwCl (tK k) U ∧ va_D (fun _ => True) (List.flatten [(wMO qO k widthO manyO cellsO movedO (qTa 0) linesO (qHa 0) bridgeO cartO wardO frostAtO actO isKeptO loadNowO byNowO rowO memoryO whoseO deepNowO brokenByO brokenAtO goesByO comesToO sagMoreO creakOfO wipedByO deepAtO sagAtO loadAtO orderRowO oftenO lossOneO lossOtherO vO tO mO gO)] ++ List.flatten [(wmTa qTa k aTa), (wmHa qHa k hHa)]))) (va_Qi (fun (r : Int32) (u : Int32) => r = u) (fun (u : Int32) (t : State) => ∃ (vO' : Nat → Int32) (tO' : Nat → Int32) (mO' : Nat → Int32) (gO' : Nat → Int64), Rg 0 700 tO' ∧ Rg (-1) 127 mO' ∧ ((tO' 0).toInt = (tO 0).toInt) ∧ ((tO' 1).toInt ≤ (tO 0).toInt) ∧ ((tO 1).toInt ≤ (tO' 1).toInt) ∧ (u.toInt = 0 ∨ ((hHa 0) 35).toInt < 3) ∧ (u.toInt = 0 ∨ u.toInt = 1) ∧ va_P (dC, dI) vwCl (List.flatten [(wMO qO k widthO manyO cellsO movedO (qTa 0) linesO (qHa 0) bridgeO cartO wardO frostAtO actO isKeptO loadNowO byNowO rowO memoryO whoseO deepNowO brokenByO brokenAtO goesByO comesToO sagMoreO creakOfO wipedByO deepAtO sagAtO loadAtO orderRowO oftenO lossOneO lossOtherO vO' tO' mO' gO')] ++ List.flatten [(wmTa qTa k aTa), (wmHa qHa k hHa)]) t.heap) (va_A (List.flatten [(wMO qO k widthO manyO cellsO movedO (qTa 0) linesO (qHa 0) bridgeO cartO wardO frostAtO actO isKeptO loadNowO byNowO rowO memoryO whoseO deepNowO brokenByO brokenAtO goesByO comesToO sagMoreO creakOfO wipedByO deepAtO sagAtO loadAtO orderRowO oftenO lossOneO lossOtherO vO tO mO gO)] ++ List.flatten [(wmTa qTa k aTa), (wmHa qHa k hHa)]) sz)) 0 0 (va_A (List.flatten [(wMO qO k widthO manyO cellsO movedO (qTa 0) linesO (qHa 0) bridgeO cartO wardO frostAtO actO isKeptO loadNowO byNowO rowO memoryO whoseO deepNowO brokenByO brokenAtO goesByO comesToO sagMoreO creakOfO wipedByO deepAtO sagAtO loadAtO orderRowO oftenO lossOneO lossOtherO vO tO mO gO)] ++ List.flatten [(wmTa qTa k aTa), (wmHa qHa k hHa)]) sz) := by
  refine Met.ofW (cc := cX12_isRoom) (maxL := 4) (ret := (some .boolean)) (by decide) rfl ?_
  intro p e s m args below meth c s₁ B hml hv
  obtain ⟨rfl, hsz, hP, hK, hD0⟩ := hv
  have hx := B.exec
  have hb := B.bytes
  have hr := B.returns
  have hts := atoms_spec (ws := wk_c_isRoom_3) B.pre
  have hown : s.vm.findClass RX12 = some m.cls := findClass_of_methodNamed B.named
  have hlocks := B.notSynchronized
  subst hsz
  have hD := hD0.self (sz := s.heap.size)
  generalize hAe : va_A (List.flatten [(wMO qO k widthO manyO cellsO movedO (qTa 0) linesO (qHa 0) bridgeO cartO wardO frostAtO actO isKeptO loadNowO byNowO rowO memoryO whoseO deepNowO brokenByO brokenAtO goesByO comesToO sagMoreO creakOfO wipedByO deepAtO sagAtO loadAtO orderRowO oftenO lossOneO lossOtherO vO tO mO gO)] ++ List.flatten [(wmTa qTa k aTa), (wmHa qHa k hHa)]) s.heap.size = A at hD ⊢
  have hA : ∀ q : Nat, s.heap.size ≤ q → A q := fun q h => by rw [← hAe]; exact Or.inr h
  have hS : va_S A s.heap s.heap [] := va_S.rf
  have hP : va_P (dC, dI) vwCl (List.flatten [(wMO qO k widthO manyO cellsO movedO (qTa 0) linesO (qHa 0) bridgeO cartO wardO frostAtO actO isKeptO loadNowO byNowO rowO memoryO whoseO deepNowO brokenByO brokenAtO goesByO comesToO sagMoreO creakOfO wipedByO deepAtO sagAtO loadAtO orderRowO oftenO lossOneO lossOtherO vO tO mO gO)] ++ List.flatten [(wmTa qTa k aTa), (wmHa qHa k hHa)]) s.heap := hP
  have hl := lv_entry ([.ref (qO 0), .int p1, .int 3, .int 3]) (n := 4) (Nat.le_of_ble_eq_true rfl)
  rw [lg_entry_eq]
  generalize (lg_sl ([.ref (qO 0), .int p1, .int 3, .int 3]) ++ List.replicate (4 - (lg_sl ([.ref (qO 0), .int p1, .int 3, .int 3])).length) Slot.unset).toArray = ls at hl ⊢
  have hl : lv_has ls 4 [(0, .ref (qO 0)), (1, .int p1), (2, .int 3), (3, .int 3)] := hl
  refine w_gen (fun Q hQ => ?_)
  refine lv_iload_n hx hb dX12_isRoom_0 rfl (lv_at hl 1 rfl) ?_
  have ct18_kz28 : ∀ (H : Heap) (locs : List Loc) (ls : Array Slot) (gz24 : Nat → Int64) (mz25 : Nat → Int32) (tz26 : Nat → Int32) (vz27 : Nat → Int32), Rg (-1) 127 mz25 → Rg 0 700 tz26 → (tz26 0).toInt = (tO 0).toInt → (tz26 1).toInt ≤ (tz26 0).toInt → (tO 1).toInt ≤ (tz26 1).toInt → p1.toInt = 0 ∨ ((hHa 0) 35).toInt < 3 ∨ (vz27 4).toInt ≠ 0 → va_P (dC, dI) vwCl (List.flatten [(wMO qO k widthO manyO cellsO movedO (qTa 0) linesO (qHa 0) bridgeO cartO wardO frostAtO actO isKeptO loadNowO byNowO rowO memoryO whoseO deepNowO brokenByO brokenAtO goesByO comesToO sagMoreO creakOfO wipedByO deepAtO sagAtO loadAtO orderRowO oftenO lossOneO lossOtherO vz27 tz26 mz25 gz24)] ++ List.flatten [(wmTa qTa k aTa), (wmHa qHa k hHa)]) H → va_D A (List.flatten [(wMO qO k widthO manyO cellsO movedO (qTa 0) linesO (qHa 0) bridgeO cartO wardO frostAtO actO isKeptO loadNowO byNowO rowO memoryO whoseO deepNowO brokenByO brokenAtO goesByO comesToO sagMoreO creakOfO wipedByO deepAtO sagAtO loadAtO orderRowO oftenO lossOneO lossOtherO vz27 tz26 mz25 gz24)] ++ List.flatten [(wmTa qTa k aTa), (wmHa qHa k hHa)]) → va_S A s.heap H locs → lv_has ls 4 [(0, .ref (qO 0)), (1, .int p1)] → W p l e (headSpec wk_c_isRoom_3 ({ frames := 2, cells := 0, slots := 0, locals := 44 })).room s m ([.ref (qO 0), .int p1, .int 3, .int 3] : List Value).toArray below meth c H locs 0 0 Q (F0 m 18 ls []) := by
    intro H locs ls gz24 mz25 tz26 vz27 hmz25 htz26 jz29 jz30 jz31 jz32 hP hD hS hl
    refine lv_iload_n hx hb dX12_isRoom_18 rfl (lv_at hl 1 rfl) ?_
    have ct33_kz56 : ∀ (H : Heap) (locs : List Loc) (ls : Array Slot) (gz52 : Nat → Int64) (mz53 : Nat → Int32) (tz54 : Nat → Int32) (vz55 : Nat → Int32), Rg (-1) 127 mz53 → Rg 0 700 tz54 → (tz54 0).toInt = (tO 0).toInt → (tz54 1).toInt ≤ (tz54 0).toInt → (tO 1).toInt ≤ (tz54 1).toInt → p1.toInt = 0 ∨ ((hHa 0) 35).toInt < 3 ∨ (vz55 4).toInt ≠ 0 → va_P (dC, dI) vwCl (List.flatten [(wMO qO k widthO manyO cellsO movedO (qTa 0) linesO (qHa 0) bridgeO cartO wardO frostAtO actO isKeptO loadNowO byNowO rowO memoryO whoseO deepNowO brokenByO brokenAtO goesByO comesToO sagMoreO creakOfO wipedByO deepAtO sagAtO loadAtO orderRowO oftenO lossOneO lossOtherO vz55 tz54 mz53 gz52)] ++ List.flatten [(wmTa qTa k aTa), (wmHa qHa k hHa)]) H → va_D A (List.flatten [(wMO qO k widthO manyO cellsO movedO (qTa 0) linesO (qHa 0) bridgeO cartO wardO frostAtO actO isKeptO loadNowO byNowO rowO memoryO whoseO deepNowO brokenByO brokenAtO goesByO comesToO sagMoreO creakOfO wipedByO deepAtO sagAtO loadAtO orderRowO oftenO lossOneO lossOtherO vz55 tz54 mz53 gz52)] ++ List.flatten [(wmTa qTa k aTa), (wmHa qHa k hHa)]) → va_S A s.heap H locs → lv_has ls 4 [(0, .ref (qO 0)), (1, .int p1)] → W p l e (headSpec wk_c_isRoom_3 ({ frames := 2, cells := 0, slots := 0, locals := 44 })).room s m ([.ref (qO 0), .int p1, .int 3, .int 3] : List Value).toArray below meth c H locs 0 0 Q (F0 m 33 ls []) := by
      intro H locs ls gz52 mz53 tz54 vz55 hmz53 htz54 jz57 jz58 jz59 jz60 hP hD hS hl
      refine lv_iload_n hx hb dX12_isRoom_33 rfl (lv_at hl 1 rfl) ?_
      refine lv_if_eq (tgt := 48) hx hb dX12_isRoom_34 (by decide) (fun cz61 => ?_) (fun cz61 => ?_)
      · skip
        have zz62 : p1.toInt = (0 : Int) := zi_eq.mp cz61
        refine lv_iconst (v := 0) hx hb dX12_isRoom_48 (by decide) ?_
        rw [hQ]
        exact W.zret (v := (0 : Int32)) hx hb hr rfl (fun t ht hW => ⟨⟨(0 : Int32), (0 : Int32), rfl, rfl, vz55, tz54, mz53, gz52, htz54, hmz53, (by show (tz54 0).toInt = (tO 0).toInt; omega), (by show (tz54 1).toInt ≤ (tO 0).toInt; omega), (by show (tO 1).toInt ≤ (tz54 1).toInt; omega), (by show (0 : Int) = 0 ∨ ((hHa 0) 35).toInt < 3; omega), (by show (0 : Int) = 0 ∨ (0 : Int) = 1; omega), by rw [ht]; exact hP⟩, hS.F ht⟩) hS.2.2 dX12_isRoom_49
      · skip
        have zz63 : ¬ p1.toInt = (0 : Int) := fun h9 => cz61 (zi_eq.mpr h9)
        refine lv_aload_n hx hb dX12_isRoom_37 rfl (lv_at hl 0 rfl) ?_
        refine va_get (D := (dC, dI)) (ci := 12) (v := .int (vz55 4)) (C := RX12) (T := TX12) (N := 59) hx hb hts (fun w h => List.mem_cons_of_mem _ (List.mem_append_right _ (List.mem_append_right _ (List.mem_append_right _ (List.mem_append_left _ h))))) hown hK hP 0 rfl rfl 12 (by decide) (hts (.fieldLink RX12 168 "SagMemoryModel" "bad" "I") (wl_mem 7 rfl)) (fun _ h9 => h9) rfl dX12_isRoom_38 ?_
        refine lv_if_ne (tgt := 48) hx hb dX12_isRoom_41 (by decide) (fun cz64 => ?_) (fun cz64 => ?_)
        · skip
          have zz65 : ¬ (vz55 4).toInt = (0 : Int) := fun h9 => cz64 (zi_eq.mpr h9)
          refine lv_iconst (v := 0) hx hb dX12_isRoom_48 (by decide) ?_
          rw [hQ]
          exact W.zret (v := (0 : Int32)) hx hb hr rfl (fun t ht hW => ⟨⟨(0 : Int32), (0 : Int32), rfl, rfl, vz55, tz54, mz53, gz52, htz54, hmz53, (by show (tz54 0).toInt = (tO 0).toInt; omega), (by show (tz54 1).toInt ≤ (tO 0).toInt; omega), (by show (tO 1).toInt ≤ (tz54 1).toInt; omega), (by show (0 : Int) = 0 ∨ ((hHa 0) 35).toInt < 3; omega), (by show (0 : Int) = 0 ∨ (0 : Int) = 1; omega), by rw [ht]; exact hP⟩, hS.F ht⟩) hS.2.2 dX12_isRoom_49
        · skip
          have zz66 : (vz55 4).toInt = (0 : Int) := zi_eq.mp cz64
          refine lv_iconst (v := 1) hx hb dX12_isRoom_44 (by decide) ?_
          refine lv_goto (tgt := 49) hx hb dX12_isRoom_45 (by decide) ?_
          rw [hQ]
          exact W.zret (v := (1 : Int32)) hx hb hr rfl (fun t ht hW => ⟨⟨(1 : Int32), (1 : Int32), rfl, rfl, vz55, tz54, mz53, gz52, htz54, hmz53, (by show (tz54 0).toInt = (tO 0).toInt; omega), (by show (tz54 1).toInt ≤ (tO 0).toInt; omega), (by show (tO 1).toInt ≤ (tz54 1).toInt; omega), (by show (1 : Int) = 0 ∨ ((hHa 0) 35).toInt < 3; omega), (by show (1 : Int) = 0 ∨ (1 : Int) = 1; omega), by rw [ht]; exact hP⟩, hS.F ht⟩) hS.2.2 dX12_isRoom_49
    refine lv_if_eq (tgt := 33) hx hb dX12_isRoom_19 (by decide) (fun cz67 => ?_) (fun cz67 => ?_)
    · skip
      have zz68 : p1.toInt = (0 : Int) := zi_eq.mp cz67
      exact ct33_kz56 H locs ls gz24 mz25 tz26 vz27  hmz25 htz26 (by show (tz26 0).toInt = (tO 0).toInt; omega) (by show (tz26 1).toInt ≤ (tz26 0).toInt; omega) (by show (tO 1).toInt ≤ (tz26 1).toInt; omega) (by show p1.toInt = 0 ∨ ((hHa 0) 35).toInt < 3 ∨ (vz27 4).toInt ≠ 0; omega) hP hD hS (lv_sub hl [0, 1] rfl)
    · skip
      have zz69 : ¬ p1.toInt = (0 : Int) := fun h9 => cz67 (zi_eq.mpr h9)
      refine lv_aload_n hx hb dX12_isRoom_22 rfl (lv_at hl 0 rfl) ?_
      refine va_get (D := (dC, dI)) (ci := 12) (v := .int (vz27 4)) (C := RX12) (T := TX12) (N := 59) hx hb hts (fun w h => List.mem_cons_of_mem _ (List.mem_append_right _ (List.mem_append_right _ (List.mem_append_right _ (List.mem_append_left _ h))))) hown hK hP 0 rfl rfl 12 (by decide) (hts (.fieldLink RX12 168 "SagMemoryModel" "bad" "I") (wl_mem 7 rfl)) (fun _ h9 => h9) rfl dX12_isRoom_23 ?_
      refine lv_if_ne (tgt := 33) hx hb dX12_isRoom_26 (by decide) (fun cz70 => ?_) (fun cz70 => ?_)
      · skip
        have zz71 : ¬ (vz27 4).toInt = (0 : Int) := fun h9 => cz70 (zi_eq.mpr h9)
        exact ct33_kz56 H locs ls gz24 mz25 tz26 vz27  hmz25 htz26 (by show (tz26 0).toInt = (tO 0).toInt; omega) (by show (tz26 1).toInt ≤ (tz26 0).toInt; omega) (by show (tO 1).toInt ≤ (tz26 1).toInt; omega) (by show p1.toInt = 0 ∨ ((hHa 0) 35).toInt < 3 ∨ (vz27 4).toInt ≠ 0; omega) hP hD hS (lv_sub hl [0, 1] rfl)
      · skip
        have zz72 : (vz27 4).toInt = (0 : Int) := zi_eq.mp cz70
        refine lv_aload_n hx hb dX12_isRoom_29 rfl (lv_at hl 0 rfl) ?_
        have bz73 := htz26 1
        have bz74 := htz26 0
        have hPc := hP.sub (ws' := (List.flatten [(wMO qO k widthO manyO cellsO movedO (qTa 0) linesO (qHa 0) bridgeO cartO wardO frostAtO actO isKeptO loadNowO byNowO rowO memoryO whoseO deepNowO brokenByO brokenAtO goesByO comesToO sagMoreO creakOfO wipedByO deepAtO sagAtO loadAtO orderRowO oftenO lossOneO lossOtherO vz27 tz26 mz25 gz24)] ++ List.flatten [(wmTa qTa k aTa)])) [0, 1] rfl
        have hC : [0, 1].map (fun i => (List.flatten [(wMO qO k widthO manyO cellsO movedO (qTa 0) linesO (qHa 0) bridgeO cartO wardO frostAtO actO isKeptO loadNowO byNowO rowO memoryO whoseO deepNowO brokenByO brokenAtO goesByO comesToO sagMoreO creakOfO wipedByO deepAtO sagAtO loadAtO orderRowO oftenO lossOneO lossOtherO vz27 tz26 mz25 gz24)] ++ List.flatten [(wmTa qTa k aTa), (wmHa qHa k hHa)])[i]?) = (List.flatten [(wMO qO k widthO manyO cellsO movedO (qTa 0) linesO (qHa 0) bridgeO cartO wardO frostAtO actO isKeptO loadNowO byNowO rowO memoryO whoseO deepNowO brokenByO brokenAtO goesByO comesToO sagMoreO creakOfO wipedByO deepAtO sagAtO loadAtO orderRowO oftenO lossOneO lossOtherO vz27 tz26 mz25 gz24)] ++ List.flatten [(wmTa qTa k aTa)]).map some := rfl
        have hDc := hD.sub [0, 1] (by decide) hC
        have hFc := va_free hD hS hA [0, 1] hC
        refine va_callv (va_runV (As := []) (rest := []) ⟨hx, hb, hml, hown, hts⟩ (c_X12_next l dC dI k H.size qO widthO manyO cellsO movedO linesO (qHa 0) bridgeO cartO wardO frostAtO actO isKeptO loadNowO byNowO rowO memoryO whoseO deepNowO brokenByO brokenAtO goesByO comesToO sagMoreO creakOfO wipedByO deepAtO sagAtO loadAtO orderRowO oftenO lossOneO lossOtherO vz27 tz26 mz25 gz24 qTa aTa htz26 hmz25 (by show (tz26 1).toInt ≤ (tz26 0).toInt; omega)) (cwV 0 hts (gk_V (wl_mem 8 rfl) (wl_mem 9 rfl) (wl_mem 10 rfl) (wl_mem 3 rfl) (fun w h => List.mem_cons_of_mem _ (List.mem_append_right _ (List.mem_append_right _ (List.mem_append_right _ (List.mem_append_right _ (List.mem_append_left _ h)))))) wkg_c_X12_next) rfl rfl rfl (by decide +kernel) ⟨Nat.le_of_ble_eq_true rfl, Nat.le_of_ble_eq_true rfl⟩) ⟨fun a U g mk q => by obtain ⟨q0, q1, qP, qK, qD⟩ := q; exact ⟨q0, q1, qP, va_K.moved (u := U) (U := U.calling g mk a) (Vm.Alike.refl U.vm) qK, qD⟩, va_recv hK hPc (ci := 12) (q0 := 0) rfl rfl, fun U hU hW => ⟨rfl, by rw [hU], by rw [hU]; exact hPc, va_K.moved hW.alike hK, hDc.weaken (fun _ _ _ _ => trivial)⟩⟩ rfl rfl hl.1 rfl (lv_room (Nat.le_of_ble_eq_true rfl)) dX12_isRoom_30 ⟨Nat.le_of_ble_eq_true rfl, Nat.le_of_ble_eq_true rfl⟩) hS (fun q _ h => hFc q h) hFc (fun u t H1 locs ht hvm gz75 hB hz1 hk1 hS => ?_)
        obtain ⟨vz77, tz78, mz79, gz80, htz78, hmz79, pz81, pz82, pz83, pz84, pz85, hP1⟩ := hB
        rw [ht] at hP1
        obtain ⟨hP, hD⟩ := w_callR hP hD hk1 hP1 [0] rfl rfl (wk_memC [1] rfl) rfl [some 0] rfl rfl
        clear hPc hC hDc hFc hk1 hP1
        generalize H1 = H at hP hS ⊢
        have hP : va_P (dC, dI) vwCl (List.flatten [(wMO qO k widthO manyO cellsO movedO (qTa 0) linesO (qHa 0) bridgeO cartO wardO frostAtO actO isKeptO loadNowO byNowO rowO memoryO whoseO deepNowO brokenByO brokenAtO goesByO comesToO sagMoreO creakOfO wipedByO deepAtO sagAtO loadAtO orderRowO oftenO lossOneO lossOtherO vz77 tz78 mz79 gz80)] ++ List.flatten [(wmTa qTa k aTa), (wmHa qHa k hHa)]) H := hP
        have hD : va_D A (List.flatten [(wMO qO k widthO manyO cellsO movedO (qTa 0) linesO (qHa 0) bridgeO cartO wardO frostAtO actO isKeptO loadNowO byNowO rowO memoryO whoseO deepNowO brokenByO brokenAtO goesByO comesToO sagMoreO creakOfO wipedByO deepAtO sagAtO loadAtO orderRowO oftenO lossOneO lossOtherO vz77 tz78 mz79 gz80)] ++ List.flatten [(wmTa qTa k aTa), (wmHa qHa k hHa)]) := hD
        refine W.widen (k := 0) (n := 0) (Nat.le_refl 0) (Nat.le_refl 0) ?_
        have pz81 : (tz78 0).toInt = (tz26 0).toInt := pz81
        have pz82 : (tz78 1).toInt ≤ (tz26 0).toInt := pz82
        have pz83 : (tz26 1).toInt ≤ (tz78 1).toInt := pz83
        have pz84 : (vz77 1).toInt = 0 ∨ (tz26 1).toInt < (tz78 1).toInt := pz84
        have pz85 : (vz77 4).toInt = (vz27 4).toInt := pz85
        exact ct33_kz56 H locs ls gz80 mz79 tz78 vz77  hmz79 htz78 (by show (tz78 0).toInt = (tO 0).toInt; omega) (by show (tz78 1).toInt ≤ (tz78 0).toInt; omega) (by show (tO 1).toInt ≤ (tz78 1).toInt; omega) (by show p1.toInt = 0 ∨ ((hHa 0) 35).toInt < 3 ∨ (vz77 4).toInt ≠ 0; omega) hP hD hS (lv_sub hl [0, 1] rfl)
  refine lv_if_eq (tgt := 18) hx hb dX12_isRoom_1 (by decide) (fun cz86 => ?_) (fun cz86 => ?_)
  · skip
    have zz87 : p1.toInt = (0 : Int) := zi_eq.mp cz86
    exact ct18_kz28 s.heap [] ls gO mO tO vO  hmO htO (by show (tO 0).toInt = (tO 0).toInt; omega) (by show (tO 1).toInt ≤ (tO 0).toInt; omega) (by show (tO 1).toInt ≤ (tO 1).toInt; omega) (by show p1.toInt = 0 ∨ ((hHa 0) 35).toInt < 3 ∨ (vO 4).toInt ≠ 0; omega) hP hD hS (lv_sub hl [0, 1] rfl)
  · skip
    have zz88 : ¬ p1.toInt = (0 : Int) := fun h9 => cz86 (zi_eq.mpr h9)
    refine lv_aload_n hx hb dX12_isRoom_4 rfl (lv_at hl 0 rfl) ?_
    refine lv_iload_n hx hb dX12_isRoom_5 rfl (lv_at hl 2 rfl) ?_
    have hPc := hP.sub (ws' := (List.flatten [(wMO qO k widthO manyO cellsO movedO (qTa 0) linesO (qHa 0) bridgeO cartO wardO frostAtO actO isKeptO loadNowO byNowO rowO memoryO whoseO deepNowO brokenByO brokenAtO goesByO comesToO sagMoreO creakOfO wipedByO deepAtO sagAtO loadAtO orderRowO oftenO lossOneO lossOtherO vO tO mO gO), (wmHa qHa k hHa)])) [0, 2] rfl
    refine vp_callSi (va_Run.run (va_runV (As := [.int 3]) (rest := []) ⟨hx, hb, hml, hown, hts⟩ (c_hasRead_3 l dC dI k qO widthO manyO cellsO movedO (qTa 0) linesO bridgeO cartO wardO frostAtO actO isKeptO loadNowO byNowO rowO memoryO whoseO deepNowO brokenByO brokenAtO goesByO comesToO sagMoreO creakOfO wipedByO deepAtO sagAtO loadAtO orderRowO oftenO lossOneO lossOtherO vO tO mO gO qHa hHa htO hmO hhHa) (cwV 1 hts (gk_V (wl_mem 0 rfl) (wl_mem 1 rfl) (wl_mem 2 rfl) (wl_mem 3 rfl) (fun w h => List.mem_cons_of_mem _ (List.mem_append_right _ (List.mem_append_left _ h))) wkg_c_hasRead_3) rfl rfl rfl (by decide +kernel) ⟨Nat.le_of_ble_eq_true rfl, Nat.le_of_ble_eq_true rfl⟩) ⟨fun a U g mk q => by obtain ⟨q0, qP, qK⟩ := q; exact ⟨q0, qP, va_K.moved (u := U) (U := U.calling g mk a) (Vm.Alike.refl U.vm) qK⟩, va_recv hK hPc (ci := 12) (q0 := 0) rfl rfl, fun U hU hW => ⟨rfl, by rw [hU]; exact hPc, va_K.moved hW.alike hK⟩⟩ rfl rfl hl.1 rfl (lv_room (Nat.le_of_ble_eq_true rfl)) dX12_isRoom_6 ⟨Nat.le_of_ble_eq_true rfl, Nat.le_of_ble_eq_true rfl⟩)) (fun rz90 gz89 => ?_)
    clear hPc
    obtain ⟨pz91, pz92⟩ := gz89
    have pz91 : 0 ≤ rz90.toInt ∧ rz90.toInt ≤ 3 := pz91
    have pz92 : rz90.toInt = ((hHa 0) 35).toInt := pz92
    refine lv_iload_n hx hb dX12_isRoom_9 rfl (lv_at hl 3 rfl) ?_
    refine lv_icmp_ne (tgt := 18) hx hb dX12_isRoom_10 (by decide) (fun cz93 => ?_) (fun cz93 => ?_)
    · skip
      have zz94 : ¬ rz90.toInt = (3 : Int) := fun h9 => cz93 (zi_eq.mpr h9)
      exact ct18_kz28 s.heap [] ls gO mO tO vO  hmO htO (by show (tO 0).toInt = (tO 0).toInt; omega) (by show (tO 1).toInt ≤ (tO 0).toInt; omega) (by show (tO 1).toInt ≤ (tO 1).toInt; omega) (by show p1.toInt = 0 ∨ ((hHa 0) 35).toInt < 3 ∨ (vO 4).toInt ≠ 0; omega) hP hD hS (lv_sub hl [0, 1] rfl)
    · skip
      have zz95 : rz90.toInt = (3 : Int) := zi_eq.mp cz93
      refine lv_aload_n hx hb dX12_isRoom_13 rfl (lv_at hl 0 rfl) ?_
      refine lv_iconst (v := 3) hx hb dX12_isRoom_14 (by decide) ?_
      have hPc := hP.sub (ws' := (List.flatten [(wMO qO k widthO manyO cellsO movedO (qTa 0) linesO (qHa 0) bridgeO cartO wardO frostAtO actO isKeptO loadNowO byNowO rowO memoryO whoseO deepNowO brokenByO brokenAtO goesByO comesToO sagMoreO creakOfO wipedByO deepAtO sagAtO loadAtO orderRowO oftenO lossOneO lossOtherO vO tO mO gO)] ++ List.flatten ([] : List va_W))) [0] rfl
      have hC : [0].map (fun i => (List.flatten [(wMO qO k widthO manyO cellsO movedO (qTa 0) linesO (qHa 0) bridgeO cartO wardO frostAtO actO isKeptO loadNowO byNowO rowO memoryO whoseO deepNowO brokenByO brokenAtO goesByO comesToO sagMoreO creakOfO wipedByO deepAtO sagAtO loadAtO orderRowO oftenO lossOneO lossOtherO vO tO mO gO)] ++ List.flatten [(wmTa qTa k aTa), (wmHa qHa k hHa)])[i]?) = (List.flatten [(wMO qO k widthO manyO cellsO movedO (qTa 0) linesO (qHa 0) bridgeO cartO wardO frostAtO actO isKeptO loadNowO byNowO rowO memoryO whoseO deepNowO brokenByO brokenAtO goesByO comesToO sagMoreO creakOfO wipedByO deepAtO sagAtO loadAtO orderRowO oftenO lossOneO lossOtherO vO tO mO gO)] ++ List.flatten ([] : List va_W)).map some := rfl
      have hDc := hD.sub [0] (by decide) hC
      have hFc := va_free hD hS hA [0] hC
      refine va_callv (va_runV (As := [.int 3]) (rest := []) ⟨hx, hb, hml, hown, hts⟩ (c_X12_fails l dC dI k s.heap.size qO widthO manyO cellsO movedO (qTa 0) linesO (qHa 0) bridgeO cartO wardO frostAtO actO isKeptO loadNowO byNowO rowO memoryO whoseO deepNowO brokenByO brokenAtO goesByO comesToO sagMoreO creakOfO wipedByO deepAtO sagAtO loadAtO orderRowO oftenO lossOneO lossOtherO vO tO mO gO (3 : Int32) htO hmO) (cwV 1 hts (gk_V (wl_mem 4 rfl) (wl_mem 5 rfl) (wl_mem 6 rfl) (wl_mem 3 rfl) (fun w h => List.mem_cons_of_mem _ (List.mem_append_right _ (List.mem_append_right _ (List.mem_append_left _ h)))) wkg_c_X12_fails) rfl rfl rfl (by decide +kernel) ⟨Nat.le_of_ble_eq_true rfl, Nat.le_of_ble_eq_true rfl⟩) ⟨fun a U g mk q => by obtain ⟨q0, q1, qP, qK, qD⟩ := q; exact ⟨q0, q1, qP, va_K.moved (u := U) (U := U.calling g mk a) (Vm.Alike.refl U.vm) qK, qD⟩, va_recv hK hPc (ci := 12) (q0 := 0) rfl rfl, fun U hU hW => ⟨rfl, by rw [hU], by rw [hU]; exact hPc, va_K.moved hW.alike hK, hDc.weaken (fun _ _ _ _ => trivial)⟩⟩ rfl rfl hl.1 rfl (lv_room (Nat.le_of_ble_eq_true rfl)) dX12_isRoom_15 ⟨Nat.le_of_ble_eq_true rfl, Nat.le_of_ble_eq_true rfl⟩) hS (fun q _ h => hFc q h) hFc (fun u t H1 locs ht hvm gz96 hB hz1 hk1 hS => ?_)
      obtain ⟨vz98, tz99, mz100, gz101, htz99, hmz100, pz102, pz103, pz104, pz105, pz106, hP1⟩ := hB
      rw [ht] at hP1
      obtain ⟨hP, hD⟩ := w_callR hP hD hk1 hP1 [0] rfl rfl (fun _ h => absurd h List.not_mem_nil) rfl [some 0] rfl rfl
      clear hPc hC hDc hFc hk1 hP1
      generalize H1 = H at hP hS ⊢
      have hP : va_P (dC, dI) vwCl (List.flatten [(wMO qO k widthO manyO cellsO movedO (qTa 0) linesO (qHa 0) bridgeO cartO wardO frostAtO actO isKeptO loadNowO byNowO rowO memoryO whoseO deepNowO brokenByO brokenAtO goesByO comesToO sagMoreO creakOfO wipedByO deepAtO sagAtO loadAtO orderRowO oftenO lossOneO lossOtherO vz98 tz99 mz100 gz101)] ++ List.flatten [(wmTa qTa k aTa), (wmHa qHa k hHa)]) H := hP
      have hD : va_D A (List.flatten [(wMO qO k widthO manyO cellsO movedO (qTa 0) linesO (qHa 0) bridgeO cartO wardO frostAtO actO isKeptO loadNowO byNowO rowO memoryO whoseO deepNowO brokenByO brokenAtO goesByO comesToO sagMoreO creakOfO wipedByO deepAtO sagAtO loadAtO orderRowO oftenO lossOneO lossOtherO vz98 tz99 mz100 gz101)] ++ List.flatten [(wmTa qTa k aTa), (wmHa qHa k hHa)]) := hD
      refine W.widen (k := 0) (n := 0) (Nat.le_refl 0) (Nat.le_refl 0) ?_
      have pz102 : ((vO 4).toInt ≠ 0 ∧ (vz98 4).toInt = (vO 4).toInt) ∨ ((vO 4).toInt = 0 ∧ (vz98 4).toInt = (3 : Int)) := pz102
      have pz103 : (tz99 0).toInt = (tO 0).toInt := pz103
      have pz104 : (tz99 1).toInt = (tO 1).toInt := pz104
      have pz105 : (vz98 1).toInt = (vO 1).toInt := pz105
      have pz106 : (vz98 3).toInt = (vO 3).toInt := pz106
      have bz107 := htO 0
      have bz108 := htO 1
      exact ct18_kz28 H locs ls gz101 mz100 tz99 vz98  hmz100 htz99 (by show (tz99 0).toInt = (tO 0).toInt; omega) (by show (tz99 1).toInt ≤ (tz99 0).toInt; omega) (by show (tO 1).toInt ≤ (tz99 1).toInt; omega) (by show p1.toInt = 0 ∨ ((hHa 0) 35).toInt < 3 ∨ (vz98 4).toInt ≠ 0; omega) hP hD hS (lv_sub hl [0, 1] rfl)
def wk_c_isRoom_4 : List Cond := .code yX12_isRoom cX12_isRoom 4 (some .boolean) :: ([.methodLink RX12 198 yX12_hasRead, .instanceMethod yX12_hasRead, .selects RX12 yX12_hasRead yX12_hasRead, .initialized RX12, .methodLink RX12 184 yX12_fails, .instanceMethod yX12_fails, .selects RX12 yX12_fails yX12_fails, .fieldLink RX12 168 "SagMemoryModel" "bad" "I", .methodLink RX12 178 yX12_next, .instanceMethod yX12_next, .selects RX12 yX12_next yX12_next] ++ (wk_c_hasRead_4 ++ (wk_c_X12_fails ++ (wsX120 ++ (wk_c_X12_next ++ [])))))
theorem wkg_c_isRoom_4 : wk_c_isRoom_4.all goodWord = true := by decide +kernel
set_option maxHeartbeats 4000000 in
set_option maxRecDepth 100000 in
theorem c_isRoom_4 (l : Launch) (dC : Nat → ClassId) (dI : Nat → Nat → Nat) (k : Nat → ClassId) (sz : Nat) (qO : Nat → Nat) (widthO : Nat) (manyO : Nat) (cellsO : Nat) (movedO : Nat) (linesO : Nat) (bridgeO : Nat) (cartO : Nat) (wardO : Nat) (frostAtO : Nat) (actO : Nat) (isKeptO : Nat) (loadNowO : Nat) (byNowO : Nat) (rowO : Nat) (memoryO : Nat) (whoseO : Nat) (deepNowO : Nat) (brokenByO : Nat) (brokenAtO : Nat) (goesByO : Nat) (comesToO : Nat) (sagMoreO : Nat) (creakOfO : Nat) (wipedByO : Nat) (deepAtO : Nat) (sagAtO : Nat) (loadAtO : Nat) (orderRowO : Nat) (oftenO : Nat) (lossOneO : Nat) (lossOtherO : Nat) (vO : Nat → Int32) (tO : Nat → Int32) (mO : Nat → Int32) (gO : Nat → Int64) (qTa : Nat → Nat) (aTa : Nat → Nat → Int32) (qHa : Nat → Nat) (hHa : Nat → Nat → Int32) (p1 : Int32) (htO : Rg 0 700 tO) (hmO : Rg (-1) 127 mO) (hhHa : Pa_h hHa) (hp0 : (tO 1).toInt ≤ (tO 0).toInt) (hp1 : 0 ≤ p1.toInt ∧ p1.toInt ≤ 1) : Met l yX12_isRoom wk_c_isRoom_4 ({ frames := 2, cells := 0, slots := 0, locals := 44 }) (va_Pc [.ref (qO 0), .int p1, .int 4, .int 7] (fun U => U.heap.size = sz ∧ va_P (dC, dI) vwCl (List.flatten [(wMO qO k widthO manyO cellsO movedO (qTa 0) linesO (qHa 0) bridgeO cartO wardO frostAtO actO isKeptO loadNowO byNowO rowO memoryO whoseO deepNowO brokenByO brokenAtO goesByO comesToO sagMoreO creakOfO wipedByO deepAtO sagAtO loadAtO orderRowO oftenO lossOneO lossOtherO vO tO mO gO)] ++ List.flatten [(wmTa qTa k aTa), (wmHa qHa k hHa)]) U.heap ∧ va_K (dC, dI) vwCl (tK k) U ∧ va_D (fun _ => True) (List.flatten [(wMO qO k widthO manyO cellsO movedO (qTa 0) linesO (qHa 0) bridgeO cartO wardO frostAtO actO isKeptO loadNowO byNowO rowO memoryO whoseO deepNowO brokenByO brokenAtO goesByO comesToO sagMoreO creakOfO wipedByO deepAtO sagAtO loadAtO orderRowO oftenO lossOneO lossOtherO vO tO mO gO)] ++ List.flatten [(wmTa qTa k aTa), (wmHa qHa k hHa)]))) (va_Qi (fun (r : Int32) (u : Int32) => r = u) (fun (u : Int32) (t : State) => ∃ (vO' : Nat → Int32) (tO' : Nat → Int32) (mO' : Nat → Int32) (gO' : Nat → Int64), Rg 0 700 tO' ∧ Rg (-1) 127 mO' ∧ ((tO' 0).toInt = (tO 0).toInt) ∧ ((tO' 1).toInt ≤ (tO 0).toInt) ∧ ((tO 1).toInt ≤ (tO' 1).toInt) ∧ (u.toInt = 0 ∨ ((hHa 0) 36).toInt < 7) ∧ (u.toInt = 0 ∨ u.toInt = 1) ∧ va_P (dC, dI) vwCl (List.flatten [(wMO qO k widthO manyO cellsO movedO (qTa 0) linesO (qHa 0) bridgeO cartO wardO frostAtO actO isKeptO loadNowO byNowO rowO memoryO whoseO deepNowO brokenByO brokenAtO goesByO comesToO sagMoreO creakOfO wipedByO deepAtO sagAtO loadAtO orderRowO oftenO lossOneO lossOtherO vO' tO' mO' gO')] ++ List.flatten [(wmTa qTa k aTa), (wmHa qHa k hHa)]) t.heap) (va_A (List.flatten [(wMO qO k widthO manyO cellsO movedO (qTa 0) linesO (qHa 0) bridgeO cartO wardO frostAtO actO isKeptO loadNowO byNowO rowO memoryO whoseO deepNowO brokenByO brokenAtO goesByO comesToO sagMoreO creakOfO wipedByO deepAtO sagAtO loadAtO orderRowO oftenO lossOneO lossOtherO vO tO mO gO)] ++ List.flatten [(wmTa qTa k aTa), (wmHa qHa k hHa)]) sz)) 0 0 (va_A (List.flatten [(wMO qO k widthO manyO cellsO movedO (qTa 0) linesO (qHa 0) bridgeO cartO wardO frostAtO actO isKeptO loadNowO byNowO rowO memoryO whoseO deepNowO brokenByO brokenAtO goesByO comesToO sagMoreO creakOfO wipedByO deepAtO sagAtO loadAtO orderRowO oftenO lossOneO lossOtherO vO tO mO gO)] ++ List.flatten [(wmTa qTa k aTa), (wmHa qHa k hHa)]) sz) := by
  refine Met.ofW (cc := cX12_isRoom) (maxL := 4) (ret := (some .boolean)) (by decide) rfl ?_
  intro p e s m args below meth c s₁ B hml hv
  obtain ⟨rfl, hsz, hP, hK, hD0⟩ := hv
  have hx := B.exec
  have hb := B.bytes
  have hr := B.returns
  have hts := atoms_spec (ws := wk_c_isRoom_4) B.pre
  have hown : s.vm.findClass RX12 = some m.cls := findClass_of_methodNamed B.named
  have hlocks := B.notSynchronized
  subst hsz
  have hD := hD0.self (sz := s.heap.size)
  generalize hAe : va_A (List.flatten [(wMO qO k widthO manyO cellsO movedO (qTa 0) linesO (qHa 0) bridgeO cartO wardO frostAtO actO isKeptO loadNowO byNowO rowO memoryO whoseO deepNowO brokenByO brokenAtO goesByO comesToO sagMoreO creakOfO wipedByO deepAtO sagAtO loadAtO orderRowO oftenO lossOneO lossOtherO vO tO mO gO)] ++ List.flatten [(wmTa qTa k aTa), (wmHa qHa k hHa)]) s.heap.size = A at hD ⊢
  have hA : ∀ q : Nat, s.heap.size ≤ q → A q := fun q h => by rw [← hAe]; exact Or.inr h
  have hS : va_S A s.heap s.heap [] := va_S.rf
  have hP : va_P (dC, dI) vwCl (List.flatten [(wMO qO k widthO manyO cellsO movedO (qTa 0) linesO (qHa 0) bridgeO cartO wardO frostAtO actO isKeptO loadNowO byNowO rowO memoryO whoseO deepNowO brokenByO brokenAtO goesByO comesToO sagMoreO creakOfO wipedByO deepAtO sagAtO loadAtO orderRowO oftenO lossOneO lossOtherO vO tO mO gO)] ++ List.flatten [(wmTa qTa k aTa), (wmHa qHa k hHa)]) s.heap := hP
  have hl := lv_entry ([.ref (qO 0), .int p1, .int 4, .int 7]) (n := 4) (Nat.le_of_ble_eq_true rfl)
  rw [lg_entry_eq]
  generalize (lg_sl ([.ref (qO 0), .int p1, .int 4, .int 7]) ++ List.replicate (4 - (lg_sl ([.ref (qO 0), .int p1, .int 4, .int 7])).length) Slot.unset).toArray = ls at hl ⊢
  have hl : lv_has ls 4 [(0, .ref (qO 0)), (1, .int p1), (2, .int 4), (3, .int 7)] := hl
  refine w_gen (fun Q hQ => ?_)
  refine lv_iload_n hx hb dX12_isRoom_0 rfl (lv_at hl 1 rfl) ?_
  have ct18_kz28 : ∀ (H : Heap) (locs : List Loc) (ls : Array Slot) (gz24 : Nat → Int64) (mz25 : Nat → Int32) (tz26 : Nat → Int32) (vz27 : Nat → Int32), Rg (-1) 127 mz25 → Rg 0 700 tz26 → (tz26 0).toInt = (tO 0).toInt → (tz26 1).toInt ≤ (tz26 0).toInt → (tO 1).toInt ≤ (tz26 1).toInt → p1.toInt = 0 ∨ ((hHa 0) 36).toInt < 7 ∨ (vz27 4).toInt ≠ 0 → va_P (dC, dI) vwCl (List.flatten [(wMO qO k widthO manyO cellsO movedO (qTa 0) linesO (qHa 0) bridgeO cartO wardO frostAtO actO isKeptO loadNowO byNowO rowO memoryO whoseO deepNowO brokenByO brokenAtO goesByO comesToO sagMoreO creakOfO wipedByO deepAtO sagAtO loadAtO orderRowO oftenO lossOneO lossOtherO vz27 tz26 mz25 gz24)] ++ List.flatten [(wmTa qTa k aTa), (wmHa qHa k hHa)]) H → va_D A (List.flatten [(wMO qO k widthO manyO cellsO movedO (qTa 0) linesO (qHa 0) bridgeO cartO wardO frostAtO actO isKeptO loadNowO byNowO rowO memoryO whoseO deepNowO brokenByO brokenAtO goesByO comesToO sagMoreO creakOfO wipedByO deepAtO sagAtO loadAtO orderRowO oftenO lossOneO lossOtherO vz27 tz26 mz25 gz24)] ++ List.flatten [(wmTa qTa k aTa), (wmHa qHa k hHa)]) → va_S A s.heap H locs → lv_has ls 4 [(0, .ref (qO 0)), (1, .int p1)] → W p l e (headSpec wk_c_isRoom_4 ({ frames := 2, cells := 0, slots := 0, locals := 44 })).room s m ([.ref (qO 0), .int p1, .int 4, .int 7] : List Value).toArray below meth c H locs 0 0 Q (F0 m 18 ls []) := by
    intro H locs ls gz24 mz25 tz26 vz27 hmz25 htz26 jz29 jz30 jz31 jz32 hP hD hS hl
    refine lv_iload_n hx hb dX12_isRoom_18 rfl (lv_at hl 1 rfl) ?_
    have ct33_kz56 : ∀ (H : Heap) (locs : List Loc) (ls : Array Slot) (gz52 : Nat → Int64) (mz53 : Nat → Int32) (tz54 : Nat → Int32) (vz55 : Nat → Int32), Rg (-1) 127 mz53 → Rg 0 700 tz54 → (tz54 0).toInt = (tO 0).toInt → (tz54 1).toInt ≤ (tz54 0).toInt → (tO 1).toInt ≤ (tz54 1).toInt → p1.toInt = 0 ∨ ((hHa 0) 36).toInt < 7 ∨ (vz55 4).toInt ≠ 0 → va_P (dC, dI) vwCl (List.flatten [(wMO qO k widthO manyO cellsO movedO (qTa 0) linesO (qHa 0) bridgeO cartO wardO frostAtO actO isKeptO loadNowO byNowO rowO memoryO whoseO deepNowO brokenByO brokenAtO goesByO comesToO sagMoreO creakOfO wipedByO deepAtO sagAtO loadAtO orderRowO oftenO lossOneO lossOtherO vz55 tz54 mz53 gz52)] ++ List.flatten [(wmTa qTa k aTa), (wmHa qHa k hHa)]) H → va_D A (List.flatten [(wMO qO k widthO manyO cellsO movedO (qTa 0) linesO (qHa 0) bridgeO cartO wardO frostAtO actO isKeptO loadNowO byNowO rowO memoryO whoseO deepNowO brokenByO brokenAtO goesByO comesToO sagMoreO creakOfO wipedByO deepAtO sagAtO loadAtO orderRowO oftenO lossOneO lossOtherO vz55 tz54 mz53 gz52)] ++ List.flatten [(wmTa qTa k aTa), (wmHa qHa k hHa)]) → va_S A s.heap H locs → lv_has ls 4 [(0, .ref (qO 0)), (1, .int p1)] → W p l e (headSpec wk_c_isRoom_4 ({ frames := 2, cells := 0, slots := 0, locals := 44 })).room s m ([.ref (qO 0), .int p1, .int 4, .int 7] : List Value).toArray below meth c H locs 0 0 Q (F0 m 33 ls []) := by
      intro H locs ls gz52 mz53 tz54 vz55 hmz53 htz54 jz57 jz58 jz59 jz60 hP hD hS hl
      refine lv_iload_n hx hb dX12_isRoom_33 rfl (lv_at hl 1 rfl) ?_
      refine lv_if_eq (tgt := 48) hx hb dX12_isRoom_34 (by decide) (fun cz61 => ?_) (fun cz61 => ?_)
      · skip
        have zz62 : p1.toInt = (0 : Int) := zi_eq.mp cz61
        refine lv_iconst (v := 0) hx hb dX12_isRoom_48 (by decide) ?_
        rw [hQ]
        exact W.zret (v := (0 : Int32)) hx hb hr rfl (fun t ht hW => ⟨⟨(0 : Int32), (0 : Int32), rfl, rfl, vz55, tz54, mz53, gz52, htz54, hmz53, (by show (tz54 0).toInt = (tO 0).toInt; omega), (by show (tz54 1).toInt ≤ (tO 0).toInt; omega), (by show (tO 1).toInt ≤ (tz54 1).toInt; omega), (by show (0 : Int) = 0 ∨ ((hHa 0) 36).toInt < 7; omega), (by show (0 : Int) = 0 ∨ (0 : Int) = 1; omega), by rw [ht]; exact hP⟩, hS.F ht⟩) hS.2.2 dX12_isRoom_49
      · skip
        have zz63 : ¬ p1.toInt = (0 : Int) := fun h9 => cz61 (zi_eq.mpr h9)
        refine lv_aload_n hx hb dX12_isRoom_37 rfl (lv_at hl 0 rfl) ?_
        refine va_get (D := (dC, dI)) (ci := 12) (v := .int (vz55 4)) (C := RX12) (T := TX12) (N := 59) hx hb hts (fun w h => List.mem_cons_of_mem _ (List.mem_append_right _ (List.mem_append_right _ (List.mem_append_right _ (List.mem_append_left _ h))))) hown hK hP 0 rfl rfl 12 (by decide) (hts (.fieldLink RX12 168 "SagMemoryModel" "bad" "I") (wl_mem 7 rfl)) (fun _ h9 => h9) rfl dX12_isRoom_38 ?_
        refine lv_if_ne (tgt := 48) hx hb dX12_isRoom_41 (by decide) (fun cz64 => ?_) (fun cz64 => ?_)
        · skip
          have zz65 : ¬ (vz55 4).toInt = (0 : Int) := fun h9 => cz64 (zi_eq.mpr h9)
          refine lv_iconst (v := 0) hx hb dX12_isRoom_48 (by decide) ?_
          rw [hQ]
          exact W.zret (v := (0 : Int32)) hx hb hr rfl (fun t ht hW => ⟨⟨(0 : Int32), (0 : Int32), rfl, rfl, vz55, tz54, mz53, gz52, htz54, hmz53, (by show (tz54 0).toInt = (tO 0).toInt; omega), (by show (tz54 1).toInt ≤ (tO 0).toInt; omega), (by show (tO 1).toInt ≤ (tz54 1).toInt; omega), (by show (0 : Int) = 0 ∨ ((hHa 0) 36).toInt < 7; omega), (by show (0 : Int) = 0 ∨ (0 : Int) = 1; omega), by rw [ht]; exact hP⟩, hS.F ht⟩) hS.2.2 dX12_isRoom_49
        · skip
          have zz66 : (vz55 4).toInt = (0 : Int) := zi_eq.mp cz64
          refine lv_iconst (v := 1) hx hb dX12_isRoom_44 (by decide) ?_
          refine lv_goto (tgt := 49) hx hb dX12_isRoom_45 (by decide) ?_
          rw [hQ]
          exact W.zret (v := (1 : Int32)) hx hb hr rfl (fun t ht hW => ⟨⟨(1 : Int32), (1 : Int32), rfl, rfl, vz55, tz54, mz53, gz52, htz54, hmz53, (by show (tz54 0).toInt = (tO 0).toInt; omega), (by show (tz54 1).toInt ≤ (tO 0).toInt; omega), (by show (tO 1).toInt ≤ (tz54 1).toInt; omega), (by show (1 : Int) = 0 ∨ ((hHa 0) 36).toInt < 7; omega), (by show (1 : Int) = 0 ∨ (1 : Int) = 1; omega), by rw [ht]; exact hP⟩, hS.F ht⟩) hS.2.2 dX12_isRoom_49
    refine lv_if_eq (tgt := 33) hx hb dX12_isRoom_19 (by decide) (fun cz67 => ?_) (fun cz67 => ?_)
    · skip
      have zz68 : p1.toInt = (0 : Int) := zi_eq.mp cz67
      exact ct33_kz56 H locs ls gz24 mz25 tz26 vz27  hmz25 htz26 (by show (tz26 0).toInt = (tO 0).toInt; omega) (by show (tz26 1).toInt ≤ (tz26 0).toInt; omega) (by show (tO 1).toInt ≤ (tz26 1).toInt; omega) (by show p1.toInt = 0 ∨ ((hHa 0) 36).toInt < 7 ∨ (vz27 4).toInt ≠ 0; omega) hP hD hS (lv_sub hl [0, 1] rfl)
    · skip
      have zz69 : ¬ p1.toInt = (0 : Int) := fun h9 => cz67 (zi_eq.mpr h9)
      refine lv_aload_n hx hb dX12_isRoom_22 rfl (lv_at hl 0 rfl) ?_
      refine va_get (D := (dC, dI)) (ci := 12) (v := .int (vz27 4)) (C := RX12) (T := TX12) (N := 59) hx hb hts (fun w h => List.mem_cons_of_mem _ (List.mem_append_right _ (List.mem_append_right _ (List.mem_append_right _ (List.mem_append_left _ h))))) hown hK hP 0 rfl rfl 12 (by decide) (hts (.fieldLink RX12 168 "SagMemoryModel" "bad" "I") (wl_mem 7 rfl)) (fun _ h9 => h9) rfl dX12_isRoom_23 ?_
      refine lv_if_ne (tgt := 33) hx hb dX12_isRoom_26 (by decide) (fun cz70 => ?_) (fun cz70 => ?_)
      · skip
        have zz71 : ¬ (vz27 4).toInt = (0 : Int) := fun h9 => cz70 (zi_eq.mpr h9)
        exact ct33_kz56 H locs ls gz24 mz25 tz26 vz27  hmz25 htz26 (by show (tz26 0).toInt = (tO 0).toInt; omega) (by show (tz26 1).toInt ≤ (tz26 0).toInt; omega) (by show (tO 1).toInt ≤ (tz26 1).toInt; omega) (by show p1.toInt = 0 ∨ ((hHa 0) 36).toInt < 7 ∨ (vz27 4).toInt ≠ 0; omega) hP hD hS (lv_sub hl [0, 1] rfl)
      · skip
        have zz72 : (vz27 4).toInt = (0 : Int) := zi_eq.mp cz70
        refine lv_aload_n hx hb dX12_isRoom_29 rfl (lv_at hl 0 rfl) ?_
        have bz73 := htz26 1
        have bz74 := htz26 0
        have hPc := hP.sub (ws' := (List.flatten [(wMO qO k widthO manyO cellsO movedO (qTa 0) linesO (qHa 0) bridgeO cartO wardO frostAtO actO isKeptO loadNowO byNowO rowO memoryO whoseO deepNowO brokenByO brokenAtO goesByO comesToO sagMoreO creakOfO wipedByO deepAtO sagAtO loadAtO orderRowO oftenO lossOneO lossOtherO vz27 tz26 mz25 gz24)] ++ List.flatten [(wmTa qTa k aTa)])) [0, 1] rfl
        have hC : [0, 1].map (fun i => (List.flatten [(wMO qO k widthO manyO cellsO movedO (qTa 0) linesO (qHa 0) bridgeO cartO wardO frostAtO actO isKeptO loadNowO byNowO rowO memoryO whoseO deepNowO brokenByO brokenAtO goesByO comesToO sagMoreO creakOfO wipedByO deepAtO sagAtO loadAtO orderRowO oftenO lossOneO lossOtherO vz27 tz26 mz25 gz24)] ++ List.flatten [(wmTa qTa k aTa), (wmHa qHa k hHa)])[i]?) = (List.flatten [(wMO qO k widthO manyO cellsO movedO (qTa 0) linesO (qHa 0) bridgeO cartO wardO frostAtO actO isKeptO loadNowO byNowO rowO memoryO whoseO deepNowO brokenByO brokenAtO goesByO comesToO sagMoreO creakOfO wipedByO deepAtO sagAtO loadAtO orderRowO oftenO lossOneO lossOtherO vz27 tz26 mz25 gz24)] ++ List.flatten [(wmTa qTa k aTa)]).map some := rfl
        have hDc := hD.sub [0, 1] (by decide) hC
        have hFc := va_free hD hS hA [0, 1] hC
        refine va_callv (va_runV (As := []) (rest := []) ⟨hx, hb, hml, hown, hts⟩ (c_X12_next l dC dI k H.size qO widthO manyO cellsO movedO linesO (qHa 0) bridgeO cartO wardO frostAtO actO isKeptO loadNowO byNowO rowO memoryO whoseO deepNowO brokenByO brokenAtO goesByO comesToO sagMoreO creakOfO wipedByO deepAtO sagAtO loadAtO orderRowO oftenO lossOneO lossOtherO vz27 tz26 mz25 gz24 qTa aTa htz26 hmz25 (by show (tz26 1).toInt ≤ (tz26 0).toInt; omega)) (cwV 0 hts (gk_V (wl_mem 8 rfl) (wl_mem 9 rfl) (wl_mem 10 rfl) (wl_mem 3 rfl) (fun w h => List.mem_cons_of_mem _ (List.mem_append_right _ (List.mem_append_right _ (List.mem_append_right _ (List.mem_append_right _ (List.mem_append_left _ h)))))) wkg_c_X12_next) rfl rfl rfl (by decide +kernel) ⟨Nat.le_of_ble_eq_true rfl, Nat.le_of_ble_eq_true rfl⟩) ⟨fun a U g mk q => by obtain ⟨q0, q1, qP, qK, qD⟩ := q; exact ⟨q0, q1, qP, va_K.moved (u := U) (U := U.calling g mk a) (Vm.Alike.refl U.vm) qK, qD⟩, va_recv hK hPc (ci := 12) (q0 := 0) rfl rfl, fun U hU hW => ⟨rfl, by rw [hU], by rw [hU]; exact hPc, va_K.moved hW.alike hK, hDc.weaken (fun _ _ _ _ => trivial)⟩⟩ rfl rfl hl.1 rfl (lv_room (Nat.le_of_ble_eq_true rfl)) dX12_isRoom_30 ⟨Nat.le_of_ble_eq_true rfl, Nat.le_of_ble_eq_true rfl⟩) hS (fun q _ h => hFc q h) hFc (fun u t H1 locs ht hvm gz75 hB hz1 hk1 hS => ?_)
        obtain ⟨vz77, tz78, mz79, gz80, htz78, hmz79, pz81, pz82, pz83, pz84, pz85, hP1⟩ := hB
        rw [ht] at hP1
        obtain ⟨hP, hD⟩ := w_callR hP hD hk1 hP1 [0] rfl rfl (wk_memC [1] rfl) rfl [some 0] rfl rfl
        clear hPc hC hDc hFc hk1 hP1
        generalize H1 = H at hP hS ⊢
        have hP : va_P (dC, dI) vwCl (List.flatten [(wMO qO k widthO manyO cellsO movedO (qTa 0) linesO (qHa 0) bridgeO cartO wardO frostAtO actO isKeptO loadNowO byNowO rowO memoryO whoseO deepNowO brokenByO brokenAtO goesByO comesToO sagMoreO creakOfO wipedByO deepAtO sagAtO loadAtO orderRowO oftenO lossOneO lossOtherO vz77 tz78 mz79 gz80)] ++ List.flatten [(wmTa qTa k aTa), (wmHa qHa k hHa)]) H := hP
        have hD : va_D A (List.flatten [(wMO qO k widthO manyO cellsO movedO (qTa 0) linesO (qHa 0) bridgeO cartO wardO frostAtO actO isKeptO loadNowO byNowO rowO memoryO whoseO deepNowO brokenByO brokenAtO goesByO comesToO sagMoreO creakOfO wipedByO deepAtO sagAtO loadAtO orderRowO oftenO lossOneO lossOtherO vz77 tz78 mz79 gz80)] ++ List.flatten [(wmTa qTa k aTa), (wmHa qHa k hHa)]) := hD
        refine W.widen (k := 0) (n := 0) (Nat.le_refl 0) (Nat.le_refl 0) ?_
        have pz81 : (tz78 0).toInt = (tz26 0).toInt := pz81
        have pz82 : (tz78 1).toInt ≤ (tz26 0).toInt := pz82
        have pz83 : (tz26 1).toInt ≤ (tz78 1).toInt := pz83
        have pz84 : (vz77 1).toInt = 0 ∨ (tz26 1).toInt < (tz78 1).toInt := pz84
        have pz85 : (vz77 4).toInt = (vz27 4).toInt := pz85
        exact ct33_kz56 H locs ls gz80 mz79 tz78 vz77  hmz79 htz78 (by show (tz78 0).toInt = (tO 0).toInt; omega) (by show (tz78 1).toInt ≤ (tz78 0).toInt; omega) (by show (tO 1).toInt ≤ (tz78 1).toInt; omega) (by show p1.toInt = 0 ∨ ((hHa 0) 36).toInt < 7 ∨ (vz77 4).toInt ≠ 0; omega) hP hD hS (lv_sub hl [0, 1] rfl)
  refine lv_if_eq (tgt := 18) hx hb dX12_isRoom_1 (by decide) (fun cz86 => ?_) (fun cz86 => ?_)
  · skip
    have zz87 : p1.toInt = (0 : Int) := zi_eq.mp cz86
    exact ct18_kz28 s.heap [] ls gO mO tO vO  hmO htO (by show (tO 0).toInt = (tO 0).toInt; omega) (by show (tO 1).toInt ≤ (tO 0).toInt; omega) (by show (tO 1).toInt ≤ (tO 1).toInt; omega) (by show p1.toInt = 0 ∨ ((hHa 0) 36).toInt < 7 ∨ (vO 4).toInt ≠ 0; omega) hP hD hS (lv_sub hl [0, 1] rfl)
  · skip
    have zz88 : ¬ p1.toInt = (0 : Int) := fun h9 => cz86 (zi_eq.mpr h9)
    refine lv_aload_n hx hb dX12_isRoom_4 rfl (lv_at hl 0 rfl) ?_
    refine lv_iload_n hx hb dX12_isRoom_5 rfl (lv_at hl 2 rfl) ?_
    have hPc := hP.sub (ws' := (List.flatten [(wMO qO k widthO manyO cellsO movedO (qTa 0) linesO (qHa 0) bridgeO cartO wardO frostAtO actO isKeptO loadNowO byNowO rowO memoryO whoseO deepNowO brokenByO brokenAtO goesByO comesToO sagMoreO creakOfO wipedByO deepAtO sagAtO loadAtO orderRowO oftenO lossOneO lossOtherO vO tO mO gO), (wmHa qHa k hHa)])) [0, 2] rfl
    refine vp_callSi (va_Run.run (va_runV (As := [.int 4]) (rest := []) ⟨hx, hb, hml, hown, hts⟩ (c_hasRead_4 l dC dI k qO widthO manyO cellsO movedO (qTa 0) linesO bridgeO cartO wardO frostAtO actO isKeptO loadNowO byNowO rowO memoryO whoseO deepNowO brokenByO brokenAtO goesByO comesToO sagMoreO creakOfO wipedByO deepAtO sagAtO loadAtO orderRowO oftenO lossOneO lossOtherO vO tO mO gO qHa hHa htO hmO hhHa) (cwV 1 hts (gk_V (wl_mem 0 rfl) (wl_mem 1 rfl) (wl_mem 2 rfl) (wl_mem 3 rfl) (fun w h => List.mem_cons_of_mem _ (List.mem_append_right _ (List.mem_append_left _ h))) wkg_c_hasRead_4) rfl rfl rfl (by decide +kernel) ⟨Nat.le_of_ble_eq_true rfl, Nat.le_of_ble_eq_true rfl⟩) ⟨fun a U g mk q => by obtain ⟨q0, qP, qK⟩ := q; exact ⟨q0, qP, va_K.moved (u := U) (U := U.calling g mk a) (Vm.Alike.refl U.vm) qK⟩, va_recv hK hPc (ci := 12) (q0 := 0) rfl rfl, fun U hU hW => ⟨rfl, by rw [hU]; exact hPc, va_K.moved hW.alike hK⟩⟩ rfl rfl hl.1 rfl (lv_room (Nat.le_of_ble_eq_true rfl)) dX12_isRoom_6 ⟨Nat.le_of_ble_eq_true rfl, Nat.le_of_ble_eq_true rfl⟩)) (fun rz90 gz89 => ?_)
    clear hPc
    obtain ⟨pz91, pz92⟩ := gz89
    have pz91 : 0 ≤ rz90.toInt ∧ rz90.toInt ≤ 7 := pz91
    have pz92 : rz90.toInt = ((hHa 0) 36).toInt := pz92
    refine lv_iload_n hx hb dX12_isRoom_9 rfl (lv_at hl 3 rfl) ?_
    refine lv_icmp_ne (tgt := 18) hx hb dX12_isRoom_10 (by decide) (fun cz93 => ?_) (fun cz93 => ?_)
    · skip
      have zz94 : ¬ rz90.toInt = (7 : Int) := fun h9 => cz93 (zi_eq.mpr h9)
      exact ct18_kz28 s.heap [] ls gO mO tO vO  hmO htO (by show (tO 0).toInt = (tO 0).toInt; omega) (by show (tO 1).toInt ≤ (tO 0).toInt; omega) (by show (tO 1).toInt ≤ (tO 1).toInt; omega) (by show p1.toInt = 0 ∨ ((hHa 0) 36).toInt < 7 ∨ (vO 4).toInt ≠ 0; omega) hP hD hS (lv_sub hl [0, 1] rfl)
    · skip
      have zz95 : rz90.toInt = (7 : Int) := zi_eq.mp cz93
      refine lv_aload_n hx hb dX12_isRoom_13 rfl (lv_at hl 0 rfl) ?_
      refine lv_iconst (v := 3) hx hb dX12_isRoom_14 (by decide) ?_
      have hPc := hP.sub (ws' := (List.flatten [(wMO qO k widthO manyO cellsO movedO (qTa 0) linesO (qHa 0) bridgeO cartO wardO frostAtO actO isKeptO loadNowO byNowO rowO memoryO whoseO deepNowO brokenByO brokenAtO goesByO comesToO sagMoreO creakOfO wipedByO deepAtO sagAtO loadAtO orderRowO oftenO lossOneO lossOtherO vO tO mO gO)] ++ List.flatten ([] : List va_W))) [0] rfl
      have hC : [0].map (fun i => (List.flatten [(wMO qO k widthO manyO cellsO movedO (qTa 0) linesO (qHa 0) bridgeO cartO wardO frostAtO actO isKeptO loadNowO byNowO rowO memoryO whoseO deepNowO brokenByO brokenAtO goesByO comesToO sagMoreO creakOfO wipedByO deepAtO sagAtO loadAtO orderRowO oftenO lossOneO lossOtherO vO tO mO gO)] ++ List.flatten [(wmTa qTa k aTa), (wmHa qHa k hHa)])[i]?) = (List.flatten [(wMO qO k widthO manyO cellsO movedO (qTa 0) linesO (qHa 0) bridgeO cartO wardO frostAtO actO isKeptO loadNowO byNowO rowO memoryO whoseO deepNowO brokenByO brokenAtO goesByO comesToO sagMoreO creakOfO wipedByO deepAtO sagAtO loadAtO orderRowO oftenO lossOneO lossOtherO vO tO mO gO)] ++ List.flatten ([] : List va_W)).map some := rfl
      have hDc := hD.sub [0] (by decide) hC
      have hFc := va_free hD hS hA [0] hC
      refine va_callv (va_runV (As := [.int 3]) (rest := []) ⟨hx, hb, hml, hown, hts⟩ (c_X12_fails l dC dI k s.heap.size qO widthO manyO cellsO movedO (qTa 0) linesO (qHa 0) bridgeO cartO wardO frostAtO actO isKeptO loadNowO byNowO rowO memoryO whoseO deepNowO brokenByO brokenAtO goesByO comesToO sagMoreO creakOfO wipedByO deepAtO sagAtO loadAtO orderRowO oftenO lossOneO lossOtherO vO tO mO gO (3 : Int32) htO hmO) (cwV 1 hts (gk_V (wl_mem 4 rfl) (wl_mem 5 rfl) (wl_mem 6 rfl) (wl_mem 3 rfl) (fun w h => List.mem_cons_of_mem _ (List.mem_append_right _ (List.mem_append_right _ (List.mem_append_left _ h)))) wkg_c_X12_fails) rfl rfl rfl (by decide +kernel) ⟨Nat.le_of_ble_eq_true rfl, Nat.le_of_ble_eq_true rfl⟩) ⟨fun a U g mk q => by obtain ⟨q0, q1, qP, qK, qD⟩ := q; exact ⟨q0, q1, qP, va_K.moved (u := U) (U := U.calling g mk a) (Vm.Alike.refl U.vm) qK, qD⟩, va_recv hK hPc (ci := 12) (q0 := 0) rfl rfl, fun U hU hW => ⟨rfl, by rw [hU], by rw [hU]; exact hPc, va_K.moved hW.alike hK, hDc.weaken (fun _ _ _ _ => trivial)⟩⟩ rfl rfl hl.1 rfl (lv_room (Nat.le_of_ble_eq_true rfl)) dX12_isRoom_15 ⟨Nat.le_of_ble_eq_true rfl, Nat.le_of_ble_eq_true rfl⟩) hS (fun q _ h => hFc q h) hFc (fun u t H1 locs ht hvm gz96 hB hz1 hk1 hS => ?_)
      obtain ⟨vz98, tz99, mz100, gz101, htz99, hmz100, pz102, pz103, pz104, pz105, pz106, hP1⟩ := hB
      rw [ht] at hP1
      obtain ⟨hP, hD⟩ := w_callR hP hD hk1 hP1 [0] rfl rfl (fun _ h => absurd h List.not_mem_nil) rfl [some 0] rfl rfl
      clear hPc hC hDc hFc hk1 hP1
      generalize H1 = H at hP hS ⊢
      have hP : va_P (dC, dI) vwCl (List.flatten [(wMO qO k widthO manyO cellsO movedO (qTa 0) linesO (qHa 0) bridgeO cartO wardO frostAtO actO isKeptO loadNowO byNowO rowO memoryO whoseO deepNowO brokenByO brokenAtO goesByO comesToO sagMoreO creakOfO wipedByO deepAtO sagAtO loadAtO orderRowO oftenO lossOneO lossOtherO vz98 tz99 mz100 gz101)] ++ List.flatten [(wmTa qTa k aTa), (wmHa qHa k hHa)]) H := hP
      have hD : va_D A (List.flatten [(wMO qO k widthO manyO cellsO movedO (qTa 0) linesO (qHa 0) bridgeO cartO wardO frostAtO actO isKeptO loadNowO byNowO rowO memoryO whoseO deepNowO brokenByO brokenAtO goesByO comesToO sagMoreO creakOfO wipedByO deepAtO sagAtO loadAtO orderRowO oftenO lossOneO lossOtherO vz98 tz99 mz100 gz101)] ++ List.flatten [(wmTa qTa k aTa), (wmHa qHa k hHa)]) := hD
      refine W.widen (k := 0) (n := 0) (Nat.le_refl 0) (Nat.le_refl 0) ?_
      have pz102 : ((vO 4).toInt ≠ 0 ∧ (vz98 4).toInt = (vO 4).toInt) ∨ ((vO 4).toInt = 0 ∧ (vz98 4).toInt = (3 : Int)) := pz102
      have pz103 : (tz99 0).toInt = (tO 0).toInt := pz103
      have pz104 : (tz99 1).toInt = (tO 1).toInt := pz104
      have pz105 : (vz98 1).toInt = (vO 1).toInt := pz105
      have pz106 : (vz98 3).toInt = (vO 3).toInt := pz106
      have bz107 := htO 0
      have bz108 := htO 1
      exact ct18_kz28 H locs ls gz101 mz100 tz99 vz98  hmz100 htz99 (by show (tz99 0).toInt = (tO 0).toInt; omega) (by show (tz99 1).toInt ≤ (tz99 0).toInt; omega) (by show (tO 1).toInt ≤ (tz99 1).toInt; omega) (by show p1.toInt = 0 ∨ ((hHa 0) 36).toInt < 7 ∨ (vz98 4).toInt ≠ 0; omega) hP hD hS (lv_sub hl [0, 1] rfl)
def wk_c_isRoom_5 : List Cond := .code yX12_isRoom cX12_isRoom 4 (some .boolean) :: ([.methodLink RX12 198 yX12_hasRead, .instanceMethod yX12_hasRead, .selects RX12 yX12_hasRead yX12_hasRead, .initialized RX12, .methodLink RX12 184 yX12_fails, .instanceMethod yX12_fails, .selects RX12 yX12_fails yX12_fails, .fieldLink RX12 168 "SagMemoryModel" "bad" "I", .methodLink RX12 178 yX12_next, .instanceMethod yX12_next, .selects RX12 yX12_next yX12_next] ++ (wk_c_hasRead_5 ++ (wk_c_X12_fails ++ (wsX120 ++ (wk_c_X12_next ++ [])))))
theorem wkg_c_isRoom_5 : wk_c_isRoom_5.all goodWord = true := by decide +kernel
set_option maxHeartbeats 4000000 in
set_option maxRecDepth 100000 in
theorem c_isRoom_5 (l : Launch) (dC : Nat → ClassId) (dI : Nat → Nat → Nat) (k : Nat → ClassId) (sz : Nat) (qO : Nat → Nat) (widthO : Nat) (manyO : Nat) (cellsO : Nat) (movedO : Nat) (linesO : Nat) (bridgeO : Nat) (cartO : Nat) (wardO : Nat) (frostAtO : Nat) (actO : Nat) (isKeptO : Nat) (loadNowO : Nat) (byNowO : Nat) (rowO : Nat) (memoryO : Nat) (whoseO : Nat) (deepNowO : Nat) (brokenByO : Nat) (brokenAtO : Nat) (goesByO : Nat) (comesToO : Nat) (sagMoreO : Nat) (creakOfO : Nat) (wipedByO : Nat) (deepAtO : Nat) (sagAtO : Nat) (loadAtO : Nat) (orderRowO : Nat) (oftenO : Nat) (lossOneO : Nat) (lossOtherO : Nat) (vO : Nat → Int32) (tO : Nat → Int32) (mO : Nat → Int32) (gO : Nat → Int64) (qTa : Nat → Nat) (aTa : Nat → Nat → Int32) (qHa : Nat → Nat) (hHa : Nat → Nat → Int32) (p1 : Int32) (htO : Rg 0 700 tO) (hmO : Rg (-1) 127 mO) (hhHa : Pa_h hHa) (hp0 : (tO 1).toInt ≤ (tO 0).toInt) (hp1 : 0 ≤ p1.toInt ∧ p1.toInt ≤ 1) : Met l yX12_isRoom wk_c_isRoom_5 ({ frames := 2, cells := 0, slots := 0, locals := 44 }) (va_Pc [.ref (qO 0), .int p1, .int 5, .int 5] (fun U => U.heap.size = sz ∧ va_P (dC, dI) vwCl (List.flatten [(wMO qO k widthO manyO cellsO movedO (qTa 0) linesO (qHa 0) bridgeO cartO wardO frostAtO actO isKeptO loadNowO byNowO rowO memoryO whoseO deepNowO brokenByO brokenAtO goesByO comesToO sagMoreO creakOfO wipedByO deepAtO sagAtO loadAtO orderRowO oftenO lossOneO lossOtherO vO tO mO gO)] ++ List.flatten [(wmTa qTa k aTa), (wmHa qHa k hHa)]) U.heap ∧ va_K (dC, dI) vwCl (tK k) U ∧ va_D (fun _ => True) (List.flatten [(wMO qO k widthO manyO cellsO movedO (qTa 0) linesO (qHa 0) bridgeO cartO wardO frostAtO actO isKeptO loadNowO byNowO rowO memoryO whoseO deepNowO brokenByO brokenAtO goesByO comesToO sagMoreO creakOfO wipedByO deepAtO sagAtO loadAtO orderRowO oftenO lossOneO lossOtherO vO tO mO gO)] ++ List.flatten [(wmTa qTa k aTa), (wmHa qHa k hHa)]))) (va_Qi (fun (r : Int32) (u : Int32) => r = u) (fun (u : Int32) (t : State) => ∃ (vO' : Nat → Int32) (tO' : Nat → Int32) (mO' : Nat → Int32) (gO' : Nat → Int64), Rg 0 700 tO' ∧ Rg (-1) 127 mO' ∧ ((tO' 0).toInt = (tO 0).toInt) ∧ ((tO' 1).toInt ≤ (tO 0).toInt) ∧ ((tO 1).toInt ≤ (tO' 1).toInt) ∧ (u.toInt = 0 ∨ ((hHa 0) 37).toInt < 5) ∧ (u.toInt = 0 ∨ u.toInt = 1) ∧ va_P (dC, dI) vwCl (List.flatten [(wMO qO k widthO manyO cellsO movedO (qTa 0) linesO (qHa 0) bridgeO cartO wardO frostAtO actO isKeptO loadNowO byNowO rowO memoryO whoseO deepNowO brokenByO brokenAtO goesByO comesToO sagMoreO creakOfO wipedByO deepAtO sagAtO loadAtO orderRowO oftenO lossOneO lossOtherO vO' tO' mO' gO')] ++ List.flatten [(wmTa qTa k aTa), (wmHa qHa k hHa)]) t.heap) (va_A (List.flatten [(wMO qO k widthO manyO cellsO movedO (qTa 0) linesO (qHa 0) bridgeO cartO wardO frostAtO actO isKeptO loadNowO byNowO rowO memoryO whoseO deepNowO brokenByO brokenAtO goesByO comesToO sagMoreO creakOfO wipedByO deepAtO sagAtO loadAtO orderRowO oftenO lossOneO lossOtherO vO tO mO gO)] ++ List.flatten [(wmTa qTa k aTa), (wmHa qHa k hHa)]) sz)) 0 0 (va_A (List.flatten [(wMO qO k widthO manyO cellsO movedO (qTa 0) linesO (qHa 0) bridgeO cartO wardO frostAtO actO isKeptO loadNowO byNowO rowO memoryO whoseO deepNowO brokenByO brokenAtO goesByO comesToO sagMoreO creakOfO wipedByO deepAtO sagAtO loadAtO orderRowO oftenO lossOneO lossOtherO vO tO mO gO)] ++ List.flatten [(wmTa qTa k aTa), (wmHa qHa k hHa)]) sz) := by
  refine Met.ofW (cc := cX12_isRoom) (maxL := 4) (ret := (some .boolean)) (by decide) rfl ?_
  intro p e s m args below meth c s₁ B hml hv
  obtain ⟨rfl, hsz, hP, hK, hD0⟩ := hv
  have hx := B.exec
  have hb := B.bytes
  have hr := B.returns
  have hts := atoms_spec (ws := wk_c_isRoom_5) B.pre
  have hown : s.vm.findClass RX12 = some m.cls := findClass_of_methodNamed B.named
  have hlocks := B.notSynchronized
  subst hsz
  have hD := hD0.self (sz := s.heap.size)
  generalize hAe : va_A (List.flatten [(wMO qO k widthO manyO cellsO movedO (qTa 0) linesO (qHa 0) bridgeO cartO wardO frostAtO actO isKeptO loadNowO byNowO rowO memoryO whoseO deepNowO brokenByO brokenAtO goesByO comesToO sagMoreO creakOfO wipedByO deepAtO sagAtO loadAtO orderRowO oftenO lossOneO lossOtherO vO tO mO gO)] ++ List.flatten [(wmTa qTa k aTa), (wmHa qHa k hHa)]) s.heap.size = A at hD ⊢
  have hA : ∀ q : Nat, s.heap.size ≤ q → A q := fun q h => by rw [← hAe]; exact Or.inr h
  have hS : va_S A s.heap s.heap [] := va_S.rf
  have hP : va_P (dC, dI) vwCl (List.flatten [(wMO qO k widthO manyO cellsO movedO (qTa 0) linesO (qHa 0) bridgeO cartO wardO frostAtO actO isKeptO loadNowO byNowO rowO memoryO whoseO deepNowO brokenByO brokenAtO goesByO comesToO sagMoreO creakOfO wipedByO deepAtO sagAtO loadAtO orderRowO oftenO lossOneO lossOtherO vO tO mO gO)] ++ List.flatten [(wmTa qTa k aTa), (wmHa qHa k hHa)]) s.heap := hP
  have hl := lv_entry ([.ref (qO 0), .int p1, .int 5, .int 5]) (n := 4) (Nat.le_of_ble_eq_true rfl)
  rw [lg_entry_eq]
  generalize (lg_sl ([.ref (qO 0), .int p1, .int 5, .int 5]) ++ List.replicate (4 - (lg_sl ([.ref (qO 0), .int p1, .int 5, .int 5])).length) Slot.unset).toArray = ls at hl ⊢
  have hl : lv_has ls 4 [(0, .ref (qO 0)), (1, .int p1), (2, .int 5), (3, .int 5)] := hl
  refine w_gen (fun Q hQ => ?_)
  refine lv_iload_n hx hb dX12_isRoom_0 rfl (lv_at hl 1 rfl) ?_
  have ct18_kz28 : ∀ (H : Heap) (locs : List Loc) (ls : Array Slot) (gz24 : Nat → Int64) (mz25 : Nat → Int32) (tz26 : Nat → Int32) (vz27 : Nat → Int32), Rg (-1) 127 mz25 → Rg 0 700 tz26 → (tz26 0).toInt = (tO 0).toInt → (tz26 1).toInt ≤ (tz26 0).toInt → (tO 1).toInt ≤ (tz26 1).toInt → p1.toInt = 0 ∨ ((hHa 0) 37).toInt < 5 ∨ (vz27 4).toInt ≠ 0 → va_P (dC, dI) vwCl (List.flatten [(wMO qO k widthO manyO cellsO movedO (qTa 0) linesO (qHa 0) bridgeO cartO wardO frostAtO actO isKeptO loadNowO byNowO rowO memoryO whoseO deepNowO brokenByO brokenAtO goesByO comesToO sagMoreO creakOfO wipedByO deepAtO sagAtO loadAtO orderRowO oftenO lossOneO lossOtherO vz27 tz26 mz25 gz24)] ++ List.flatten [(wmTa qTa k aTa), (wmHa qHa k hHa)]) H → va_D A (List.flatten [(wMO qO k widthO manyO cellsO movedO (qTa 0) linesO (qHa 0) bridgeO cartO wardO frostAtO actO isKeptO loadNowO byNowO rowO memoryO whoseO deepNowO brokenByO brokenAtO goesByO comesToO sagMoreO creakOfO wipedByO deepAtO sagAtO loadAtO orderRowO oftenO lossOneO lossOtherO vz27 tz26 mz25 gz24)] ++ List.flatten [(wmTa qTa k aTa), (wmHa qHa k hHa)]) → va_S A s.heap H locs → lv_has ls 4 [(0, .ref (qO 0)), (1, .int p1)] → W p l e (headSpec wk_c_isRoom_5 ({ frames := 2, cells := 0, slots := 0, locals := 44 })).room s m ([.ref (qO 0), .int p1, .int 5, .int 5] : List Value).toArray below meth c H locs 0 0 Q (F0 m 18 ls []) := by
    intro H locs ls gz24 mz25 tz26 vz27 hmz25 htz26 jz29 jz30 jz31 jz32 hP hD hS hl
    refine lv_iload_n hx hb dX12_isRoom_18 rfl (lv_at hl 1 rfl) ?_
    have ct33_kz56 : ∀ (H : Heap) (locs : List Loc) (ls : Array Slot) (gz52 : Nat → Int64) (mz53 : Nat → Int32) (tz54 : Nat → Int32) (vz55 : Nat → Int32), Rg (-1) 127 mz53 → Rg 0 700 tz54 → (tz54 0).toInt = (tO 0).toInt → (tz54 1).toInt ≤ (tz54 0).toInt → (tO 1).toInt ≤ (tz54 1).toInt → p1.toInt = 0 ∨ ((hHa 0) 37).toInt < 5 ∨ (vz55 4).toInt ≠ 0 → va_P (dC, dI) vwCl (List.flatten [(wMO qO k widthO manyO cellsO movedO (qTa 0) linesO (qHa 0) bridgeO cartO wardO frostAtO actO isKeptO loadNowO byNowO rowO memoryO whoseO deepNowO brokenByO brokenAtO goesByO comesToO sagMoreO creakOfO wipedByO deepAtO sagAtO loadAtO orderRowO oftenO lossOneO lossOtherO vz55 tz54 mz53 gz52)] ++ List.flatten [(wmTa qTa k aTa), (wmHa qHa k hHa)]) H → va_D A (List.flatten [(wMO qO k widthO manyO cellsO movedO (qTa 0) linesO (qHa 0) bridgeO cartO wardO frostAtO actO isKeptO loadNowO byNowO rowO memoryO whoseO deepNowO brokenByO brokenAtO goesByO comesToO sagMoreO creakOfO wipedByO deepAtO sagAtO loadAtO orderRowO oftenO lossOneO lossOtherO vz55 tz54 mz53 gz52)] ++ List.flatten [(wmTa qTa k aTa), (wmHa qHa k hHa)]) → va_S A s.heap H locs → lv_has ls 4 [(0, .ref (qO 0)), (1, .int p1)] → W p l e (headSpec wk_c_isRoom_5 ({ frames := 2, cells := 0, slots := 0, locals := 44 })).room s m ([.ref (qO 0), .int p1, .int 5, .int 5] : List Value).toArray below meth c H locs 0 0 Q (F0 m 33 ls []) := by
      intro H locs ls gz52 mz53 tz54 vz55 hmz53 htz54 jz57 jz58 jz59 jz60 hP hD hS hl
      refine lv_iload_n hx hb dX12_isRoom_33 rfl (lv_at hl 1 rfl) ?_
      refine lv_if_eq (tgt := 48) hx hb dX12_isRoom_34 (by decide) (fun cz61 => ?_) (fun cz61 => ?_)
      · skip
        have zz62 : p1.toInt = (0 : Int) := zi_eq.mp cz61
        refine lv_iconst (v := 0) hx hb dX12_isRoom_48 (by decide) ?_
        rw [hQ]
        exact W.zret (v := (0 : Int32)) hx hb hr rfl (fun t ht hW => ⟨⟨(0 : Int32), (0 : Int32), rfl, rfl, vz55, tz54, mz53, gz52, htz54, hmz53, (by show (tz54 0).toInt = (tO 0).toInt; omega), (by show (tz54 1).toInt ≤ (tO 0).toInt; omega), (by show (tO 1).toInt ≤ (tz54 1).toInt; omega), (by show (0 : Int) = 0 ∨ ((hHa 0) 37).toInt < 5; omega), (by show (0 : Int) = 0 ∨ (0 : Int) = 1; omega), by rw [ht]; exact hP⟩, hS.F ht⟩) hS.2.2 dX12_isRoom_49
      · skip
        have zz63 : ¬ p1.toInt = (0 : Int) := fun h9 => cz61 (zi_eq.mpr h9)
        refine lv_aload_n hx hb dX12_isRoom_37 rfl (lv_at hl 0 rfl) ?_
        refine va_get (D := (dC, dI)) (ci := 12) (v := .int (vz55 4)) (C := RX12) (T := TX12) (N := 59) hx hb hts (fun w h => List.mem_cons_of_mem _ (List.mem_append_right _ (List.mem_append_right _ (List.mem_append_right _ (List.mem_append_left _ h))))) hown hK hP 0 rfl rfl 12 (by decide) (hts (.fieldLink RX12 168 "SagMemoryModel" "bad" "I") (wl_mem 7 rfl)) (fun _ h9 => h9) rfl dX12_isRoom_38 ?_
        refine lv_if_ne (tgt := 48) hx hb dX12_isRoom_41 (by decide) (fun cz64 => ?_) (fun cz64 => ?_)
        · skip
          have zz65 : ¬ (vz55 4).toInt = (0 : Int) := fun h9 => cz64 (zi_eq.mpr h9)
          refine lv_iconst (v := 0) hx hb dX12_isRoom_48 (by decide) ?_
          rw [hQ]
          exact W.zret (v := (0 : Int32)) hx hb hr rfl (fun t ht hW => ⟨⟨(0 : Int32), (0 : Int32), rfl, rfl, vz55, tz54, mz53, gz52, htz54, hmz53, (by show (tz54 0).toInt = (tO 0).toInt; omega), (by show (tz54 1).toInt ≤ (tO 0).toInt; omega), (by show (tO 1).toInt ≤ (tz54 1).toInt; omega), (by show (0 : Int) = 0 ∨ ((hHa 0) 37).toInt < 5; omega), (by show (0 : Int) = 0 ∨ (0 : Int) = 1; omega), by rw [ht]; exact hP⟩, hS.F ht⟩) hS.2.2 dX12_isRoom_49
        · skip
          have zz66 : (vz55 4).toInt = (0 : Int) := zi_eq.mp cz64
          refine lv_iconst (v := 1) hx hb dX12_isRoom_44 (by decide) ?_
          refine lv_goto (tgt := 49) hx hb dX12_isRoom_45 (by decide) ?_
          rw [hQ]
          exact W.zret (v := (1 : Int32)) hx hb hr rfl (fun t ht hW => ⟨⟨(1 : Int32), (1 : Int32), rfl, rfl, vz55, tz54, mz53, gz52, htz54, hmz53, (by show (tz54 0).toInt = (tO 0).toInt; omega), (by show (tz54 1).toInt ≤ (tO 0).toInt; omega), (by show (tO 1).toInt ≤ (tz54 1).toInt; omega), (by show (1 : Int) = 0 ∨ ((hHa 0) 37).toInt < 5; omega), (by show (1 : Int) = 0 ∨ (1 : Int) = 1; omega), by rw [ht]; exact hP⟩, hS.F ht⟩) hS.2.2 dX12_isRoom_49
    refine lv_if_eq (tgt := 33) hx hb dX12_isRoom_19 (by decide) (fun cz67 => ?_) (fun cz67 => ?_)
    · skip
      have zz68 : p1.toInt = (0 : Int) := zi_eq.mp cz67
      exact ct33_kz56 H locs ls gz24 mz25 tz26 vz27  hmz25 htz26 (by show (tz26 0).toInt = (tO 0).toInt; omega) (by show (tz26 1).toInt ≤ (tz26 0).toInt; omega) (by show (tO 1).toInt ≤ (tz26 1).toInt; omega) (by show p1.toInt = 0 ∨ ((hHa 0) 37).toInt < 5 ∨ (vz27 4).toInt ≠ 0; omega) hP hD hS (lv_sub hl [0, 1] rfl)
    · skip
      have zz69 : ¬ p1.toInt = (0 : Int) := fun h9 => cz67 (zi_eq.mpr h9)
      refine lv_aload_n hx hb dX12_isRoom_22 rfl (lv_at hl 0 rfl) ?_
      refine va_get (D := (dC, dI)) (ci := 12) (v := .int (vz27 4)) (C := RX12) (T := TX12) (N := 59) hx hb hts (fun w h => List.mem_cons_of_mem _ (List.mem_append_right _ (List.mem_append_right _ (List.mem_append_right _ (List.mem_append_left _ h))))) hown hK hP 0 rfl rfl 12 (by decide) (hts (.fieldLink RX12 168 "SagMemoryModel" "bad" "I") (wl_mem 7 rfl)) (fun _ h9 => h9) rfl dX12_isRoom_23 ?_
      refine lv_if_ne (tgt := 33) hx hb dX12_isRoom_26 (by decide) (fun cz70 => ?_) (fun cz70 => ?_)
      · skip
        have zz71 : ¬ (vz27 4).toInt = (0 : Int) := fun h9 => cz70 (zi_eq.mpr h9)
        exact ct33_kz56 H locs ls gz24 mz25 tz26 vz27  hmz25 htz26 (by show (tz26 0).toInt = (tO 0).toInt; omega) (by show (tz26 1).toInt ≤ (tz26 0).toInt; omega) (by show (tO 1).toInt ≤ (tz26 1).toInt; omega) (by show p1.toInt = 0 ∨ ((hHa 0) 37).toInt < 5 ∨ (vz27 4).toInt ≠ 0; omega) hP hD hS (lv_sub hl [0, 1] rfl)
      · skip
        have zz72 : (vz27 4).toInt = (0 : Int) := zi_eq.mp cz70
        refine lv_aload_n hx hb dX12_isRoom_29 rfl (lv_at hl 0 rfl) ?_
        have bz73 := htz26 1
        have bz74 := htz26 0
        have hPc := hP.sub (ws' := (List.flatten [(wMO qO k widthO manyO cellsO movedO (qTa 0) linesO (qHa 0) bridgeO cartO wardO frostAtO actO isKeptO loadNowO byNowO rowO memoryO whoseO deepNowO brokenByO brokenAtO goesByO comesToO sagMoreO creakOfO wipedByO deepAtO sagAtO loadAtO orderRowO oftenO lossOneO lossOtherO vz27 tz26 mz25 gz24)] ++ List.flatten [(wmTa qTa k aTa)])) [0, 1] rfl
        have hC : [0, 1].map (fun i => (List.flatten [(wMO qO k widthO manyO cellsO movedO (qTa 0) linesO (qHa 0) bridgeO cartO wardO frostAtO actO isKeptO loadNowO byNowO rowO memoryO whoseO deepNowO brokenByO brokenAtO goesByO comesToO sagMoreO creakOfO wipedByO deepAtO sagAtO loadAtO orderRowO oftenO lossOneO lossOtherO vz27 tz26 mz25 gz24)] ++ List.flatten [(wmTa qTa k aTa), (wmHa qHa k hHa)])[i]?) = (List.flatten [(wMO qO k widthO manyO cellsO movedO (qTa 0) linesO (qHa 0) bridgeO cartO wardO frostAtO actO isKeptO loadNowO byNowO rowO memoryO whoseO deepNowO brokenByO brokenAtO goesByO comesToO sagMoreO creakOfO wipedByO deepAtO sagAtO loadAtO orderRowO oftenO lossOneO lossOtherO vz27 tz26 mz25 gz24)] ++ List.flatten [(wmTa qTa k aTa)]).map some := rfl
        have hDc := hD.sub [0, 1] (by decide) hC
        have hFc := va_free hD hS hA [0, 1] hC
        refine va_callv (va_runV (As := []) (rest := []) ⟨hx, hb, hml, hown, hts⟩ (c_X12_next l dC dI k H.size qO widthO manyO cellsO movedO linesO (qHa 0) bridgeO cartO wardO frostAtO actO isKeptO loadNowO byNowO rowO memoryO whoseO deepNowO brokenByO brokenAtO goesByO comesToO sagMoreO creakOfO wipedByO deepAtO sagAtO loadAtO orderRowO oftenO lossOneO lossOtherO vz27 tz26 mz25 gz24 qTa aTa htz26 hmz25 (by show (tz26 1).toInt ≤ (tz26 0).toInt; omega)) (cwV 0 hts (gk_V (wl_mem 8 rfl) (wl_mem 9 rfl) (wl_mem 10 rfl) (wl_mem 3 rfl) (fun w h => List.mem_cons_of_mem _ (List.mem_append_right _ (List.mem_append_right _ (List.mem_append_right _ (List.mem_append_right _ (List.mem_append_left _ h)))))) wkg_c_X12_next) rfl rfl rfl (by decide +kernel) ⟨Nat.le_of_ble_eq_true rfl, Nat.le_of_ble_eq_true rfl⟩) ⟨fun a U g mk q => by obtain ⟨q0, q1, qP, qK, qD⟩ := q; exact ⟨q0, q1, qP, va_K.moved (u := U) (U := U.calling g mk a) (Vm.Alike.refl U.vm) qK, qD⟩, va_recv hK hPc (ci := 12) (q0 := 0) rfl rfl, fun U hU hW => ⟨rfl, by rw [hU], by rw [hU]; exact hPc, va_K.moved hW.alike hK, hDc.weaken (fun _ _ _ _ => trivial)⟩⟩ rfl rfl hl.1 rfl (lv_room (Nat.le_of_ble_eq_true rfl)) dX12_isRoom_30 ⟨Nat.le_of_ble_eq_true rfl, Nat.le_of_ble_eq_true rfl⟩) hS (fun q _ h => hFc q h) hFc (fun u t H1 locs ht hvm gz75 hB hz1 hk1 hS => ?_)
        obtain ⟨vz77, tz78, mz79, gz80, htz78, hmz79, pz81, pz82, pz83, pz84, pz85, hP1⟩ := hB
        rw [ht] at hP1
        obtain ⟨hP, hD⟩ := w_callR hP hD hk1 hP1 [0] rfl rfl (wk_memC [1] rfl) rfl [some 0] rfl rfl
        clear hPc hC hDc hFc hk1 hP1
        generalize H1 = H at hP hS ⊢
        have hP : va_P (dC, dI) vwCl (List.flatten [(wMO qO k widthO manyO cellsO movedO (qTa 0) linesO (qHa 0) bridgeO cartO wardO frostAtO actO isKeptO loadNowO byNowO rowO memoryO whoseO deepNowO brokenByO brokenAtO goesByO comesToO sagMoreO creakOfO wipedByO deepAtO sagAtO loadAtO orderRowO oftenO lossOneO lossOtherO vz77 tz78 mz79 gz80)] ++ List.flatten [(wmTa qTa k aTa), (wmHa qHa k hHa)]) H := hP
        have hD : va_D A (List.flatten [(wMO qO k widthO manyO cellsO movedO (qTa 0) linesO (qHa 0) bridgeO cartO wardO frostAtO actO isKeptO loadNowO byNowO rowO memoryO whoseO deepNowO brokenByO brokenAtO goesByO comesToO sagMoreO creakOfO wipedByO deepAtO sagAtO loadAtO orderRowO oftenO lossOneO lossOtherO vz77 tz78 mz79 gz80)] ++ List.flatten [(wmTa qTa k aTa), (wmHa qHa k hHa)]) := hD
        refine W.widen (k := 0) (n := 0) (Nat.le_refl 0) (Nat.le_refl 0) ?_
        have pz81 : (tz78 0).toInt = (tz26 0).toInt := pz81
        have pz82 : (tz78 1).toInt ≤ (tz26 0).toInt := pz82
        have pz83 : (tz26 1).toInt ≤ (tz78 1).toInt := pz83
        have pz84 : (vz77 1).toInt = 0 ∨ (tz26 1).toInt < (tz78 1).toInt := pz84
        have pz85 : (vz77 4).toInt = (vz27 4).toInt := pz85
        exact ct33_kz56 H locs ls gz80 mz79 tz78 vz77  hmz79 htz78 (by show (tz78 0).toInt = (tO 0).toInt; omega) (by show (tz78 1).toInt ≤ (tz78 0).toInt; omega) (by show (tO 1).toInt ≤ (tz78 1).toInt; omega) (by show p1.toInt = 0 ∨ ((hHa 0) 37).toInt < 5 ∨ (vz77 4).toInt ≠ 0; omega) hP hD hS (lv_sub hl [0, 1] rfl)
  refine lv_if_eq (tgt := 18) hx hb dX12_isRoom_1 (by decide) (fun cz86 => ?_) (fun cz86 => ?_)
  · skip
    have zz87 : p1.toInt = (0 : Int) := zi_eq.mp cz86
    exact ct18_kz28 s.heap [] ls gO mO tO vO  hmO htO (by show (tO 0).toInt = (tO 0).toInt; omega) (by show (tO 1).toInt ≤ (tO 0).toInt; omega) (by show (tO 1).toInt ≤ (tO 1).toInt; omega) (by show p1.toInt = 0 ∨ ((hHa 0) 37).toInt < 5 ∨ (vO 4).toInt ≠ 0; omega) hP hD hS (lv_sub hl [0, 1] rfl)
  · skip
    have zz88 : ¬ p1.toInt = (0 : Int) := fun h9 => cz86 (zi_eq.mpr h9)
    refine lv_aload_n hx hb dX12_isRoom_4 rfl (lv_at hl 0 rfl) ?_
    refine lv_iload_n hx hb dX12_isRoom_5 rfl (lv_at hl 2 rfl) ?_
    have hPc := hP.sub (ws' := (List.flatten [(wMO qO k widthO manyO cellsO movedO (qTa 0) linesO (qHa 0) bridgeO cartO wardO frostAtO actO isKeptO loadNowO byNowO rowO memoryO whoseO deepNowO brokenByO brokenAtO goesByO comesToO sagMoreO creakOfO wipedByO deepAtO sagAtO loadAtO orderRowO oftenO lossOneO lossOtherO vO tO mO gO), (wmHa qHa k hHa)])) [0, 2] rfl
    refine vp_callSi (va_Run.run (va_runV (As := [.int 5]) (rest := []) ⟨hx, hb, hml, hown, hts⟩ (c_hasRead_5 l dC dI k qO widthO manyO cellsO movedO (qTa 0) linesO bridgeO cartO wardO frostAtO actO isKeptO loadNowO byNowO rowO memoryO whoseO deepNowO brokenByO brokenAtO goesByO comesToO sagMoreO creakOfO wipedByO deepAtO sagAtO loadAtO orderRowO oftenO lossOneO lossOtherO vO tO mO gO qHa hHa htO hmO hhHa) (cwV 1 hts (gk_V (wl_mem 0 rfl) (wl_mem 1 rfl) (wl_mem 2 rfl) (wl_mem 3 rfl) (fun w h => List.mem_cons_of_mem _ (List.mem_append_right _ (List.mem_append_left _ h))) wkg_c_hasRead_5) rfl rfl rfl (by decide +kernel) ⟨Nat.le_of_ble_eq_true rfl, Nat.le_of_ble_eq_true rfl⟩) ⟨fun a U g mk q => by obtain ⟨q0, qP, qK⟩ := q; exact ⟨q0, qP, va_K.moved (u := U) (U := U.calling g mk a) (Vm.Alike.refl U.vm) qK⟩, va_recv hK hPc (ci := 12) (q0 := 0) rfl rfl, fun U hU hW => ⟨rfl, by rw [hU]; exact hPc, va_K.moved hW.alike hK⟩⟩ rfl rfl hl.1 rfl (lv_room (Nat.le_of_ble_eq_true rfl)) dX12_isRoom_6 ⟨Nat.le_of_ble_eq_true rfl, Nat.le_of_ble_eq_true rfl⟩)) (fun rz90 gz89 => ?_)
    clear hPc
    obtain ⟨pz91, pz92⟩ := gz89
    have pz91 : 0 ≤ rz90.toInt ∧ rz90.toInt ≤ 5 := pz91
    have pz92 : rz90.toInt = ((hHa 0) 37).toInt := pz92
    refine lv_iload_n hx hb dX12_isRoom_9 rfl (lv_at hl 3 rfl) ?_
    refine lv_icmp_ne (tgt := 18) hx hb dX12_isRoom_10 (by decide) (fun cz93 => ?_) (fun cz93 => ?_)
    · skip
      have zz94 : ¬ rz90.toInt = (5 : Int) := fun h9 => cz93 (zi_eq.mpr h9)
      exact ct18_kz28 s.heap [] ls gO mO tO vO  hmO htO (by show (tO 0).toInt = (tO 0).toInt; omega) (by show (tO 1).toInt ≤ (tO 0).toInt; omega) (by show (tO 1).toInt ≤ (tO 1).toInt; omega) (by show p1.toInt = 0 ∨ ((hHa 0) 37).toInt < 5 ∨ (vO 4).toInt ≠ 0; omega) hP hD hS (lv_sub hl [0, 1] rfl)
    · skip
      have zz95 : rz90.toInt = (5 : Int) := zi_eq.mp cz93
      refine lv_aload_n hx hb dX12_isRoom_13 rfl (lv_at hl 0 rfl) ?_
      refine lv_iconst (v := 3) hx hb dX12_isRoom_14 (by decide) ?_
      have hPc := hP.sub (ws' := (List.flatten [(wMO qO k widthO manyO cellsO movedO (qTa 0) linesO (qHa 0) bridgeO cartO wardO frostAtO actO isKeptO loadNowO byNowO rowO memoryO whoseO deepNowO brokenByO brokenAtO goesByO comesToO sagMoreO creakOfO wipedByO deepAtO sagAtO loadAtO orderRowO oftenO lossOneO lossOtherO vO tO mO gO)] ++ List.flatten ([] : List va_W))) [0] rfl
      have hC : [0].map (fun i => (List.flatten [(wMO qO k widthO manyO cellsO movedO (qTa 0) linesO (qHa 0) bridgeO cartO wardO frostAtO actO isKeptO loadNowO byNowO rowO memoryO whoseO deepNowO brokenByO brokenAtO goesByO comesToO sagMoreO creakOfO wipedByO deepAtO sagAtO loadAtO orderRowO oftenO lossOneO lossOtherO vO tO mO gO)] ++ List.flatten [(wmTa qTa k aTa), (wmHa qHa k hHa)])[i]?) = (List.flatten [(wMO qO k widthO manyO cellsO movedO (qTa 0) linesO (qHa 0) bridgeO cartO wardO frostAtO actO isKeptO loadNowO byNowO rowO memoryO whoseO deepNowO brokenByO brokenAtO goesByO comesToO sagMoreO creakOfO wipedByO deepAtO sagAtO loadAtO orderRowO oftenO lossOneO lossOtherO vO tO mO gO)] ++ List.flatten ([] : List va_W)).map some := rfl
      have hDc := hD.sub [0] (by decide) hC
      have hFc := va_free hD hS hA [0] hC
      refine va_callv (va_runV (As := [.int 3]) (rest := []) ⟨hx, hb, hml, hown, hts⟩ (c_X12_fails l dC dI k s.heap.size qO widthO manyO cellsO movedO (qTa 0) linesO (qHa 0) bridgeO cartO wardO frostAtO actO isKeptO loadNowO byNowO rowO memoryO whoseO deepNowO brokenByO brokenAtO goesByO comesToO sagMoreO creakOfO wipedByO deepAtO sagAtO loadAtO orderRowO oftenO lossOneO lossOtherO vO tO mO gO (3 : Int32) htO hmO) (cwV 1 hts (gk_V (wl_mem 4 rfl) (wl_mem 5 rfl) (wl_mem 6 rfl) (wl_mem 3 rfl) (fun w h => List.mem_cons_of_mem _ (List.mem_append_right _ (List.mem_append_right _ (List.mem_append_left _ h)))) wkg_c_X12_fails) rfl rfl rfl (by decide +kernel) ⟨Nat.le_of_ble_eq_true rfl, Nat.le_of_ble_eq_true rfl⟩) ⟨fun a U g mk q => by obtain ⟨q0, q1, qP, qK, qD⟩ := q; exact ⟨q0, q1, qP, va_K.moved (u := U) (U := U.calling g mk a) (Vm.Alike.refl U.vm) qK, qD⟩, va_recv hK hPc (ci := 12) (q0 := 0) rfl rfl, fun U hU hW => ⟨rfl, by rw [hU], by rw [hU]; exact hPc, va_K.moved hW.alike hK, hDc.weaken (fun _ _ _ _ => trivial)⟩⟩ rfl rfl hl.1 rfl (lv_room (Nat.le_of_ble_eq_true rfl)) dX12_isRoom_15 ⟨Nat.le_of_ble_eq_true rfl, Nat.le_of_ble_eq_true rfl⟩) hS (fun q _ h => hFc q h) hFc (fun u t H1 locs ht hvm gz96 hB hz1 hk1 hS => ?_)
      obtain ⟨vz98, tz99, mz100, gz101, htz99, hmz100, pz102, pz103, pz104, pz105, pz106, hP1⟩ := hB
      rw [ht] at hP1
      obtain ⟨hP, hD⟩ := w_callR hP hD hk1 hP1 [0] rfl rfl (fun _ h => absurd h List.not_mem_nil) rfl [some 0] rfl rfl
      clear hPc hC hDc hFc hk1 hP1
      generalize H1 = H at hP hS ⊢
      have hP : va_P (dC, dI) vwCl (List.flatten [(wMO qO k widthO manyO cellsO movedO (qTa 0) linesO (qHa 0) bridgeO cartO wardO frostAtO actO isKeptO loadNowO byNowO rowO memoryO whoseO deepNowO brokenByO brokenAtO goesByO comesToO sagMoreO creakOfO wipedByO deepAtO sagAtO loadAtO orderRowO oftenO lossOneO lossOtherO vz98 tz99 mz100 gz101)] ++ List.flatten [(wmTa qTa k aTa), (wmHa qHa k hHa)]) H := hP
      have hD : va_D A (List.flatten [(wMO qO k widthO manyO cellsO movedO (qTa 0) linesO (qHa 0) bridgeO cartO wardO frostAtO actO isKeptO loadNowO byNowO rowO memoryO whoseO deepNowO brokenByO brokenAtO goesByO comesToO sagMoreO creakOfO wipedByO deepAtO sagAtO loadAtO orderRowO oftenO lossOneO lossOtherO vz98 tz99 mz100 gz101)] ++ List.flatten [(wmTa qTa k aTa), (wmHa qHa k hHa)]) := hD
      refine W.widen (k := 0) (n := 0) (Nat.le_refl 0) (Nat.le_refl 0) ?_
      have pz102 : ((vO 4).toInt ≠ 0 ∧ (vz98 4).toInt = (vO 4).toInt) ∨ ((vO 4).toInt = 0 ∧ (vz98 4).toInt = (3 : Int)) := pz102
      have pz103 : (tz99 0).toInt = (tO 0).toInt := pz103
      have pz104 : (tz99 1).toInt = (tO 1).toInt := pz104
      have pz105 : (vz98 1).toInt = (vO 1).toInt := pz105
      have pz106 : (vz98 3).toInt = (vO 3).toInt := pz106
      have bz107 := htO 0
      have bz108 := htO 1
      exact ct18_kz28 H locs ls gz101 mz100 tz99 vz98  hmz100 htz99 (by show (tz99 0).toInt = (tO 0).toInt; omega) (by show (tz99 1).toInt ≤ (tz99 0).toInt; omega) (by show (tO 1).toInt ≤ (tz99 1).toInt; omega) (by show p1.toInt = 0 ∨ ((hHa 0) 37).toInt < 5 ∨ (vz98 4).toInt ≠ 0; omega) hP hD hS (lv_sub hl [0, 1] rfl)
def wk_c_isRoom_6 : List Cond := .code yX12_isRoom cX12_isRoom 4 (some .boolean) :: ([.methodLink RX12 198 yX12_hasRead, .instanceMethod yX12_hasRead, .selects RX12 yX12_hasRead yX12_hasRead, .initialized RX12, .methodLink RX12 184 yX12_fails, .instanceMethod yX12_fails, .selects RX12 yX12_fails yX12_fails, .fieldLink RX12 168 "SagMemoryModel" "bad" "I", .methodLink RX12 178 yX12_next, .instanceMethod yX12_next, .selects RX12 yX12_next yX12_next] ++ (wk_c_hasRead_6 ++ (wk_c_X12_fails ++ (wsX120 ++ (wk_c_X12_next ++ [])))))
theorem wkg_c_isRoom_6 : wk_c_isRoom_6.all goodWord = true := by decide +kernel
set_option maxHeartbeats 4000000 in
set_option maxRecDepth 100000 in
theorem c_isRoom_6 (l : Launch) (dC : Nat → ClassId) (dI : Nat → Nat → Nat) (k : Nat → ClassId) (sz : Nat) (qO : Nat → Nat) (widthO : Nat) (manyO : Nat) (cellsO : Nat) (movedO : Nat) (linesO : Nat) (bridgeO : Nat) (cartO : Nat) (wardO : Nat) (frostAtO : Nat) (actO : Nat) (isKeptO : Nat) (loadNowO : Nat) (byNowO : Nat) (rowO : Nat) (memoryO : Nat) (whoseO : Nat) (deepNowO : Nat) (brokenByO : Nat) (brokenAtO : Nat) (goesByO : Nat) (comesToO : Nat) (sagMoreO : Nat) (creakOfO : Nat) (wipedByO : Nat) (deepAtO : Nat) (sagAtO : Nat) (loadAtO : Nat) (orderRowO : Nat) (oftenO : Nat) (lossOneO : Nat) (lossOtherO : Nat) (vO : Nat → Int32) (tO : Nat → Int32) (mO : Nat → Int32) (gO : Nat → Int64) (qTa : Nat → Nat) (aTa : Nat → Nat → Int32) (qHa : Nat → Nat) (hHa : Nat → Nat → Int32) (p1 : Int32) (htO : Rg 0 700 tO) (hmO : Rg (-1) 127 mO) (hhHa : Pa_h hHa) (hp0 : (tO 1).toInt ≤ (tO 0).toInt) (hp1 : 0 ≤ p1.toInt ∧ p1.toInt ≤ 1) : Met l yX12_isRoom wk_c_isRoom_6 ({ frames := 2, cells := 0, slots := 0, locals := 44 }) (va_Pc [.ref (qO 0), .int p1, .int 6, .int 4] (fun U => U.heap.size = sz ∧ va_P (dC, dI) vwCl (List.flatten [(wMO qO k widthO manyO cellsO movedO (qTa 0) linesO (qHa 0) bridgeO cartO wardO frostAtO actO isKeptO loadNowO byNowO rowO memoryO whoseO deepNowO brokenByO brokenAtO goesByO comesToO sagMoreO creakOfO wipedByO deepAtO sagAtO loadAtO orderRowO oftenO lossOneO lossOtherO vO tO mO gO)] ++ List.flatten [(wmTa qTa k aTa), (wmHa qHa k hHa)]) U.heap ∧ va_K (dC, dI) vwCl (tK k) U ∧ va_D (fun _ => True) (List.flatten [(wMO qO k widthO manyO cellsO movedO (qTa 0) linesO (qHa 0) bridgeO cartO wardO frostAtO actO isKeptO loadNowO byNowO rowO memoryO whoseO deepNowO brokenByO brokenAtO goesByO comesToO sagMoreO creakOfO wipedByO deepAtO sagAtO loadAtO orderRowO oftenO lossOneO lossOtherO vO tO mO gO)] ++ List.flatten [(wmTa qTa k aTa), (wmHa qHa k hHa)]))) (va_Qi (fun (r : Int32) (u : Int32) => r = u) (fun (u : Int32) (t : State) => ∃ (vO' : Nat → Int32) (tO' : Nat → Int32) (mO' : Nat → Int32) (gO' : Nat → Int64), Rg 0 700 tO' ∧ Rg (-1) 127 mO' ∧ ((tO' 0).toInt = (tO 0).toInt) ∧ ((tO' 1).toInt ≤ (tO 0).toInt) ∧ ((tO 1).toInt ≤ (tO' 1).toInt) ∧ (u.toInt = 0 ∨ ((hHa 0) 38).toInt < 4) ∧ (u.toInt = 0 ∨ u.toInt = 1) ∧ va_P (dC, dI) vwCl (List.flatten [(wMO qO k widthO manyO cellsO movedO (qTa 0) linesO (qHa 0) bridgeO cartO wardO frostAtO actO isKeptO loadNowO byNowO rowO memoryO whoseO deepNowO brokenByO brokenAtO goesByO comesToO sagMoreO creakOfO wipedByO deepAtO sagAtO loadAtO orderRowO oftenO lossOneO lossOtherO vO' tO' mO' gO')] ++ List.flatten [(wmTa qTa k aTa), (wmHa qHa k hHa)]) t.heap) (va_A (List.flatten [(wMO qO k widthO manyO cellsO movedO (qTa 0) linesO (qHa 0) bridgeO cartO wardO frostAtO actO isKeptO loadNowO byNowO rowO memoryO whoseO deepNowO brokenByO brokenAtO goesByO comesToO sagMoreO creakOfO wipedByO deepAtO sagAtO loadAtO orderRowO oftenO lossOneO lossOtherO vO tO mO gO)] ++ List.flatten [(wmTa qTa k aTa), (wmHa qHa k hHa)]) sz)) 0 0 (va_A (List.flatten [(wMO qO k widthO manyO cellsO movedO (qTa 0) linesO (qHa 0) bridgeO cartO wardO frostAtO actO isKeptO loadNowO byNowO rowO memoryO whoseO deepNowO brokenByO brokenAtO goesByO comesToO sagMoreO creakOfO wipedByO deepAtO sagAtO loadAtO orderRowO oftenO lossOneO lossOtherO vO tO mO gO)] ++ List.flatten [(wmTa qTa k aTa), (wmHa qHa k hHa)]) sz) := by
  refine Met.ofW (cc := cX12_isRoom) (maxL := 4) (ret := (some .boolean)) (by decide) rfl ?_
  intro p e s m args below meth c s₁ B hml hv
  obtain ⟨rfl, hsz, hP, hK, hD0⟩ := hv
  have hx := B.exec
  have hb := B.bytes
  have hr := B.returns
  have hts := atoms_spec (ws := wk_c_isRoom_6) B.pre
  have hown : s.vm.findClass RX12 = some m.cls := findClass_of_methodNamed B.named
  have hlocks := B.notSynchronized
  subst hsz
  have hD := hD0.self (sz := s.heap.size)
  generalize hAe : va_A (List.flatten [(wMO qO k widthO manyO cellsO movedO (qTa 0) linesO (qHa 0) bridgeO cartO wardO frostAtO actO isKeptO loadNowO byNowO rowO memoryO whoseO deepNowO brokenByO brokenAtO goesByO comesToO sagMoreO creakOfO wipedByO deepAtO sagAtO loadAtO orderRowO oftenO lossOneO lossOtherO vO tO mO gO)] ++ List.flatten [(wmTa qTa k aTa), (wmHa qHa k hHa)]) s.heap.size = A at hD ⊢
  have hA : ∀ q : Nat, s.heap.size ≤ q → A q := fun q h => by rw [← hAe]; exact Or.inr h
  have hS : va_S A s.heap s.heap [] := va_S.rf
  have hP : va_P (dC, dI) vwCl (List.flatten [(wMO qO k widthO manyO cellsO movedO (qTa 0) linesO (qHa 0) bridgeO cartO wardO frostAtO actO isKeptO loadNowO byNowO rowO memoryO whoseO deepNowO brokenByO brokenAtO goesByO comesToO sagMoreO creakOfO wipedByO deepAtO sagAtO loadAtO orderRowO oftenO lossOneO lossOtherO vO tO mO gO)] ++ List.flatten [(wmTa qTa k aTa), (wmHa qHa k hHa)]) s.heap := hP
  have hl := lv_entry ([.ref (qO 0), .int p1, .int 6, .int 4]) (n := 4) (Nat.le_of_ble_eq_true rfl)
  rw [lg_entry_eq]
  generalize (lg_sl ([.ref (qO 0), .int p1, .int 6, .int 4]) ++ List.replicate (4 - (lg_sl ([.ref (qO 0), .int p1, .int 6, .int 4])).length) Slot.unset).toArray = ls at hl ⊢
  have hl : lv_has ls 4 [(0, .ref (qO 0)), (1, .int p1), (2, .int 6), (3, .int 4)] := hl
  refine w_gen (fun Q hQ => ?_)
  refine lv_iload_n hx hb dX12_isRoom_0 rfl (lv_at hl 1 rfl) ?_
  have ct18_kz28 : ∀ (H : Heap) (locs : List Loc) (ls : Array Slot) (gz24 : Nat → Int64) (mz25 : Nat → Int32) (tz26 : Nat → Int32) (vz27 : Nat → Int32), Rg (-1) 127 mz25 → Rg 0 700 tz26 → (tz26 0).toInt = (tO 0).toInt → (tz26 1).toInt ≤ (tz26 0).toInt → (tO 1).toInt ≤ (tz26 1).toInt → p1.toInt = 0 ∨ ((hHa 0) 38).toInt < 4 ∨ (vz27 4).toInt ≠ 0 → va_P (dC, dI) vwCl (List.flatten [(wMO qO k widthO manyO cellsO movedO (qTa 0) linesO (qHa 0) bridgeO cartO wardO frostAtO actO isKeptO loadNowO byNowO rowO memoryO whoseO deepNowO brokenByO brokenAtO goesByO comesToO sagMoreO creakOfO wipedByO deepAtO sagAtO loadAtO orderRowO oftenO lossOneO lossOtherO vz27 tz26 mz25 gz24)] ++ List.flatten [(wmTa qTa k aTa), (wmHa qHa k hHa)]) H → va_D A (List.flatten [(wMO qO k widthO manyO cellsO movedO (qTa 0) linesO (qHa 0) bridgeO cartO wardO frostAtO actO isKeptO loadNowO byNowO rowO memoryO whoseO deepNowO brokenByO brokenAtO goesByO comesToO sagMoreO creakOfO wipedByO deepAtO sagAtO loadAtO orderRowO oftenO lossOneO lossOtherO vz27 tz26 mz25 gz24)] ++ List.flatten [(wmTa qTa k aTa), (wmHa qHa k hHa)]) → va_S A s.heap H locs → lv_has ls 4 [(0, .ref (qO 0)), (1, .int p1)] → W p l e (headSpec wk_c_isRoom_6 ({ frames := 2, cells := 0, slots := 0, locals := 44 })).room s m ([.ref (qO 0), .int p1, .int 6, .int 4] : List Value).toArray below meth c H locs 0 0 Q (F0 m 18 ls []) := by
    intro H locs ls gz24 mz25 tz26 vz27 hmz25 htz26 jz29 jz30 jz31 jz32 hP hD hS hl
    refine lv_iload_n hx hb dX12_isRoom_18 rfl (lv_at hl 1 rfl) ?_
    have ct33_kz56 : ∀ (H : Heap) (locs : List Loc) (ls : Array Slot) (gz52 : Nat → Int64) (mz53 : Nat → Int32) (tz54 : Nat → Int32) (vz55 : Nat → Int32), Rg (-1) 127 mz53 → Rg 0 700 tz54 → (tz54 0).toInt = (tO 0).toInt → (tz54 1).toInt ≤ (tz54 0).toInt → (tO 1).toInt ≤ (tz54 1).toInt → p1.toInt = 0 ∨ ((hHa 0) 38).toInt < 4 ∨ (vz55 4).toInt ≠ 0 → va_P (dC, dI) vwCl (List.flatten [(wMO qO k widthO manyO cellsO movedO (qTa 0) linesO (qHa 0) bridgeO cartO wardO frostAtO actO isKeptO loadNowO byNowO rowO memoryO whoseO deepNowO brokenByO brokenAtO goesByO comesToO sagMoreO creakOfO wipedByO deepAtO sagAtO loadAtO orderRowO oftenO lossOneO lossOtherO vz55 tz54 mz53 gz52)] ++ List.flatten [(wmTa qTa k aTa), (wmHa qHa k hHa)]) H → va_D A (List.flatten [(wMO qO k widthO manyO cellsO movedO (qTa 0) linesO (qHa 0) bridgeO cartO wardO frostAtO actO isKeptO loadNowO byNowO rowO memoryO whoseO deepNowO brokenByO brokenAtO goesByO comesToO sagMoreO creakOfO wipedByO deepAtO sagAtO loadAtO orderRowO oftenO lossOneO lossOtherO vz55 tz54 mz53 gz52)] ++ List.flatten [(wmTa qTa k aTa), (wmHa qHa k hHa)]) → va_S A s.heap H locs → lv_has ls 4 [(0, .ref (qO 0)), (1, .int p1)] → W p l e (headSpec wk_c_isRoom_6 ({ frames := 2, cells := 0, slots := 0, locals := 44 })).room s m ([.ref (qO 0), .int p1, .int 6, .int 4] : List Value).toArray below meth c H locs 0 0 Q (F0 m 33 ls []) := by
      intro H locs ls gz52 mz53 tz54 vz55 hmz53 htz54 jz57 jz58 jz59 jz60 hP hD hS hl
      refine lv_iload_n hx hb dX12_isRoom_33 rfl (lv_at hl 1 rfl) ?_
      refine lv_if_eq (tgt := 48) hx hb dX12_isRoom_34 (by decide) (fun cz61 => ?_) (fun cz61 => ?_)
      · skip
        have zz62 : p1.toInt = (0 : Int) := zi_eq.mp cz61
        refine lv_iconst (v := 0) hx hb dX12_isRoom_48 (by decide) ?_
        rw [hQ]
        exact W.zret (v := (0 : Int32)) hx hb hr rfl (fun t ht hW => ⟨⟨(0 : Int32), (0 : Int32), rfl, rfl, vz55, tz54, mz53, gz52, htz54, hmz53, (by show (tz54 0).toInt = (tO 0).toInt; omega), (by show (tz54 1).toInt ≤ (tO 0).toInt; omega), (by show (tO 1).toInt ≤ (tz54 1).toInt; omega), (by show (0 : Int) = 0 ∨ ((hHa 0) 38).toInt < 4; omega), (by show (0 : Int) = 0 ∨ (0 : Int) = 1; omega), by rw [ht]; exact hP⟩, hS.F ht⟩) hS.2.2 dX12_isRoom_49
      · skip
        have zz63 : ¬ p1.toInt = (0 : Int) := fun h9 => cz61 (zi_eq.mpr h9)
        refine lv_aload_n hx hb dX12_isRoom_37 rfl (lv_at hl 0 rfl) ?_
        refine va_get (D := (dC, dI)) (ci := 12) (v := .int (vz55 4)) (C := RX12) (T := TX12) (N := 59) hx hb hts (fun w h => List.mem_cons_of_mem _ (List.mem_append_right _ (List.mem_append_right _ (List.mem_append_right _ (List.mem_append_left _ h))))) hown hK hP 0 rfl rfl 12 (by decide) (hts (.fieldLink RX12 168 "SagMemoryModel" "bad" "I") (wl_mem 7 rfl)) (fun _ h9 => h9) rfl dX12_isRoom_38 ?_
        refine lv_if_ne (tgt := 48) hx hb dX12_isRoom_41 (by decide) (fun cz64 => ?_) (fun cz64 => ?_)
        · skip
          have zz65 : ¬ (vz55 4).toInt = (0 : Int) := fun h9 => cz64 (zi_eq.mpr h9)
          refine lv_iconst (v := 0) hx hb dX12_isRoom_48 (by decide) ?_
          rw [hQ]
          exact W.zret (v := (0 : Int32)) hx hb hr rfl (fun t ht hW => ⟨⟨(0 : Int32), (0 : Int32), rfl, rfl, vz55, tz54, mz53, gz52, htz54, hmz53, (by show (tz54 0).toInt = (tO 0).toInt; omega), (by show (tz54 1).toInt ≤ (tO 0).toInt; omega), (by show (tO 1).toInt ≤ (tz54 1).toInt; omega), (by show (0 : Int) = 0 ∨ ((hHa 0) 38).toInt < 4; omega), (by show (0 : Int) = 0 ∨ (0 : Int) = 1; omega), by rw [ht]; exact hP⟩, hS.F ht⟩) hS.2.2 dX12_isRoom_49
        · skip
          have zz66 : (vz55 4).toInt = (0 : Int) := zi_eq.mp cz64
          refine lv_iconst (v := 1) hx hb dX12_isRoom_44 (by decide) ?_
          refine lv_goto (tgt := 49) hx hb dX12_isRoom_45 (by decide) ?_
          rw [hQ]
          exact W.zret (v := (1 : Int32)) hx hb hr rfl (fun t ht hW => ⟨⟨(1 : Int32), (1 : Int32), rfl, rfl, vz55, tz54, mz53, gz52, htz54, hmz53, (by show (tz54 0).toInt = (tO 0).toInt; omega), (by show (tz54 1).toInt ≤ (tO 0).toInt; omega), (by show (tO 1).toInt ≤ (tz54 1).toInt; omega), (by show (1 : Int) = 0 ∨ ((hHa 0) 38).toInt < 4; omega), (by show (1 : Int) = 0 ∨ (1 : Int) = 1; omega), by rw [ht]; exact hP⟩, hS.F ht⟩) hS.2.2 dX12_isRoom_49
    refine lv_if_eq (tgt := 33) hx hb dX12_isRoom_19 (by decide) (fun cz67 => ?_) (fun cz67 => ?_)
    · skip
      have zz68 : p1.toInt = (0 : Int) := zi_eq.mp cz67
      exact ct33_kz56 H locs ls gz24 mz25 tz26 vz27  hmz25 htz26 (by show (tz26 0).toInt = (tO 0).toInt; omega) (by show (tz26 1).toInt ≤ (tz26 0).toInt; omega) (by show (tO 1).toInt ≤ (tz26 1).toInt; omega) (by show p1.toInt = 0 ∨ ((hHa 0) 38).toInt < 4 ∨ (vz27 4).toInt ≠ 0; omega) hP hD hS (lv_sub hl [0, 1] rfl)
    · skip
      have zz69 : ¬ p1.toInt = (0 : Int) := fun h9 => cz67 (zi_eq.mpr h9)
      refine lv_aload_n hx hb dX12_isRoom_22 rfl (lv_at hl 0 rfl) ?_
      refine va_get (D := (dC, dI)) (ci := 12) (v := .int (vz27 4)) (C := RX12) (T := TX12) (N := 59) hx hb hts (fun w h => List.mem_cons_of_mem _ (List.mem_append_right _ (List.mem_append_right _ (List.mem_append_right _ (List.mem_append_left _ h))))) hown hK hP 0 rfl rfl 12 (by decide) (hts (.fieldLink RX12 168 "SagMemoryModel" "bad" "I") (wl_mem 7 rfl)) (fun _ h9 => h9) rfl dX12_isRoom_23 ?_
      refine lv_if_ne (tgt := 33) hx hb dX12_isRoom_26 (by decide) (fun cz70 => ?_) (fun cz70 => ?_)
      · skip
        have zz71 : ¬ (vz27 4).toInt = (0 : Int) := fun h9 => cz70 (zi_eq.mpr h9)
        exact ct33_kz56 H locs ls gz24 mz25 tz26 vz27  hmz25 htz26 (by show (tz26 0).toInt = (tO 0).toInt; omega) (by show (tz26 1).toInt ≤ (tz26 0).toInt; omega) (by show (tO 1).toInt ≤ (tz26 1).toInt; omega) (by show p1.toInt = 0 ∨ ((hHa 0) 38).toInt < 4 ∨ (vz27 4).toInt ≠ 0; omega) hP hD hS (lv_sub hl [0, 1] rfl)
      · skip
        have zz72 : (vz27 4).toInt = (0 : Int) := zi_eq.mp cz70
        refine lv_aload_n hx hb dX12_isRoom_29 rfl (lv_at hl 0 rfl) ?_
        have bz73 := htz26 1
        have bz74 := htz26 0
        have hPc := hP.sub (ws' := (List.flatten [(wMO qO k widthO manyO cellsO movedO (qTa 0) linesO (qHa 0) bridgeO cartO wardO frostAtO actO isKeptO loadNowO byNowO rowO memoryO whoseO deepNowO brokenByO brokenAtO goesByO comesToO sagMoreO creakOfO wipedByO deepAtO sagAtO loadAtO orderRowO oftenO lossOneO lossOtherO vz27 tz26 mz25 gz24)] ++ List.flatten [(wmTa qTa k aTa)])) [0, 1] rfl
        have hC : [0, 1].map (fun i => (List.flatten [(wMO qO k widthO manyO cellsO movedO (qTa 0) linesO (qHa 0) bridgeO cartO wardO frostAtO actO isKeptO loadNowO byNowO rowO memoryO whoseO deepNowO brokenByO brokenAtO goesByO comesToO sagMoreO creakOfO wipedByO deepAtO sagAtO loadAtO orderRowO oftenO lossOneO lossOtherO vz27 tz26 mz25 gz24)] ++ List.flatten [(wmTa qTa k aTa), (wmHa qHa k hHa)])[i]?) = (List.flatten [(wMO qO k widthO manyO cellsO movedO (qTa 0) linesO (qHa 0) bridgeO cartO wardO frostAtO actO isKeptO loadNowO byNowO rowO memoryO whoseO deepNowO brokenByO brokenAtO goesByO comesToO sagMoreO creakOfO wipedByO deepAtO sagAtO loadAtO orderRowO oftenO lossOneO lossOtherO vz27 tz26 mz25 gz24)] ++ List.flatten [(wmTa qTa k aTa)]).map some := rfl
        have hDc := hD.sub [0, 1] (by decide) hC
        have hFc := va_free hD hS hA [0, 1] hC
        refine va_callv (va_runV (As := []) (rest := []) ⟨hx, hb, hml, hown, hts⟩ (c_X12_next l dC dI k H.size qO widthO manyO cellsO movedO linesO (qHa 0) bridgeO cartO wardO frostAtO actO isKeptO loadNowO byNowO rowO memoryO whoseO deepNowO brokenByO brokenAtO goesByO comesToO sagMoreO creakOfO wipedByO deepAtO sagAtO loadAtO orderRowO oftenO lossOneO lossOtherO vz27 tz26 mz25 gz24 qTa aTa htz26 hmz25 (by show (tz26 1).toInt ≤ (tz26 0).toInt; omega)) (cwV 0 hts (gk_V (wl_mem 8 rfl) (wl_mem 9 rfl) (wl_mem 10 rfl) (wl_mem 3 rfl) (fun w h => List.mem_cons_of_mem _ (List.mem_append_right _ (List.mem_append_right _ (List.mem_append_right _ (List.mem_append_right _ (List.mem_append_left _ h)))))) wkg_c_X12_next) rfl rfl rfl (by decide +kernel) ⟨Nat.le_of_ble_eq_true rfl, Nat.le_of_ble_eq_true rfl⟩) ⟨fun a U g mk q => by obtain ⟨q0, q1, qP, qK, qD⟩ := q; exact ⟨q0, q1, qP, va_K.moved (u := U) (U := U.calling g mk a) (Vm.Alike.refl U.vm) qK, qD⟩, va_recv hK hPc (ci := 12) (q0 := 0) rfl rfl, fun U hU hW => ⟨rfl, by rw [hU], by rw [hU]; exact hPc, va_K.moved hW.alike hK, hDc.weaken (fun _ _ _ _ => trivial)⟩⟩ rfl rfl hl.1 rfl (lv_room (Nat.le_of_ble_eq_true rfl)) dX12_isRoom_30 ⟨Nat.le_of_ble_eq_true rfl, Nat.le_of_ble_eq_true rfl⟩) hS (fun q _ h => hFc q h) hFc (fun u t H1 locs ht hvm gz75 hB hz1 hk1 hS => ?_)
        obtain ⟨vz77, tz78, mz79, gz80, htz78, hmz79, pz81, pz82, pz83, pz84, pz85, hP1⟩ := hB
        rw [ht] at hP1
        obtain ⟨hP, hD⟩ := w_callR hP hD hk1 hP1 [0] rfl rfl (wk_memC [1] rfl) rfl [some 0] rfl rfl
        clear hPc hC hDc hFc hk1 hP1
        generalize H1 = H at hP hS ⊢
        have hP : va_P (dC, dI) vwCl (List.flatten [(wMO qO k widthO manyO cellsO movedO (qTa 0) linesO (qHa 0) bridgeO cartO wardO frostAtO actO isKeptO loadNowO byNowO rowO memoryO whoseO deepNowO brokenByO brokenAtO goesByO comesToO sagMoreO creakOfO wipedByO deepAtO sagAtO loadAtO orderRowO oftenO lossOneO lossOtherO vz77 tz78 mz79 gz80)] ++ List.flatten [(wmTa qTa k aTa), (wmHa qHa k hHa)]) H := hP
        have hD : va_D A (List.flatten [(wMO qO k widthO manyO cellsO movedO (qTa 0) linesO (qHa 0) bridgeO cartO wardO frostAtO actO isKeptO loadNowO byNowO rowO memoryO whoseO deepNowO brokenByO brokenAtO goesByO comesToO sagMoreO creakOfO wipedByO deepAtO sagAtO loadAtO orderRowO oftenO lossOneO lossOtherO vz77 tz78 mz79 gz80)] ++ List.flatten [(wmTa qTa k aTa), (wmHa qHa k hHa)]) := hD
        refine W.widen (k := 0) (n := 0) (Nat.le_refl 0) (Nat.le_refl 0) ?_
        have pz81 : (tz78 0).toInt = (tz26 0).toInt := pz81
        have pz82 : (tz78 1).toInt ≤ (tz26 0).toInt := pz82
        have pz83 : (tz26 1).toInt ≤ (tz78 1).toInt := pz83
        have pz84 : (vz77 1).toInt = 0 ∨ (tz26 1).toInt < (tz78 1).toInt := pz84
        have pz85 : (vz77 4).toInt = (vz27 4).toInt := pz85
        exact ct33_kz56 H locs ls gz80 mz79 tz78 vz77  hmz79 htz78 (by show (tz78 0).toInt = (tO 0).toInt; omega) (by show (tz78 1).toInt ≤ (tz78 0).toInt; omega) (by show (tO 1).toInt ≤ (tz78 1).toInt; omega) (by show p1.toInt = 0 ∨ ((hHa 0) 38).toInt < 4 ∨ (vz77 4).toInt ≠ 0; omega) hP hD hS (lv_sub hl [0, 1] rfl)
  refine lv_if_eq (tgt := 18) hx hb dX12_isRoom_1 (by decide) (fun cz86 => ?_) (fun cz86 => ?_)
  · skip
    have zz87 : p1.toInt = (0 : Int) := zi_eq.mp cz86
    exact ct18_kz28 s.heap [] ls gO mO tO vO  hmO htO (by show (tO 0).toInt = (tO 0).toInt; omega) (by show (tO 1).toInt ≤ (tO 0).toInt; omega) (by show (tO 1).toInt ≤ (tO 1).toInt; omega) (by show p1.toInt = 0 ∨ ((hHa 0) 38).toInt < 4 ∨ (vO 4).toInt ≠ 0; omega) hP hD hS (lv_sub hl [0, 1] rfl)
  · skip
    have zz88 : ¬ p1.toInt = (0 : Int) := fun h9 => cz86 (zi_eq.mpr h9)
    refine lv_aload_n hx hb dX12_isRoom_4 rfl (lv_at hl 0 rfl) ?_
    refine lv_iload_n hx hb dX12_isRoom_5 rfl (lv_at hl 2 rfl) ?_
    have hPc := hP.sub (ws' := (List.flatten [(wMO qO k widthO manyO cellsO movedO (qTa 0) linesO (qHa 0) bridgeO cartO wardO frostAtO actO isKeptO loadNowO byNowO rowO memoryO whoseO deepNowO brokenByO brokenAtO goesByO comesToO sagMoreO creakOfO wipedByO deepAtO sagAtO loadAtO orderRowO oftenO lossOneO lossOtherO vO tO mO gO), (wmHa qHa k hHa)])) [0, 2] rfl
    refine vp_callSi (va_Run.run (va_runV (As := [.int 6]) (rest := []) ⟨hx, hb, hml, hown, hts⟩ (c_hasRead_6 l dC dI k qO widthO manyO cellsO movedO (qTa 0) linesO bridgeO cartO wardO frostAtO actO isKeptO loadNowO byNowO rowO memoryO whoseO deepNowO brokenByO brokenAtO goesByO comesToO sagMoreO creakOfO wipedByO deepAtO sagAtO loadAtO orderRowO oftenO lossOneO lossOtherO vO tO mO gO qHa hHa htO hmO hhHa) (cwV 1 hts (gk_V (wl_mem 0 rfl) (wl_mem 1 rfl) (wl_mem 2 rfl) (wl_mem 3 rfl) (fun w h => List.mem_cons_of_mem _ (List.mem_append_right _ (List.mem_append_left _ h))) wkg_c_hasRead_6) rfl rfl rfl (by decide +kernel) ⟨Nat.le_of_ble_eq_true rfl, Nat.le_of_ble_eq_true rfl⟩) ⟨fun a U g mk q => by obtain ⟨q0, qP, qK⟩ := q; exact ⟨q0, qP, va_K.moved (u := U) (U := U.calling g mk a) (Vm.Alike.refl U.vm) qK⟩, va_recv hK hPc (ci := 12) (q0 := 0) rfl rfl, fun U hU hW => ⟨rfl, by rw [hU]; exact hPc, va_K.moved hW.alike hK⟩⟩ rfl rfl hl.1 rfl (lv_room (Nat.le_of_ble_eq_true rfl)) dX12_isRoom_6 ⟨Nat.le_of_ble_eq_true rfl, Nat.le_of_ble_eq_true rfl⟩)) (fun rz90 gz89 => ?_)
    clear hPc
    obtain ⟨pz91, pz92⟩ := gz89
    have pz91 : 0 ≤ rz90.toInt ∧ rz90.toInt ≤ 4 := pz91
    have pz92 : rz90.toInt = ((hHa 0) 38).toInt := pz92
    refine lv_iload_n hx hb dX12_isRoom_9 rfl (lv_at hl 3 rfl) ?_
    refine lv_icmp_ne (tgt := 18) hx hb dX12_isRoom_10 (by decide) (fun cz93 => ?_) (fun cz93 => ?_)
    · skip
      have zz94 : ¬ rz90.toInt = (4 : Int) := fun h9 => cz93 (zi_eq.mpr h9)
      exact ct18_kz28 s.heap [] ls gO mO tO vO  hmO htO (by show (tO 0).toInt = (tO 0).toInt; omega) (by show (tO 1).toInt ≤ (tO 0).toInt; omega) (by show (tO 1).toInt ≤ (tO 1).toInt; omega) (by show p1.toInt = 0 ∨ ((hHa 0) 38).toInt < 4 ∨ (vO 4).toInt ≠ 0; omega) hP hD hS (lv_sub hl [0, 1] rfl)
    · skip
      have zz95 : rz90.toInt = (4 : Int) := zi_eq.mp cz93
      refine lv_aload_n hx hb dX12_isRoom_13 rfl (lv_at hl 0 rfl) ?_
      refine lv_iconst (v := 3) hx hb dX12_isRoom_14 (by decide) ?_
      have hPc := hP.sub (ws' := (List.flatten [(wMO qO k widthO manyO cellsO movedO (qTa 0) linesO (qHa 0) bridgeO cartO wardO frostAtO actO isKeptO loadNowO byNowO rowO memoryO whoseO deepNowO brokenByO brokenAtO goesByO comesToO sagMoreO creakOfO wipedByO deepAtO sagAtO loadAtO orderRowO oftenO lossOneO lossOtherO vO tO mO gO)] ++ List.flatten ([] : List va_W))) [0] rfl
      have hC : [0].map (fun i => (List.flatten [(wMO qO k widthO manyO cellsO movedO (qTa 0) linesO (qHa 0) bridgeO cartO wardO frostAtO actO isKeptO loadNowO byNowO rowO memoryO whoseO deepNowO brokenByO brokenAtO goesByO comesToO sagMoreO creakOfO wipedByO deepAtO sagAtO loadAtO orderRowO oftenO lossOneO lossOtherO vO tO mO gO)] ++ List.flatten [(wmTa qTa k aTa), (wmHa qHa k hHa)])[i]?) = (List.flatten [(wMO qO k widthO manyO cellsO movedO (qTa 0) linesO (qHa 0) bridgeO cartO wardO frostAtO actO isKeptO loadNowO byNowO rowO memoryO whoseO deepNowO brokenByO brokenAtO goesByO comesToO sagMoreO creakOfO wipedByO deepAtO sagAtO loadAtO orderRowO oftenO lossOneO lossOtherO vO tO mO gO)] ++ List.flatten ([] : List va_W)).map some := rfl
      have hDc := hD.sub [0] (by decide) hC
      have hFc := va_free hD hS hA [0] hC
      refine va_callv (va_runV (As := [.int 3]) (rest := []) ⟨hx, hb, hml, hown, hts⟩ (c_X12_fails l dC dI k s.heap.size qO widthO manyO cellsO movedO (qTa 0) linesO (qHa 0) bridgeO cartO wardO frostAtO actO isKeptO loadNowO byNowO rowO memoryO whoseO deepNowO brokenByO brokenAtO goesByO comesToO sagMoreO creakOfO wipedByO deepAtO sagAtO loadAtO orderRowO oftenO lossOneO lossOtherO vO tO mO gO (3 : Int32) htO hmO) (cwV 1 hts (gk_V (wl_mem 4 rfl) (wl_mem 5 rfl) (wl_mem 6 rfl) (wl_mem 3 rfl) (fun w h => List.mem_cons_of_mem _ (List.mem_append_right _ (List.mem_append_right _ (List.mem_append_left _ h)))) wkg_c_X12_fails) rfl rfl rfl (by decide +kernel) ⟨Nat.le_of_ble_eq_true rfl, Nat.le_of_ble_eq_true rfl⟩) ⟨fun a U g mk q => by obtain ⟨q0, q1, qP, qK, qD⟩ := q; exact ⟨q0, q1, qP, va_K.moved (u := U) (U := U.calling g mk a) (Vm.Alike.refl U.vm) qK, qD⟩, va_recv hK hPc (ci := 12) (q0 := 0) rfl rfl, fun U hU hW => ⟨rfl, by rw [hU], by rw [hU]; exact hPc, va_K.moved hW.alike hK, hDc.weaken (fun _ _ _ _ => trivial)⟩⟩ rfl rfl hl.1 rfl (lv_room (Nat.le_of_ble_eq_true rfl)) dX12_isRoom_15 ⟨Nat.le_of_ble_eq_true rfl, Nat.le_of_ble_eq_true rfl⟩) hS (fun q _ h => hFc q h) hFc (fun u t H1 locs ht hvm gz96 hB hz1 hk1 hS => ?_)
      obtain ⟨vz98, tz99, mz100, gz101, htz99, hmz100, pz102, pz103, pz104, pz105, pz106, hP1⟩ := hB
      rw [ht] at hP1
      obtain ⟨hP, hD⟩ := w_callR hP hD hk1 hP1 [0] rfl rfl (fun _ h => absurd h List.not_mem_nil) rfl [some 0] rfl rfl
      clear hPc hC hDc hFc hk1 hP1
      generalize H1 = H at hP hS ⊢
      have hP : va_P (dC, dI) vwCl (List.flatten [(wMO qO k widthO manyO cellsO movedO (qTa 0) linesO (qHa 0) bridgeO cartO wardO frostAtO actO isKeptO loadNowO byNowO rowO memoryO whoseO deepNowO brokenByO brokenAtO goesByO comesToO sagMoreO creakOfO wipedByO deepAtO sagAtO loadAtO orderRowO oftenO lossOneO lossOtherO vz98 tz99 mz100 gz101)] ++ List.flatten [(wmTa qTa k aTa), (wmHa qHa k hHa)]) H := hP
      have hD : va_D A (List.flatten [(wMO qO k widthO manyO cellsO movedO (qTa 0) linesO (qHa 0) bridgeO cartO wardO frostAtO actO isKeptO loadNowO byNowO rowO memoryO whoseO deepNowO brokenByO brokenAtO goesByO comesToO sagMoreO creakOfO wipedByO deepAtO sagAtO loadAtO orderRowO oftenO lossOneO lossOtherO vz98 tz99 mz100 gz101)] ++ List.flatten [(wmTa qTa k aTa), (wmHa qHa k hHa)]) := hD
      refine W.widen (k := 0) (n := 0) (Nat.le_refl 0) (Nat.le_refl 0) ?_
      have pz102 : ((vO 4).toInt ≠ 0 ∧ (vz98 4).toInt = (vO 4).toInt) ∨ ((vO 4).toInt = 0 ∧ (vz98 4).toInt = (3 : Int)) := pz102
      have pz103 : (tz99 0).toInt = (tO 0).toInt := pz103
      have pz104 : (tz99 1).toInt = (tO 1).toInt := pz104
      have pz105 : (vz98 1).toInt = (vO 1).toInt := pz105
      have pz106 : (vz98 3).toInt = (vO 3).toInt := pz106
      have bz107 := htO 0
      have bz108 := htO 1
      exact ct18_kz28 H locs ls gz101 mz100 tz99 vz98  hmz100 htz99 (by show (tz99 0).toInt = (tO 0).toInt; omega) (by show (tz99 1).toInt ≤ (tz99 0).toInt; omega) (by show (tO 1).toInt ≤ (tz99 1).toInt; omega) (by show p1.toInt = 0 ∨ ((hHa 0) 38).toInt < 4 ∨ (vz98 4).toInt ≠ 0; omega) hP hD hS (lv_sub hl [0, 1] rfl)
def wk_c_X12_bridgeHere : List Cond := .code yX12_bridgeHere cX12_bridgeHere 1 (some .int) :: ([.methodLink RX12 198 yX12_hasRead, .instanceMethod yX12_hasRead, .selects RX12 yX12_hasRead yX12_hasRead, .initialized RX12, .methodLink RX12 191 yX12_number, .instanceMethod yX12_number, .selects RX12 yX12_number yX12_number] ++ (wk_c_hasRead_3 ++ (wk_c_X12_number ++ [])))
theorem wkg_c_X12_bridgeHere : wk_c_X12_bridgeHere.all goodWord = true := by decide +kernel
set_option maxHeartbeats 4000000 in
set_option maxRecDepth 100000 in
theorem c_X12_bridgeHere (l : Launch) (dC : Nat → ClassId) (dI : Nat → Nat → Nat) (k : Nat → ClassId) (sz : Nat) (qO : Nat → Nat) (widthO : Nat) (manyO : Nat) (cellsO : Nat) (movedO : Nat) (linesO : Nat) (bridgeO : Nat) (cartO : Nat) (wardO : Nat) (frostAtO : Nat) (actO : Nat) (isKeptO : Nat) (loadNowO : Nat) (byNowO : Nat) (rowO : Nat) (memoryO : Nat) (whoseO : Nat) (deepNowO : Nat) (brokenByO : Nat) (brokenAtO : Nat) (goesByO : Nat) (comesToO : Nat) (sagMoreO : Nat) (creakOfO : Nat) (wipedByO : Nat) (deepAtO : Nat) (sagAtO : Nat) (loadAtO : Nat) (orderRowO : Nat) (oftenO : Nat) (lossOneO : Nat) (lossOtherO : Nat) (vO : Nat → Int32) (tO : Nat → Int32) (mO : Nat → Int32) (gO : Nat → Int64) (qTa : Nat → Nat) (aTa : Nat → Nat → Int32) (qHa : Nat → Nat) (hHa : Nat → Nat → Int32) (htO : Rg 0 700 tO) (hmO : Rg (-1) 127 mO) (hhHa : Pa_h hHa) (hp0 : (tO 1).toInt ≤ (tO 0).toInt) : Met l yX12_bridgeHere wk_c_X12_bridgeHere ({ frames := 3, cells := 0, slots := 0, locals := 67 }) (va_Pc [.ref (qO 0)] (fun U => U.heap.size = sz ∧ va_P (dC, dI) vwCl (List.flatten [(wMO qO k widthO manyO cellsO movedO (qTa 0) linesO (qHa 0) bridgeO cartO wardO frostAtO actO isKeptO loadNowO byNowO rowO memoryO whoseO deepNowO brokenByO brokenAtO goesByO comesToO sagMoreO creakOfO wipedByO deepAtO sagAtO loadAtO orderRowO oftenO lossOneO lossOtherO vO tO mO gO)] ++ List.flatten [(wmTa qTa k aTa), (wmHa qHa k hHa)]) U.heap ∧ va_K (dC, dI) vwCl (tK k) U ∧ va_D (fun _ => True) (List.flatten [(wMO qO k widthO manyO cellsO movedO (qTa 0) linesO (qHa 0) bridgeO cartO wardO frostAtO actO isKeptO loadNowO byNowO rowO memoryO whoseO deepNowO brokenByO brokenAtO goesByO comesToO sagMoreO creakOfO wipedByO deepAtO sagAtO loadAtO orderRowO oftenO lossOneO lossOtherO vO tO mO gO)] ++ List.flatten [(wmTa qTa k aTa), (wmHa qHa k hHa)]))) (va_Qi (fun (r : Int32) (_ : Unit) => (0 ≤ r.toInt ∧ r.toInt ≤ 2)) (fun (_ : Unit) (t : State) => ∃ (vO' : Nat → Int32) (tO' : Nat → Int32) (mO' : Nat → Int32) (gO' : Nat → Int64), Rg 0 700 tO' ∧ Rg (-1) 127 mO' ∧ ((tO' 0).toInt = (tO 0).toInt) ∧ ((tO' 1).toInt ≤ (tO 0).toInt) ∧ ((tO 1).toInt ≤ (tO' 1).toInt) ∧ va_P (dC, dI) vwCl (List.flatten [(wMO qO k widthO manyO cellsO movedO (qTa 0) linesO (qHa 0) bridgeO cartO wardO frostAtO actO isKeptO loadNowO byNowO rowO memoryO whoseO deepNowO brokenByO brokenAtO goesByO comesToO sagMoreO creakOfO wipedByO deepAtO sagAtO loadAtO orderRowO oftenO lossOneO lossOtherO vO' tO' mO' gO')] ++ List.flatten [(wmTa qTa k aTa), (wmHa qHa k hHa)]) t.heap) (va_A (List.flatten [(wMO qO k widthO manyO cellsO movedO (qTa 0) linesO (qHa 0) bridgeO cartO wardO frostAtO actO isKeptO loadNowO byNowO rowO memoryO whoseO deepNowO brokenByO brokenAtO goesByO comesToO sagMoreO creakOfO wipedByO deepAtO sagAtO loadAtO orderRowO oftenO lossOneO lossOtherO vO tO mO gO)] ++ List.flatten [(wmTa qTa k aTa), (wmHa qHa k hHa)]) sz)) 0 0 (va_A (List.flatten [(wMO qO k widthO manyO cellsO movedO (qTa 0) linesO (qHa 0) bridgeO cartO wardO frostAtO actO isKeptO loadNowO byNowO rowO memoryO whoseO deepNowO brokenByO brokenAtO goesByO comesToO sagMoreO creakOfO wipedByO deepAtO sagAtO loadAtO orderRowO oftenO lossOneO lossOtherO vO tO mO gO)] ++ List.flatten [(wmTa qTa k aTa), (wmHa qHa k hHa)]) sz) := by
  refine Met.ofW (cc := cX12_bridgeHere) (maxL := 1) (ret := (some .int)) (by decide) rfl ?_
  intro p e s m args below meth c s₁ B hml hv
  obtain ⟨rfl, hsz, hP, hK, hD0⟩ := hv
  have hx := B.exec
  have hb := B.bytes
  have hr := B.returns
  have hts := atoms_spec (ws := wk_c_X12_bridgeHere) B.pre
  have hown : s.vm.findClass RX12 = some m.cls := findClass_of_methodNamed B.named
  have hlocks := B.notSynchronized
  subst hsz
  have hD := hD0.self (sz := s.heap.size)
  generalize hAe : va_A (List.flatten [(wMO qO k widthO manyO cellsO movedO (qTa 0) linesO (qHa 0) bridgeO cartO wardO frostAtO actO isKeptO loadNowO byNowO rowO memoryO whoseO deepNowO brokenByO brokenAtO goesByO comesToO sagMoreO creakOfO wipedByO deepAtO sagAtO loadAtO orderRowO oftenO lossOneO lossOtherO vO tO mO gO)] ++ List.flatten [(wmTa qTa k aTa), (wmHa qHa k hHa)]) s.heap.size = A at hD ⊢
  have hA : ∀ q : Nat, s.heap.size ≤ q → A q := fun q h => by rw [← hAe]; exact Or.inr h
  have hS : va_S A s.heap s.heap [] := va_S.rf
  have hP : va_P (dC, dI) vwCl (List.flatten [(wMO qO k widthO manyO cellsO movedO (qTa 0) linesO (qHa 0) bridgeO cartO wardO frostAtO actO isKeptO loadNowO byNowO rowO memoryO whoseO deepNowO brokenByO brokenAtO goesByO comesToO sagMoreO creakOfO wipedByO deepAtO sagAtO loadAtO orderRowO oftenO lossOneO lossOtherO vO tO mO gO)] ++ List.flatten [(wmTa qTa k aTa), (wmHa qHa k hHa)]) s.heap := hP
  have hl := lv_entry ([.ref (qO 0)]) (n := 1) (Nat.le_of_ble_eq_true rfl)
  rw [lg_entry_eq]
  generalize (lg_sl ([.ref (qO 0)]) ++ List.replicate (1 - (lg_sl ([.ref (qO 0)])).length) Slot.unset).toArray = ls at hl ⊢
  have hl : lv_has ls 1 [(0, .ref (qO 0))] := hl
  refine w_gen (fun Q hQ => ?_)
  refine lv_aload_n hx hb dX12_bridgeHere_0 rfl (lv_at hl 0 rfl) ?_
  refine lv_iconst (v := 0) hx hb dX12_bridgeHere_1 (by decide) ?_
  refine lv_aload_n hx hb dX12_bridgeHere_2 rfl (lv_at hl 0 rfl) ?_
  refine lv_iconst (v := 3) hx hb dX12_bridgeHere_3 (by decide) ?_
  have hPc := hP.sub (ws' := (List.flatten [(wMO qO k widthO manyO cellsO movedO (qTa 0) linesO (qHa 0) bridgeO cartO wardO frostAtO actO isKeptO loadNowO byNowO rowO memoryO whoseO deepNowO brokenByO brokenAtO goesByO comesToO sagMoreO creakOfO wipedByO deepAtO sagAtO loadAtO orderRowO oftenO lossOneO lossOtherO vO tO mO gO), (wmHa qHa k hHa)])) [0, 2] rfl
  refine vp_callSi (va_Run.run (va_runV (As := [.int 3]) (rest := [.int 0, .ref (qO 0)]) ⟨hx, hb, hml, hown, hts⟩ (c_hasRead_3 l dC dI k qO widthO manyO cellsO movedO (qTa 0) linesO bridgeO cartO wardO frostAtO actO isKeptO loadNowO byNowO rowO memoryO whoseO deepNowO brokenByO brokenAtO goesByO comesToO sagMoreO creakOfO wipedByO deepAtO sagAtO loadAtO orderRowO oftenO lossOneO lossOtherO vO tO mO gO qHa hHa htO hmO hhHa) (cwV 1 hts (gk_V (wl_mem 0 rfl) (wl_mem 1 rfl) (wl_mem 2 rfl) (wl_mem 3 rfl) (fun w h => List.mem_cons_of_mem _ (List.mem_append_right _ (List.mem_append_left _ h))) wkg_c_hasRead_3) rfl rfl rfl (by decide +kernel) ⟨Nat.le_of_ble_eq_true rfl, Nat.le_of_ble_eq_true rfl⟩) ⟨fun a U g mk q => by obtain ⟨q0, qP, qK⟩ := q; exact ⟨q0, qP, va_K.moved (u := U) (U := U.calling g mk a) (Vm.Alike.refl U.vm) qK⟩, va_recv hK hPc (ci := 12) (q0 := 0) rfl rfl, fun U hU hW => ⟨rfl, by rw [hU]; exact hPc, va_K.moved hW.alike hK⟩⟩ rfl rfl hl.1 rfl (lv_room (Nat.le_of_ble_eq_true rfl)) dX12_bridgeHere_4 ⟨Nat.le_of_ble_eq_true rfl, Nat.le_of_ble_eq_true rfl⟩)) (fun rz2 gz1 => ?_)
  clear hPc
  obtain ⟨pz3, pz4⟩ := gz1
  have pz3 : 0 ≤ rz2.toInt ∧ rz2.toInt ≤ 3 := pz3
  have pz4 : rz2.toInt = ((hHa 0) 35).toInt := pz4
  refine lv_iconst (v := 1) hx hb dX12_bridgeHere_7 (by decide) ?_
  refine lv_isub hx hb dX12_bridgeHere_8 ?_
  refine lv_topi (fun xz5 exz5 => ?_)
  have fxz5 : xz5.toInt = rz2.toInt - (1 : Int) := by rw [exz5]; exact fb_subI (x := rz2) (y := (1 : Int32)) (by show -2147483648 ≤ rz2.toInt - (1 : Int); omega) (by show rz2.toInt - (1 : Int) < 2147483648; omega)
  have bz6 := htO 1
  have bz7 := htO 0
  have hPc := hP.sub (ws' := (List.flatten [(wMO qO k widthO manyO cellsO movedO (qTa 0) linesO (qHa 0) bridgeO cartO wardO frostAtO actO isKeptO loadNowO byNowO rowO memoryO whoseO deepNowO brokenByO brokenAtO goesByO comesToO sagMoreO creakOfO wipedByO deepAtO sagAtO loadAtO orderRowO oftenO lossOneO lossOtherO vO tO mO gO)] ++ List.flatten [(wmTa qTa k aTa)])) [0, 1] rfl
  have hC : [0, 1].map (fun i => (List.flatten [(wMO qO k widthO manyO cellsO movedO (qTa 0) linesO (qHa 0) bridgeO cartO wardO frostAtO actO isKeptO loadNowO byNowO rowO memoryO whoseO deepNowO brokenByO brokenAtO goesByO comesToO sagMoreO creakOfO wipedByO deepAtO sagAtO loadAtO orderRowO oftenO lossOneO lossOtherO vO tO mO gO)] ++ List.flatten [(wmTa qTa k aTa), (wmHa qHa k hHa)])[i]?) = (List.flatten [(wMO qO k widthO manyO cellsO movedO (qTa 0) linesO (qHa 0) bridgeO cartO wardO frostAtO actO isKeptO loadNowO byNowO rowO memoryO whoseO deepNowO brokenByO brokenAtO goesByO comesToO sagMoreO creakOfO wipedByO deepAtO sagAtO loadAtO orderRowO oftenO lossOneO lossOtherO vO tO mO gO)] ++ List.flatten [(wmTa qTa k aTa)]).map some := rfl
  have hDc := hD.sub [0, 1] (by decide) hC
  have hFc := va_free hD hS hA [0, 1] hC
  refine va_calli (va_runV (As := [.int 0, .int xz5]) (rest := []) ⟨hx, hb, hml, hown, hts⟩ (c_X12_number l dC dI k s.heap.size qO widthO manyO cellsO movedO linesO (qHa 0) bridgeO cartO wardO frostAtO actO isKeptO loadNowO byNowO rowO memoryO whoseO deepNowO brokenByO brokenAtO goesByO comesToO sagMoreO creakOfO wipedByO deepAtO sagAtO loadAtO orderRowO oftenO lossOneO lossOtherO vO tO mO gO qTa aTa (0 : Int32) xz5 htO hmO (by show (tO 1).toInt ≤ (tO 0).toInt; omega)) (cwV 2 hts (gk_V (wl_mem 4 rfl) (wl_mem 5 rfl) (wl_mem 6 rfl) (wl_mem 3 rfl) (fun w h => List.mem_cons_of_mem _ (List.mem_append_right _ (List.mem_append_right _ (List.mem_append_left _ h)))) wkg_c_X12_number) rfl rfl rfl (by decide +kernel) ⟨Nat.le_of_ble_eq_true rfl, Nat.le_of_ble_eq_true rfl⟩) ⟨fun a U g mk q => by obtain ⟨q0, q1, qP, qK, qD⟩ := q; exact ⟨q0, q1, qP, va_K.moved (u := U) (U := U.calling g mk a) (Vm.Alike.refl U.vm) qK, qD⟩, va_recv hK hPc (ci := 12) (q0 := 0) rfl rfl, fun U hU hW => ⟨rfl, by rw [hU], by rw [hU]; exact hPc, va_K.moved hW.alike hK, hDc.weaken (fun _ _ _ _ => trivial)⟩⟩ rfl rfl hl.1 rfl (lv_room (Nat.le_of_ble_eq_true rfl)) dX12_bridgeHere_9 ⟨Nat.le_of_ble_eq_true rfl, Nat.le_of_ble_eq_true rfl⟩) hS (fun q _ h => hFc q h) hFc (fun rz9 u t H1 locs ht hvm gz8 hB hz1 hk1 hS => ?_)
  obtain ⟨vz10, tz11, mz12, gz13, htz11, hmz12, pz14, pz15, pz16, hP1⟩ := hB
  rw [ht] at hP1
  obtain ⟨hP, hD⟩ := w_callR hP hD hk1 hP1 [0] rfl rfl (wk_memC [1] rfl) rfl [some 0] rfl rfl
  clear hPc hC hDc hFc hk1 hP1
  generalize H1 = H at hP hS ⊢
  have hP : va_P (dC, dI) vwCl (List.flatten [(wMO qO k widthO manyO cellsO movedO (qTa 0) linesO (qHa 0) bridgeO cartO wardO frostAtO actO isKeptO loadNowO byNowO rowO memoryO whoseO deepNowO brokenByO brokenAtO goesByO comesToO sagMoreO creakOfO wipedByO deepAtO sagAtO loadAtO orderRowO oftenO lossOneO lossOtherO vz10 tz11 mz12 gz13)] ++ List.flatten [(wmTa qTa k aTa), (wmHa qHa k hHa)]) H := hP
  have hD : va_D A (List.flatten [(wMO qO k widthO manyO cellsO movedO (qTa 0) linesO (qHa 0) bridgeO cartO wardO frostAtO actO isKeptO loadNowO byNowO rowO memoryO whoseO deepNowO brokenByO brokenAtO goesByO comesToO sagMoreO creakOfO wipedByO deepAtO sagAtO loadAtO orderRowO oftenO lossOneO lossOtherO vz10 tz11 mz12 gz13)] ++ List.flatten [(wmTa qTa k aTa), (wmHa qHa k hHa)]) := hD
  refine W.widen (k := 0) (n := 0) (Nat.le_refl 0) (Nat.le_refl 0) ?_
  have pz14 : (tz11 0).toInt = (tO 0).toInt := pz14
  have pz15 : (tz11 1).toInt ≤ (tO 0).toInt := pz15
  have pz16 : (tO 1).toInt ≤ (tz11 1).toInt := pz16
  have pz17 := gz8
  have pz17 : rz9.toInt = (0 : Int) ∨ ((0 : Int) ≤ rz9.toInt ∧ rz9.toInt ≤ xz5.toInt) := pz17
  rw [hQ]
  exact W.iret (v := rz9) hx hb hr (fun t ht hW => ⟨⟨rz9, (), rfl, (by show 0 ≤ rz9.toInt ∧ rz9.toInt ≤ 2; omega), vz10, tz11, mz12, gz13, htz11, hmz12, (by show (tz11 0).toInt = (tO 0).toInt; omega), (by show (tz11 1).toInt ≤ (tO 0).toInt; omega), (by show (tO 1).toInt ≤ (tz11 1).toInt; omega), by rw [ht]; exact hP⟩, hS.F ht⟩) hS.2.2 dX12_bridgeHere_12
def wk_c_X12_bridgeLine : List Cond := .code yX12_bridgeLine cX12_bridgeLine 2 none :: ([.methodLink RX12 198 yX12_hasRead, .instanceMethod yX12_hasRead, .selects RX12 yX12_hasRead yX12_hasRead, .initialized RX12, .fieldLink RX12 37 "SagMemoryModel" "bridge" "[I", .constantLong RX12 202 (4555648), .methodLink RX12 204 yX12_number_, .instanceMethod yX12_number_, .selects RX12 yX12_number_ yX12_number_, .constantLong RX12 207 (404931), .methodLink RX12 209 yX12_tells, .instanceMethod yX12_tells, .selects RX12 yX12_tells yX12_tells] ++ (wk_c_hasRead_3 ++ (wsX120 ++ (wk_c_X12_number_ ++ (wk_c_tells_3 ++ [])))))
theorem wkg_c_X12_bridgeLine : wk_c_X12_bridgeLine.all goodWord = true := by decide +kernel
set_option maxHeartbeats 4000000 in
set_option maxRecDepth 100000 in
theorem c_X12_bridgeLine (l : Launch) (dC : Nat → ClassId) (dI : Nat → Nat → Nat) (k : Nat → ClassId) (sz : Nat) (qO : Nat → Nat) (widthO : Nat) (manyO : Nat) (cellsO : Nat) (movedO : Nat) (linesO : Nat) (cartO : Nat) (wardO : Nat) (frostAtO : Nat) (actO : Nat) (isKeptO : Nat) (loadNowO : Nat) (byNowO : Nat) (rowO : Nat) (memoryO : Nat) (whoseO : Nat) (deepNowO : Nat) (brokenByO : Nat) (brokenAtO : Nat) (goesByO : Nat) (comesToO : Nat) (sagMoreO : Nat) (creakOfO : Nat) (wipedByO : Nat) (deepAtO : Nat) (sagAtO : Nat) (loadAtO : Nat) (orderRowO : Nat) (oftenO : Nat) (lossOneO : Nat) (lossOtherO : Nat) (vO : Nat → Int32) (tO : Nat → Int32) (mO : Nat → Int32) (gO : Nat → Int64) (qTa : Nat → Nat) (aTa : Nat → Nat → Int32) (qHa : Nat → Nat) (hHa : Nat → Nat → Int32) (qBr : Nat → Nat) (aBr : Nat → Nat → Int32) (htO : Rg 0 700 tO) (hmO : Rg (-1) 127 mO) (hhHa : Pa_h hHa) (hp0 : (tO 1).toInt ≤ (tO 0).toInt) (hp1 : ((hHa 0) 35).toInt ≤ 2) : Met l yX12_bridgeLine wk_c_X12_bridgeLine ({ frames := 5, cells := 0, slots := 0, locals := 112 }) (va_Pc [.ref (qO 0)] (fun U => U.heap.size = sz ∧ va_P (dC, dI) vwCl (List.flatten [(wMO qO k widthO manyO cellsO movedO (qTa 0) linesO (qHa 0) (qBr 0) cartO wardO frostAtO actO isKeptO loadNowO byNowO rowO memoryO whoseO deepNowO brokenByO brokenAtO goesByO comesToO sagMoreO creakOfO wipedByO deepAtO sagAtO loadAtO orderRowO oftenO lossOneO lossOtherO vO tO mO gO), (wmHa qHa k hHa), (wmBr qBr k aBr)] ++ List.flatten [(wmTa qTa k aTa)]) U.heap ∧ va_K (dC, dI) vwCl (tK k) U ∧ va_D (fun _ => True) (List.flatten [(wMO qO k widthO manyO cellsO movedO (qTa 0) linesO (qHa 0) (qBr 0) cartO wardO frostAtO actO isKeptO loadNowO byNowO rowO memoryO whoseO deepNowO brokenByO brokenAtO goesByO comesToO sagMoreO creakOfO wipedByO deepAtO sagAtO loadAtO orderRowO oftenO lossOneO lossOtherO vO tO mO gO), (wmHa qHa k hHa), (wmBr qBr k aBr)] ++ List.flatten [(wmTa qTa k aTa)]))) (va_Qv (fun _ : Unit => True) (fun (_ : Unit) (t : State) => ∃ (vO' : Nat → Int32) (tO' : Nat → Int32) (mO' : Nat → Int32) (gO' : Nat → Int64) (hHa' : Nat → Nat → Int32) (aBr' : Nat → Nat → Int32), Rg 0 700 tO' ∧ Rg (-1) 127 mO' ∧ Pa_h hHa' ∧ ((tO' 0).toInt = (tO 0).toInt) ∧ ((tO' 1).toInt ≤ (tO 0).toInt) ∧ ((tO 1).toInt ≤ (tO' 1).toInt) ∧ va_P (dC, dI) vwCl (List.flatten [(wMO qO k widthO manyO cellsO movedO (qTa 0) linesO (qHa 0) (qBr 0) cartO wardO frostAtO actO isKeptO loadNowO byNowO rowO memoryO whoseO deepNowO brokenByO brokenAtO goesByO comesToO sagMoreO creakOfO wipedByO deepAtO sagAtO loadAtO orderRowO oftenO lossOneO lossOtherO vO' tO' mO' gO'), (wmHa qHa k hHa'), (wmBr qBr k aBr')] ++ List.flatten [(wmTa qTa k aTa)]) t.heap) (va_A (List.flatten [(wMO qO k widthO manyO cellsO movedO (qTa 0) linesO (qHa 0) (qBr 0) cartO wardO frostAtO actO isKeptO loadNowO byNowO rowO memoryO whoseO deepNowO brokenByO brokenAtO goesByO comesToO sagMoreO creakOfO wipedByO deepAtO sagAtO loadAtO orderRowO oftenO lossOneO lossOtherO vO tO mO gO), (wmHa qHa k hHa), (wmBr qBr k aBr)] ++ List.flatten [(wmTa qTa k aTa)]) sz)) 0 0 (va_A (List.flatten [(wMO qO k widthO manyO cellsO movedO (qTa 0) linesO (qHa 0) (qBr 0) cartO wardO frostAtO actO isKeptO loadNowO byNowO rowO memoryO whoseO deepNowO brokenByO brokenAtO goesByO comesToO sagMoreO creakOfO wipedByO deepAtO sagAtO loadAtO orderRowO oftenO lossOneO lossOtherO vO tO mO gO), (wmHa qHa k hHa), (wmBr qBr k aBr)] ++ List.flatten [(wmTa qTa k aTa)]) sz) := by
  refine Met.ofW (cc := cX12_bridgeLine) (maxL := 2) (ret := none) (by decide) rfl ?_
  intro p e s m args below meth c s₁ B hml hv
  obtain ⟨rfl, hsz, hP, hK, hD0⟩ := hv
  have hx := B.exec
  have hb := B.bytes
  have hr := B.returns
  have hts := atoms_spec (ws := wk_c_X12_bridgeLine) B.pre
  have hown : s.vm.findClass RX12 = some m.cls := findClass_of_methodNamed B.named
  have hlocks := B.notSynchronized
  subst hsz
  have hD := hD0.self (sz := s.heap.size)
  generalize hAe : va_A (List.flatten [(wMO qO k widthO manyO cellsO movedO (qTa 0) linesO (qHa 0) (qBr 0) cartO wardO frostAtO actO isKeptO loadNowO byNowO rowO memoryO whoseO deepNowO brokenByO brokenAtO goesByO comesToO sagMoreO creakOfO wipedByO deepAtO sagAtO loadAtO orderRowO oftenO lossOneO lossOtherO vO tO mO gO), (wmHa qHa k hHa), (wmBr qBr k aBr)] ++ List.flatten [(wmTa qTa k aTa)]) s.heap.size = A at hD ⊢
  have hA : ∀ q : Nat, s.heap.size ≤ q → A q := fun q h => by rw [← hAe]; exact Or.inr h
  have hS : va_S A s.heap s.heap [] := va_S.rf
  have hP : va_P (dC, dI) vwCl (List.flatten [(wMO qO k widthO manyO cellsO movedO (qTa 0) linesO (qHa 0) (qBr 0) cartO wardO frostAtO actO isKeptO loadNowO byNowO rowO memoryO whoseO deepNowO brokenByO brokenAtO goesByO comesToO sagMoreO creakOfO wipedByO deepAtO sagAtO loadAtO orderRowO oftenO lossOneO lossOtherO vO tO mO gO), (wmHa qHa k hHa), (wmBr qBr k aBr)] ++ List.flatten [(wmTa qTa k aTa)]) s.heap := hP
  have hl := lv_entry ([.ref (qO 0)]) (n := 2) (Nat.le_of_ble_eq_true rfl)
  rw [lg_entry_eq]
  generalize (lg_sl ([.ref (qO 0)]) ++ List.replicate (2 - (lg_sl ([.ref (qO 0)])).length) Slot.unset).toArray = ls at hl ⊢
  have hl : lv_has ls 2 [(0, .ref (qO 0))] := hl
  refine w_gen (fun Q hQ => ?_)
  refine lv_iconst (v := 2) hx hb dX12_bridgeLine_0 (by decide) ?_
  refine lv_bipush (v := 12) hx hb dX12_bridgeLine_1 (by decide) ?_
  refine lv_aload_n hx hb dX12_bridgeLine_3 rfl (lv_at hl 0 rfl) ?_
  refine lv_iconst (v := 3) hx hb dX12_bridgeLine_4 (by decide) ?_
  have hPc := hP.sub (ws' := (List.flatten [(wMO qO k widthO manyO cellsO movedO (qTa 0) linesO (qHa 0) (qBr 0) cartO wardO frostAtO actO isKeptO loadNowO byNowO rowO memoryO whoseO deepNowO brokenByO brokenAtO goesByO comesToO sagMoreO creakOfO wipedByO deepAtO sagAtO loadAtO orderRowO oftenO lossOneO lossOtherO vO tO mO gO), (wmHa qHa k hHa)])) [0, 1] rfl
  refine vp_callSi (va_Run.run (va_runV (As := [.int 3]) (rest := [.int 12, .int 2]) ⟨hx, hb, hml, hown, hts⟩ (c_hasRead_3 l dC dI k qO widthO manyO cellsO movedO (qTa 0) linesO (qBr 0) cartO wardO frostAtO actO isKeptO loadNowO byNowO rowO memoryO whoseO deepNowO brokenByO brokenAtO goesByO comesToO sagMoreO creakOfO wipedByO deepAtO sagAtO loadAtO orderRowO oftenO lossOneO lossOtherO vO tO mO gO qHa hHa htO hmO hhHa) (cwV 1 hts (gk_V (wl_mem 0 rfl) (wl_mem 1 rfl) (wl_mem 2 rfl) (wl_mem 3 rfl) (fun w h => List.mem_cons_of_mem _ (List.mem_append_right _ (List.mem_append_left _ h))) wkg_c_hasRead_3) rfl rfl rfl (by decide +kernel) ⟨Nat.le_of_ble_eq_true rfl, Nat.le_of_ble_eq_true rfl⟩) ⟨fun a U g mk q => by obtain ⟨q0, qP, qK⟩ := q; exact ⟨q0, qP, va_K.moved (u := U) (U := U.calling g mk a) (Vm.Alike.refl U.vm) qK⟩, va_recv hK hPc (ci := 12) (q0 := 0) rfl rfl, fun U hU hW => ⟨rfl, by rw [hU]; exact hPc, va_K.moved hW.alike hK⟩⟩ rfl rfl hl.1 rfl (lv_room (Nat.le_of_ble_eq_true rfl)) dX12_bridgeLine_5 ⟨Nat.le_of_ble_eq_true rfl, Nat.le_of_ble_eq_true rfl⟩)) (fun rz2 gz1 => ?_)
  clear hPc
  obtain ⟨pz3, pz4⟩ := gz1
  have pz3 : 0 ≤ rz2.toInt ∧ rz2.toInt ≤ 3 := pz3
  have pz4 : rz2.toInt = ((hHa 0) 35).toInt := pz4
  refine lv_iadd hx hb dX12_bridgeLine_8 ?_
  refine lv_topi (fun xz5 exz5 => ?_)
  have fxz5 : xz5.toInt = (12 : Int) + rz2.toInt := by rw [exz5]; exact fb_addI (x := (12 : Int32)) (y := rz2) (by show -2147483648 ≤ (12 : Int) + rz2.toInt; omega) (by show (12 : Int) + rz2.toInt < 2147483648; omega)
  refine lv_imul hx hb dX12_bridgeLine_9 ?_
  refine lv_topi (fun xz6 exz6 => ?_)
  have fxz6 : xz6.toInt = (2 : Int) * xz5.toInt := by rw [exz6]; exact fb_mulI (x := (2 : Int32)) (y := xz5) (by show -2147483648 ≤ (2 : Int) * xz5.toInt; omega) (by show (2 : Int) * xz5.toInt < 2147483648; omega)
  refine lv_istore_n (lv' := [(1, .int xz6), (0, .ref (qO 0))]) hx hb dX12_bridgeLine_10 rfl hl (by decide) rfl (fun ls hl => ?_)
  refine lv_aload_n hx hb dX12_bridgeLine_11 rfl (lv_at hl 1 rfl) ?_
  refine va_get (D := (dC, dI)) (ci := 12) (v := .ref (qBr 0)) (C := RX12) (T := TX12) (N := 59) hx hb hts (fun w h => List.mem_cons_of_mem _ (List.mem_append_right _ (List.mem_append_right _ (List.mem_append_left _ h)))) hown hK hP 0 rfl rfl 18 (by decide) (hts (.fieldLink RX12 37 "SagMemoryModel" "bridge" "[I") (wl_mem 4 rfl)) (fun _ h9 => h9) rfl dX12_bridgeLine_12 ?_
  refine lv_iload_n hx hb dX12_bridgeLine_15 rfl (lv_at hl 0 rfl) ?_
  refine lv_aload_n hx hb dX12_bridgeLine_16 rfl (lv_at hl 1 rfl) ?_
  refine lv_ldc2 (v := 4555648) hx hb hown (hts (.constantLong RX12 202 (4555648)) (wl_mem 5 rfl)) dX12_bridgeLine_17 ?_
  refine lv_iconst (v := 1) hx hb dX12_bridgeLine_20 (by decide) ?_
  refine lv_sipush (v := 300) hx hb dX12_bridgeLine_21 (by decide) ?_
  have bz7 := htO 1
  have bz8 := htO 0
  have hPc := hP.sub (ws' := (List.flatten [(wMO qO k widthO manyO cellsO movedO (qTa 0) linesO (qHa 0) (qBr 0) cartO wardO frostAtO actO isKeptO loadNowO byNowO rowO memoryO whoseO deepNowO brokenByO brokenAtO goesByO comesToO sagMoreO creakOfO wipedByO deepAtO sagAtO loadAtO orderRowO oftenO lossOneO lossOtherO vO tO mO gO)] ++ List.flatten [(wmTa qTa k aTa)])) [0, 3] rfl
  have hC : [0, 3].map (fun i => (List.flatten [(wMO qO k widthO manyO cellsO movedO (qTa 0) linesO (qHa 0) (qBr 0) cartO wardO frostAtO actO isKeptO loadNowO byNowO rowO memoryO whoseO deepNowO brokenByO brokenAtO goesByO comesToO sagMoreO creakOfO wipedByO deepAtO sagAtO loadAtO orderRowO oftenO lossOneO lossOtherO vO tO mO gO), (wmHa qHa k hHa), (wmBr qBr k aBr)] ++ List.flatten [(wmTa qTa k aTa)])[i]?) = (List.flatten [(wMO qO k widthO manyO cellsO movedO (qTa 0) linesO (qHa 0) (qBr 0) cartO wardO frostAtO actO isKeptO loadNowO byNowO rowO memoryO whoseO deepNowO brokenByO brokenAtO goesByO comesToO sagMoreO creakOfO wipedByO deepAtO sagAtO loadAtO orderRowO oftenO lossOneO lossOtherO vO tO mO gO)] ++ List.flatten [(wmTa qTa k aTa)]).map some := rfl
  have hDc := hD.sub [0, 3] (by decide) hC
  have hFc := va_free hD hS hA [0, 3] hC
  refine va_calli (va_runV (As := [.long 4555648, .int 1, .int 300]) (rest := [.int xz6, .ref (qBr 0)]) ⟨hx, hb, hml, hown, hts⟩ (c_X12_number_ l dC dI k s.heap.size qO widthO manyO cellsO movedO linesO (qHa 0) (qBr 0) cartO wardO frostAtO actO isKeptO loadNowO byNowO rowO memoryO whoseO deepNowO brokenByO brokenAtO goesByO comesToO sagMoreO creakOfO wipedByO deepAtO sagAtO loadAtO orderRowO oftenO lossOneO lossOtherO vO tO mO gO qTa aTa (4555648 : Int64) (1 : Int32) (300 : Int32) htO hmO (by show (tO 1).toInt ≤ (tO 0).toInt; omega)) (cwV 3 hts (gk_V (wl_mem 6 rfl) (wl_mem 7 rfl) (wl_mem 8 rfl) (wl_mem 3 rfl) (fun w h => List.mem_cons_of_mem _ (List.mem_append_right _ (List.mem_append_right _ (List.mem_append_right _ (List.mem_append_left _ h))))) wkg_c_X12_number_) rfl rfl rfl (by decide +kernel) ⟨Nat.le_of_ble_eq_true rfl, Nat.le_of_ble_eq_true rfl⟩) ⟨fun a U g mk q => by obtain ⟨q0, q1, qP, qK, qD⟩ := q; exact ⟨q0, q1, qP, va_K.moved (u := U) (U := U.calling g mk a) (Vm.Alike.refl U.vm) qK, qD⟩, va_recv hK hPc (ci := 12) (q0 := 0) rfl rfl, fun U hU hW => ⟨rfl, by rw [hU], by rw [hU]; exact hPc, va_K.moved hW.alike hK, hDc.weaken (fun _ _ _ _ => trivial)⟩⟩ rfl rfl hl.1 rfl (lv_room (Nat.le_of_ble_eq_true rfl)) dX12_bridgeLine_24 ⟨Nat.le_of_ble_eq_true rfl, Nat.le_of_ble_eq_true rfl⟩) hS (fun q _ h => hFc q h) hFc (fun rz10 u t H1 locs ht hvm gz9 hB hz1 hk1 hS => ?_)
  obtain ⟨vz11, tz12, mz13, gz14, htz12, hmz13, pz15, pz16, pz17, hP1⟩ := hB
  rw [ht] at hP1
  obtain ⟨hP, hD⟩ := w_callR hP hD hk1 hP1 [0] rfl rfl (wk_memC [3] rfl) rfl [some 0, none, none] rfl rfl
  clear hPc hC hDc hFc hk1 hP1
  generalize H1 = H at hP hS ⊢
  have hP : va_P (dC, dI) vwCl (List.flatten [(wMO qO k widthO manyO cellsO movedO (qTa 0) linesO (qHa 0) (qBr 0) cartO wardO frostAtO actO isKeptO loadNowO byNowO rowO memoryO whoseO deepNowO brokenByO brokenAtO goesByO comesToO sagMoreO creakOfO wipedByO deepAtO sagAtO loadAtO orderRowO oftenO lossOneO lossOtherO vz11 tz12 mz13 gz14), (wmHa qHa k hHa), (wmBr qBr k aBr)] ++ List.flatten [(wmTa qTa k aTa)]) H := hP
  have hD : va_D A (List.flatten [(wMO qO k widthO manyO cellsO movedO (qTa 0) linesO (qHa 0) (qBr 0) cartO wardO frostAtO actO isKeptO loadNowO byNowO rowO memoryO whoseO deepNowO brokenByO brokenAtO goesByO comesToO sagMoreO creakOfO wipedByO deepAtO sagAtO loadAtO orderRowO oftenO lossOneO lossOtherO vz11 tz12 mz13 gz14), (wmHa qHa k hHa), (wmBr qBr k aBr)] ++ List.flatten [(wmTa qTa k aTa)]) := hD
  refine W.widen (k := 0) (n := 0) (Nat.le_refl 0) (Nat.le_refl 0) ?_
  have pz15 : (tz12 0).toInt = (tO 0).toInt := pz15
  have pz16 : (tz12 1).toInt ≤ (tO 0).toInt := pz16
  have pz17 : (tO 1).toInt ≤ (tz12 1).toInt := pz17
  have pz18 := gz9
  have pz18 : rz10.toInt = (1 : Int) ∨ ((1 : Int) ≤ rz10.toInt ∧ rz10.toInt ≤ (300 : Int)) := pz18
  refine va_iast hx hb hK hP hD hS 2 0 rfl rfl (vp_in_iff.mpr ⟨by omega, by omega⟩) dX12_bridgeLine_27 (fun H locs hP hD hS => ?_)
  obtain ⟨fz19, efz19, hP, hD⟩ : ∃ fz19 : Nat → Int32, fz19 = upd (aBr 0) xz6.toNatClampNeg rz10 ∧ va_P (dC, dI) vwCl (List.flatten [(wMO qO k widthO manyO cellsO movedO (qTa 0) linesO (qHa 0) (qBr 0) cartO wardO frostAtO actO isKeptO loadNowO byNowO rowO memoryO whoseO deepNowO brokenByO brokenAtO goesByO comesToO sagMoreO creakOfO wipedByO deepAtO sagAtO loadAtO orderRowO oftenO lossOneO lossOtherO vz11 tz12 mz13 gz14), (wmHa qHa k hHa), (wmBr qBr k (va_up aBr 0 fz19))] ++ List.flatten [(wmTa qTa k aTa)]) H ∧ va_D A (List.flatten [(wMO qO k widthO manyO cellsO movedO (qTa 0) linesO (qHa 0) (qBr 0) cartO wardO frostAtO actO isKeptO loadNowO byNowO rowO memoryO whoseO deepNowO brokenByO brokenAtO goesByO comesToO sagMoreO creakOfO wipedByO deepAtO sagAtO loadAtO orderRowO oftenO lossOneO lossOtherO vz11 tz12 mz13 gz14), (wmHa qHa k hHa), (wmBr qBr k (va_up aBr 0 fz19))] ++ List.flatten [(wmTa qTa k aTa)]) := ⟨_, rfl, hP, hD⟩
  have kfz19 : fz19 xz6.toNatClampNeg = rz10 := by rw [efz19]; exact pk_us
  refine lv_aload_n hx hb dX12_bridgeLine_28 rfl (lv_at hl 1 rfl) ?_
  refine va_get (D := (dC, dI)) (ci := 12) (v := .ref (qBr 0)) (C := RX12) (T := TX12) (N := 59) hx hb hts (fun w h => List.mem_cons_of_mem _ (List.mem_append_right _ (List.mem_append_right _ (List.mem_append_left _ h)))) hown hK hP 0 rfl rfl 18 (by decide) (hts (.fieldLink RX12 37 "SagMemoryModel" "bridge" "[I") (wl_mem 4 rfl)) (fun _ h9 => h9) rfl dX12_bridgeLine_29 ?_
  refine lv_iload_n hx hb dX12_bridgeLine_32 rfl (lv_at hl 0 rfl) ?_
  refine lv_iconst (v := 1) hx hb dX12_bridgeLine_33 (by decide) ?_
  refine lv_iadd hx hb dX12_bridgeLine_34 ?_
  refine lv_topi (fun xz20 exz20 => ?_)
  have fxz20 : xz20.toInt = xz6.toInt + (1 : Int) := by rw [exz20]; exact fb_addI (x := xz6) (y := (1 : Int32)) (by show -2147483648 ≤ xz6.toInt + (1 : Int); omega) (by show xz6.toInt + (1 : Int) < 2147483648; omega)
  refine lv_aload_n hx hb dX12_bridgeLine_35 rfl (lv_at hl 1 rfl) ?_
  refine lv_ldc2 (v := 404931) hx hb hown (hts (.constantLong RX12 207 (404931)) (wl_mem 9 rfl)) dX12_bridgeLine_36 ?_
  refine lv_iconst (v := 0) hx hb dX12_bridgeLine_39 (by decide) ?_
  refine lv_bipush (v := 9) hx hb dX12_bridgeLine_40 (by decide) ?_
  have bz21 := htz12 1
  have bz22 := htz12 0
  have hPc := hP.sub (ws' := (List.flatten [(wMO qO k widthO manyO cellsO movedO (qTa 0) linesO (qHa 0) (qBr 0) cartO wardO frostAtO actO isKeptO loadNowO byNowO rowO memoryO whoseO deepNowO brokenByO brokenAtO goesByO comesToO sagMoreO creakOfO wipedByO deepAtO sagAtO loadAtO orderRowO oftenO lossOneO lossOtherO vz11 tz12 mz13 gz14)] ++ List.flatten [(wmTa qTa k aTa)])) [0, 3] rfl
  have hC : [0, 3].map (fun i => (List.flatten [(wMO qO k widthO manyO cellsO movedO (qTa 0) linesO (qHa 0) (qBr 0) cartO wardO frostAtO actO isKeptO loadNowO byNowO rowO memoryO whoseO deepNowO brokenByO brokenAtO goesByO comesToO sagMoreO creakOfO wipedByO deepAtO sagAtO loadAtO orderRowO oftenO lossOneO lossOtherO vz11 tz12 mz13 gz14), (wmHa qHa k hHa), (wmBr qBr k (va_up aBr 0 fz19))] ++ List.flatten [(wmTa qTa k aTa)])[i]?) = (List.flatten [(wMO qO k widthO manyO cellsO movedO (qTa 0) linesO (qHa 0) (qBr 0) cartO wardO frostAtO actO isKeptO loadNowO byNowO rowO memoryO whoseO deepNowO brokenByO brokenAtO goesByO comesToO sagMoreO creakOfO wipedByO deepAtO sagAtO loadAtO orderRowO oftenO lossOneO lossOtherO vz11 tz12 mz13 gz14)] ++ List.flatten [(wmTa qTa k aTa)]).map some := rfl
  have hDc := hD.sub [0, 3] (by decide) hC
  have hFc := va_free hD hS hA [0, 3] hC
  refine va_calli (va_runV (As := [.long 404931, .int 0, .int 9]) (rest := [.int xz20, .ref (qBr 0)]) ⟨hx, hb, hml, hown, hts⟩ (c_X12_number_ l dC dI k H.size qO widthO manyO cellsO movedO linesO (qHa 0) (qBr 0) cartO wardO frostAtO actO isKeptO loadNowO byNowO rowO memoryO whoseO deepNowO brokenByO brokenAtO goesByO comesToO sagMoreO creakOfO wipedByO deepAtO sagAtO loadAtO orderRowO oftenO lossOneO lossOtherO vz11 tz12 mz13 gz14 qTa aTa (404931 : Int64) (0 : Int32) (9 : Int32) htz12 hmz13 (by show (tz12 1).toInt ≤ (tz12 0).toInt; omega)) (cwV 3 hts (gk_V (wl_mem 6 rfl) (wl_mem 7 rfl) (wl_mem 8 rfl) (wl_mem 3 rfl) (fun w h => List.mem_cons_of_mem _ (List.mem_append_right _ (List.mem_append_right _ (List.mem_append_right _ (List.mem_append_left _ h))))) wkg_c_X12_number_) rfl rfl rfl (by decide +kernel) ⟨Nat.le_of_ble_eq_true rfl, Nat.le_of_ble_eq_true rfl⟩) ⟨fun a U g mk q => by obtain ⟨q0, q1, qP, qK, qD⟩ := q; exact ⟨q0, q1, qP, va_K.moved (u := U) (U := U.calling g mk a) (Vm.Alike.refl U.vm) qK, qD⟩, va_recv hK hPc (ci := 12) (q0 := 0) rfl rfl, fun U hU hW => ⟨rfl, by rw [hU], by rw [hU]; exact hPc, va_K.moved hW.alike hK, hDc.weaken (fun _ _ _ _ => trivial)⟩⟩ rfl rfl hl.1 rfl (lv_room (Nat.le_of_ble_eq_true rfl)) dX12_bridgeLine_42 ⟨Nat.le_of_ble_eq_true rfl, Nat.le_of_ble_eq_true rfl⟩) hS (fun q _ h => hFc q h) hFc (fun rz24 u t H1 locs ht hvm gz23 hB hz1 hk1 hS => ?_)
  obtain ⟨vz25, tz26, mz27, gz28, htz26, hmz27, pz29, pz30, pz31, hP1⟩ := hB
  rw [ht] at hP1
  obtain ⟨hP, hD⟩ := w_callR hP hD hk1 hP1 [0] rfl rfl (wk_memC [3] rfl) rfl [some 0, none, none] rfl rfl
  clear hPc hC hDc hFc hk1 hP1
  generalize H1 = H at hP hS ⊢
  have hP : va_P (dC, dI) vwCl (List.flatten [(wMO qO k widthO manyO cellsO movedO (qTa 0) linesO (qHa 0) (qBr 0) cartO wardO frostAtO actO isKeptO loadNowO byNowO rowO memoryO whoseO deepNowO brokenByO brokenAtO goesByO comesToO sagMoreO creakOfO wipedByO deepAtO sagAtO loadAtO orderRowO oftenO lossOneO lossOtherO vz25 tz26 mz27 gz28), (wmHa qHa k hHa), (wmBr qBr k (va_up aBr 0 fz19))] ++ List.flatten [(wmTa qTa k aTa)]) H := hP
  have hD : va_D A (List.flatten [(wMO qO k widthO manyO cellsO movedO (qTa 0) linesO (qHa 0) (qBr 0) cartO wardO frostAtO actO isKeptO loadNowO byNowO rowO memoryO whoseO deepNowO brokenByO brokenAtO goesByO comesToO sagMoreO creakOfO wipedByO deepAtO sagAtO loadAtO orderRowO oftenO lossOneO lossOtherO vz25 tz26 mz27 gz28), (wmHa qHa k hHa), (wmBr qBr k (va_up aBr 0 fz19))] ++ List.flatten [(wmTa qTa k aTa)]) := hD
  refine W.widen (k := 0) (n := 0) (Nat.le_refl 0) (Nat.le_refl 0) ?_
  have pz29 : (tz26 0).toInt = (tz12 0).toInt := pz29
  have pz30 : (tz26 1).toInt ≤ (tz12 0).toInt := pz30
  have pz31 : (tz12 1).toInt ≤ (tz26 1).toInt := pz31
  have pz32 := gz23
  have pz32 : rz24.toInt = (0 : Int) ∨ ((0 : Int) ≤ rz24.toInt ∧ rz24.toInt ≤ (9 : Int)) := pz32
  refine va_iast hx hb hK hP hD hS 2 0 rfl rfl (vp_in_iff.mpr ⟨by omega, by omega⟩) dX12_bridgeLine_45 (fun H locs hP hD hS => ?_)
  obtain ⟨fz33, efz33, hP, hD⟩ : ∃ fz33 : Nat → Int32, fz33 = upd fz19 xz20.toNatClampNeg rz24 ∧ va_P (dC, dI) vwCl (List.flatten [(wMO qO k widthO manyO cellsO movedO (qTa 0) linesO (qHa 0) (qBr 0) cartO wardO frostAtO actO isKeptO loadNowO byNowO rowO memoryO whoseO deepNowO brokenByO brokenAtO goesByO comesToO sagMoreO creakOfO wipedByO deepAtO sagAtO loadAtO orderRowO oftenO lossOneO lossOtherO vz25 tz26 mz27 gz28), (wmHa qHa k hHa), (wmBr qBr k (va_up aBr 0 fz33))] ++ List.flatten [(wmTa qTa k aTa)]) H ∧ va_D A (List.flatten [(wMO qO k widthO manyO cellsO movedO (qTa 0) linesO (qHa 0) (qBr 0) cartO wardO frostAtO actO isKeptO loadNowO byNowO rowO memoryO whoseO deepNowO brokenByO brokenAtO goesByO comesToO sagMoreO creakOfO wipedByO deepAtO sagAtO loadAtO orderRowO oftenO lossOneO lossOtherO vz25 tz26 mz27 gz28), (wmHa qHa k hHa), (wmBr qBr k (va_up aBr 0 fz33))] ++ List.flatten [(wmTa qTa k aTa)]) := ⟨_, rfl, hP, hD⟩
  have kfz33 : fz33 xz20.toNatClampNeg = rz24 := by rw [efz33]; exact pk_us
  refine lv_aload_n hx hb dX12_bridgeLine_46 rfl (lv_at hl 1 rfl) ?_
  refine lv_iconst (v := 3) hx hb dX12_bridgeLine_47 (by decide) ?_
  refine lv_aload_n hx hb dX12_bridgeLine_48 rfl (lv_at hl 1 rfl) ?_
  refine lv_iconst (v := 3) hx hb dX12_bridgeLine_49 (by decide) ?_
  have hPc := hP.sub (ws' := (List.flatten [(wMO qO k widthO manyO cellsO movedO (qTa 0) linesO (qHa 0) (qBr 0) cartO wardO frostAtO actO isKeptO loadNowO byNowO rowO memoryO whoseO deepNowO brokenByO brokenAtO goesByO comesToO sagMoreO creakOfO wipedByO deepAtO sagAtO loadAtO orderRowO oftenO lossOneO lossOtherO vz25 tz26 mz27 gz28), (wmHa qHa k hHa)])) [0, 1] rfl
  refine vp_callSi (va_Run.run (va_runV (As := [.int 3]) (rest := [.int 3, .ref (qO 0)]) ⟨hx, hb, hml, hown, hts⟩ (c_hasRead_3 l dC dI k qO widthO manyO cellsO movedO (qTa 0) linesO (qBr 0) cartO wardO frostAtO actO isKeptO loadNowO byNowO rowO memoryO whoseO deepNowO brokenByO brokenAtO goesByO comesToO sagMoreO creakOfO wipedByO deepAtO sagAtO loadAtO orderRowO oftenO lossOneO lossOtherO vz25 tz26 mz27 gz28 qHa hHa htz26 hmz27 hhHa) (cwV 1 hts (gk_V (wl_mem 0 rfl) (wl_mem 1 rfl) (wl_mem 2 rfl) (wl_mem 3 rfl) (fun w h => List.mem_cons_of_mem _ (List.mem_append_right _ (List.mem_append_left _ h))) wkg_c_hasRead_3) rfl rfl rfl (by decide +kernel) ⟨Nat.le_of_ble_eq_true rfl, Nat.le_of_ble_eq_true rfl⟩) ⟨fun a U g mk q => by obtain ⟨q0, qP, qK⟩ := q; exact ⟨q0, qP, va_K.moved (u := U) (U := U.calling g mk a) (Vm.Alike.refl U.vm) qK⟩, va_recv hK hPc (ci := 12) (q0 := 0) rfl rfl, fun U hU hW => ⟨rfl, by rw [hU]; exact hPc, va_K.moved hW.alike hK⟩⟩ rfl rfl hl.1 rfl (lv_room (Nat.le_of_ble_eq_true rfl)) dX12_bridgeLine_50 ⟨Nat.le_of_ble_eq_true rfl, Nat.le_of_ble_eq_true rfl⟩)) (fun rz35 gz34 => ?_)
  clear hPc
  obtain ⟨pz36, pz37⟩ := gz34
  have pz36 : 0 ≤ rz35.toInt ∧ rz35.toInt ≤ 3 := pz36
  have pz37 : rz35.toInt = ((hHa 0) 35).toInt := pz37
  refine lv_iconst (v := 1) hx hb dX12_bridgeLine_53 (by decide) ?_
  refine lv_iadd hx hb dX12_bridgeLine_54 ?_
  refine lv_topi (fun xz38 exz38 => ?_)
  have fxz38 : xz38.toInt = rz35.toInt + (1 : Int) := by rw [exz38]; exact fb_addI (x := rz35) (y := (1 : Int32)) (by show -2147483648 ≤ rz35.toInt + (1 : Int); omega) (by show rz35.toInt + (1 : Int) < 2147483648; omega)
  have hPc := hP.sub (ws' := (List.flatten [(wmHa qHa k hHa)] ++ List.flatten [(wMO qO k widthO manyO cellsO movedO (qTa 0) linesO (qHa 0) (qBr 0) cartO wardO frostAtO actO isKeptO loadNowO byNowO rowO memoryO whoseO deepNowO brokenByO brokenAtO goesByO comesToO sagMoreO creakOfO wipedByO deepAtO sagAtO loadAtO orderRowO oftenO lossOneO lossOtherO vz25 tz26 mz27 gz28)])) [1, 0] rfl
  have hC : [1, 0].map (fun i => (List.flatten [(wMO qO k widthO manyO cellsO movedO (qTa 0) linesO (qHa 0) (qBr 0) cartO wardO frostAtO actO isKeptO loadNowO byNowO rowO memoryO whoseO deepNowO brokenByO brokenAtO goesByO comesToO sagMoreO creakOfO wipedByO deepAtO sagAtO loadAtO orderRowO oftenO lossOneO lossOtherO vz25 tz26 mz27 gz28), (wmHa qHa k hHa), (wmBr qBr k (va_up aBr 0 fz33))] ++ List.flatten [(wmTa qTa k aTa)])[i]?) = (List.flatten [(wmHa qHa k hHa)] ++ List.flatten [(wMO qO k widthO manyO cellsO movedO (qTa 0) linesO (qHa 0) (qBr 0) cartO wardO frostAtO actO isKeptO loadNowO byNowO rowO memoryO whoseO deepNowO brokenByO brokenAtO goesByO comesToO sagMoreO creakOfO wipedByO deepAtO sagAtO loadAtO orderRowO oftenO lossOneO lossOtherO vz25 tz26 mz27 gz28)]).map some := rfl
  have hDc := hD.sub [1, 0] (by decide) hC
  have hFc := va_free hD hS hA [1, 0] hC
  refine va_callv (va_runV (As := [.int 3, .int xz38]) (rest := []) ⟨hx, hb, hml, hown, hts⟩ (c_tells_3 l dC dI k H.size qO widthO manyO cellsO movedO (qTa 0) linesO (qBr 0) cartO wardO frostAtO actO isKeptO loadNowO byNowO rowO memoryO whoseO deepNowO brokenByO brokenAtO goesByO comesToO sagMoreO creakOfO wipedByO deepAtO sagAtO loadAtO orderRowO oftenO lossOneO lossOtherO vz25 tz26 mz27 gz28 qHa hHa xz38 htz26 hmz27 hhHa (by show 0 ≤ xz38.toInt ∧ xz38.toInt ≤ 3; omega)) (cwV 2 hts (gk_V (wl_mem 10 rfl) (wl_mem 11 rfl) (wl_mem 12 rfl) (wl_mem 3 rfl) (fun w h => List.mem_cons_of_mem _ (List.mem_append_right _ (List.mem_append_right _ (List.mem_append_right _ (List.mem_append_right _ (List.mem_append_left _ h)))))) wkg_c_tells_3) rfl rfl rfl (by decide +kernel) ⟨Nat.le_of_ble_eq_true rfl, Nat.le_of_ble_eq_true rfl⟩) ⟨fun a U g mk q => by obtain ⟨q0, q1, qP, qK, qD⟩ := q; exact ⟨q0, q1, qP, va_K.moved (u := U) (U := U.calling g mk a) (Vm.Alike.refl U.vm) qK, qD⟩, va_recv hK hPc (ci := 12) (q0 := 1) rfl rfl, fun U hU hW => ⟨rfl, by rw [hU], by rw [hU]; exact hPc, va_K.moved hW.alike hK, hDc.weaken (fun _ _ _ _ => trivial)⟩⟩ rfl rfl hl.1 rfl (lv_room (Nat.le_of_ble_eq_true rfl)) dX12_bridgeLine_55 ⟨Nat.le_of_ble_eq_true rfl, Nat.le_of_ble_eq_true rfl⟩) hS (fun q _ h => hFc q h) hFc (fun u t H1 locs ht hvm gz39 hB hz1 hk1 hS => ?_)
  obtain ⟨hz41, hhz41, hP1⟩ := hB
  rw [ht] at hP1
  obtain ⟨hP, hD⟩ := w_callR hP hD hk1 hP1 [1] rfl rfl (wk_memC [0] rfl) rfl [none, some 0, none] rfl rfl
  clear hPc hC hDc hFc hk1 hP1
  generalize H1 = H at hP hS ⊢
  have hP : va_P (dC, dI) vwCl (List.flatten [(wMO qO k widthO manyO cellsO movedO (qTa 0) linesO (qHa 0) (qBr 0) cartO wardO frostAtO actO isKeptO loadNowO byNowO rowO memoryO whoseO deepNowO brokenByO brokenAtO goesByO comesToO sagMoreO creakOfO wipedByO deepAtO sagAtO loadAtO orderRowO oftenO lossOneO lossOtherO vz25 tz26 mz27 gz28), (wmHa qHa k hz41), (wmBr qBr k (va_up aBr 0 fz33))] ++ List.flatten [(wmTa qTa k aTa)]) H := hP
  have hD : va_D A (List.flatten [(wMO qO k widthO manyO cellsO movedO (qTa 0) linesO (qHa 0) (qBr 0) cartO wardO frostAtO actO isKeptO loadNowO byNowO rowO memoryO whoseO deepNowO brokenByO brokenAtO goesByO comesToO sagMoreO creakOfO wipedByO deepAtO sagAtO loadAtO orderRowO oftenO lossOneO lossOtherO vz25 tz26 mz27 gz28), (wmHa qHa k hz41), (wmBr qBr k (va_up aBr 0 fz33))] ++ List.flatten [(wmTa qTa k aTa)]) := hD
  refine W.widen (k := 0) (n := 0) (Nat.le_refl 0) (Nat.le_refl 0) ?_
  rw [hQ]
  exact W.vret hx hb hr (fun t ht hW => ⟨⟨(), rfl, trivial, vz25, tz26, mz27, gz28, hz41, (va_up aBr 0 fz33), htz26, hmz27, hhz41, (by show (tz26 0).toInt = (tO 0).toInt; omega), (by show (tz26 1).toInt ≤ (tO 0).toInt; omega), (by show (tO 1).toInt ≤ (tz26 1).toInt; omega), by rw [ht]; exact hP⟩, hS.F ht⟩) hS.2.2 dX12_bridgeLine_58
def wk_c_X12_cartLine : List Cond := .code yX12_cartLine cX12_cartLine 2 none :: ([.methodLink RX12 198 yX12_hasRead, .instanceMethod yX12_hasRead, .selects RX12 yX12_hasRead yX12_hasRead, .initialized RX12, .fieldLink RX12 40 "SagMemoryModel" "cart" "[I", .methodLink RX12 191 yX12_number, .instanceMethod yX12_number, .selects RX12 yX12_number yX12_number, .constantLong RX12 213 (79), .methodLink RX12 187 yX12_asks, .instanceMethod yX12_asks, .selects RX12 yX12_asks yX12_asks, .methodLink RX12 215 yX12_bridgeHere, .instanceMethod yX12_bridgeHere, .selects RX12 yX12_bridgeHere yX12_bridgeHere, .methodLink RX12 209 yX12_tells, .instanceMethod yX12_tells, .selects RX12 yX12_tells yX12_tells] ++ (wk_c_hasRead_4 ++ (wsX120 ++ (wk_c_X12_number ++ (wk_c_X12_asks ++ (wk_c_X12_bridgeHere ++ (wk_c_tells_4 ++ [])))))))
theorem wkg_c_X12_cartLine : wk_c_X12_cartLine.all goodWord = true := by decide +kernel
set_option maxHeartbeats 4000000 in
set_option maxRecDepth 100000 in
theorem c_X12_cartLine (l : Launch) (dC : Nat → ClassId) (dI : Nat → Nat → Nat) (k : Nat → ClassId) (sz : Nat) (qO : Nat → Nat) (widthO : Nat) (manyO : Nat) (cellsO : Nat) (movedO : Nat) (linesO : Nat) (bridgeO : Nat) (wardO : Nat) (frostAtO : Nat) (actO : Nat) (isKeptO : Nat) (loadNowO : Nat) (byNowO : Nat) (rowO : Nat) (memoryO : Nat) (whoseO : Nat) (deepNowO : Nat) (brokenByO : Nat) (brokenAtO : Nat) (goesByO : Nat) (comesToO : Nat) (sagMoreO : Nat) (creakOfO : Nat) (wipedByO : Nat) (deepAtO : Nat) (sagAtO : Nat) (loadAtO : Nat) (orderRowO : Nat) (oftenO : Nat) (lossOneO : Nat) (lossOtherO : Nat) (vO : Nat → Int32) (tO : Nat → Int32) (mO : Nat → Int32) (gO : Nat → Int64) (qTa : Nat → Nat) (aTa : Nat → Nat → Int32) (qHa : Nat → Nat) (hHa : Nat → Nat → Int32) (qCa : Nat → Nat) (pCa : Nat → Nat → Int32) (htO : Rg 0 700 tO) (hmO : Rg (-1) 127 mO) (hhHa : Pa_h hHa) (hpCa : Pa_p pCa) (hp0 : (tO 1).toInt ≤ (tO 0).toInt) (hp1 : ((hHa 0) 36).toInt ≤ 6) : Met l yX12_cartLine wk_c_X12_cartLine ({ frames := 4, cells := 0, slots := 0, locals := 88 }) (va_Pc [.ref (qO 0)] (fun U => U.heap.size = sz ∧ va_P (dC, dI) vwCl (List.flatten [(wMO qO k widthO manyO cellsO movedO (qTa 0) linesO (qHa 0) bridgeO (qCa 0) wardO frostAtO actO isKeptO loadNowO byNowO rowO memoryO whoseO deepNowO brokenByO brokenAtO goesByO comesToO sagMoreO creakOfO wipedByO deepAtO sagAtO loadAtO orderRowO oftenO lossOneO lossOtherO vO tO mO gO), (wmHa qHa k hHa), (wmCa qCa k pCa)] ++ List.flatten [(wmTa qTa k aTa)]) U.heap ∧ va_K (dC, dI) vwCl (tK k) U ∧ va_D (fun _ => True) (List.flatten [(wMO qO k widthO manyO cellsO movedO (qTa 0) linesO (qHa 0) bridgeO (qCa 0) wardO frostAtO actO isKeptO loadNowO byNowO rowO memoryO whoseO deepNowO brokenByO brokenAtO goesByO comesToO sagMoreO creakOfO wipedByO deepAtO sagAtO loadAtO orderRowO oftenO lossOneO lossOtherO vO tO mO gO), (wmHa qHa k hHa), (wmCa qCa k pCa)] ++ List.flatten [(wmTa qTa k aTa)]))) (va_Qv (fun _ : Unit => True) (fun (_ : Unit) (t : State) => ∃ (vO' : Nat → Int32) (tO' : Nat → Int32) (mO' : Nat → Int32) (gO' : Nat → Int64) (hHa' : Nat → Nat → Int32) (pCa' : Nat → Nat → Int32), Rg 0 700 tO' ∧ Rg (-1) 127 mO' ∧ Pa_h hHa' ∧ Pa_p pCa' ∧ ((tO' 0).toInt = (tO 0).toInt) ∧ ((tO' 1).toInt ≤ (tO 0).toInt) ∧ ((tO 1).toInt ≤ (tO' 1).toInt) ∧ va_P (dC, dI) vwCl (List.flatten [(wMO qO k widthO manyO cellsO movedO (qTa 0) linesO (qHa 0) bridgeO (qCa 0) wardO frostAtO actO isKeptO loadNowO byNowO rowO memoryO whoseO deepNowO brokenByO brokenAtO goesByO comesToO sagMoreO creakOfO wipedByO deepAtO sagAtO loadAtO orderRowO oftenO lossOneO lossOtherO vO' tO' mO' gO'), (wmHa qHa k hHa'), (wmCa qCa k pCa')] ++ List.flatten [(wmTa qTa k aTa)]) t.heap) (va_A (List.flatten [(wMO qO k widthO manyO cellsO movedO (qTa 0) linesO (qHa 0) bridgeO (qCa 0) wardO frostAtO actO isKeptO loadNowO byNowO rowO memoryO whoseO deepNowO brokenByO brokenAtO goesByO comesToO sagMoreO creakOfO wipedByO deepAtO sagAtO loadAtO orderRowO oftenO lossOneO lossOtherO vO tO mO gO), (wmHa qHa k hHa), (wmCa qCa k pCa)] ++ List.flatten [(wmTa qTa k aTa)]) sz)) 0 0 (va_A (List.flatten [(wMO qO k widthO manyO cellsO movedO (qTa 0) linesO (qHa 0) bridgeO (qCa 0) wardO frostAtO actO isKeptO loadNowO byNowO rowO memoryO whoseO deepNowO brokenByO brokenAtO goesByO comesToO sagMoreO creakOfO wipedByO deepAtO sagAtO loadAtO orderRowO oftenO lossOneO lossOtherO vO tO mO gO), (wmHa qHa k hHa), (wmCa qCa k pCa)] ++ List.flatten [(wmTa qTa k aTa)]) sz) := by
  refine Met.ofW (cc := cX12_cartLine) (maxL := 2) (ret := none) (by decide) rfl ?_
  intro p e s m args below meth c s₁ B hml hv
  obtain ⟨rfl, hsz, hP, hK, hD0⟩ := hv
  have hx := B.exec
  have hb := B.bytes
  have hr := B.returns
  have hts := atoms_spec (ws := wk_c_X12_cartLine) B.pre
  have hown : s.vm.findClass RX12 = some m.cls := findClass_of_methodNamed B.named
  have hlocks := B.notSynchronized
  subst hsz
  have hD := hD0.self (sz := s.heap.size)
  generalize hAe : va_A (List.flatten [(wMO qO k widthO manyO cellsO movedO (qTa 0) linesO (qHa 0) bridgeO (qCa 0) wardO frostAtO actO isKeptO loadNowO byNowO rowO memoryO whoseO deepNowO brokenByO brokenAtO goesByO comesToO sagMoreO creakOfO wipedByO deepAtO sagAtO loadAtO orderRowO oftenO lossOneO lossOtherO vO tO mO gO), (wmHa qHa k hHa), (wmCa qCa k pCa)] ++ List.flatten [(wmTa qTa k aTa)]) s.heap.size = A at hD ⊢
  have hA : ∀ q : Nat, s.heap.size ≤ q → A q := fun q h => by rw [← hAe]; exact Or.inr h
  have hS : va_S A s.heap s.heap [] := va_S.rf
  have hP : va_P (dC, dI) vwCl (List.flatten [(wMO qO k widthO manyO cellsO movedO (qTa 0) linesO (qHa 0) bridgeO (qCa 0) wardO frostAtO actO isKeptO loadNowO byNowO rowO memoryO whoseO deepNowO brokenByO brokenAtO goesByO comesToO sagMoreO creakOfO wipedByO deepAtO sagAtO loadAtO orderRowO oftenO lossOneO lossOtherO vO tO mO gO), (wmHa qHa k hHa), (wmCa qCa k pCa)] ++ List.flatten [(wmTa qTa k aTa)]) s.heap := hP
  have hl := lv_entry ([.ref (qO 0)]) (n := 2) (Nat.le_of_ble_eq_true rfl)
  rw [lg_entry_eq]
  generalize (lg_sl ([.ref (qO 0)]) ++ List.replicate (2 - (lg_sl ([.ref (qO 0)])).length) Slot.unset).toArray = ls at hl ⊢
  have hl : lv_has ls 2 [(0, .ref (qO 0))] := hl
  refine w_gen (fun Q hQ => ?_)
  refine lv_iconst (v := 2) hx hb dX12_cartLine_0 (by decide) ?_
  refine lv_bipush (v := 28) hx hb dX12_cartLine_1 (by decide) ?_
  refine lv_aload_n hx hb dX12_cartLine_3 rfl (lv_at hl 0 rfl) ?_
  refine lv_iconst (v := 4) hx hb dX12_cartLine_4 (by decide) ?_
  have hPc := hP.sub (ws' := (List.flatten [(wMO qO k widthO manyO cellsO movedO (qTa 0) linesO (qHa 0) bridgeO (qCa 0) wardO frostAtO actO isKeptO loadNowO byNowO rowO memoryO whoseO deepNowO brokenByO brokenAtO goesByO comesToO sagMoreO creakOfO wipedByO deepAtO sagAtO loadAtO orderRowO oftenO lossOneO lossOtherO vO tO mO gO), (wmHa qHa k hHa)])) [0, 1] rfl
  refine vp_callSi (va_Run.run (va_runV (As := [.int 4]) (rest := [.int 28, .int 2]) ⟨hx, hb, hml, hown, hts⟩ (c_hasRead_4 l dC dI k qO widthO manyO cellsO movedO (qTa 0) linesO bridgeO (qCa 0) wardO frostAtO actO isKeptO loadNowO byNowO rowO memoryO whoseO deepNowO brokenByO brokenAtO goesByO comesToO sagMoreO creakOfO wipedByO deepAtO sagAtO loadAtO orderRowO oftenO lossOneO lossOtherO vO tO mO gO qHa hHa htO hmO hhHa) (cwV 1 hts (gk_V (wl_mem 0 rfl) (wl_mem 1 rfl) (wl_mem 2 rfl) (wl_mem 3 rfl) (fun w h => List.mem_cons_of_mem _ (List.mem_append_right _ (List.mem_append_left _ h))) wkg_c_hasRead_4) rfl rfl rfl (by decide +kernel) ⟨Nat.le_of_ble_eq_true rfl, Nat.le_of_ble_eq_true rfl⟩) ⟨fun a U g mk q => by obtain ⟨q0, qP, qK⟩ := q; exact ⟨q0, qP, va_K.moved (u := U) (U := U.calling g mk a) (Vm.Alike.refl U.vm) qK⟩, va_recv hK hPc (ci := 12) (q0 := 0) rfl rfl, fun U hU hW => ⟨rfl, by rw [hU]; exact hPc, va_K.moved hW.alike hK⟩⟩ rfl rfl hl.1 rfl (lv_room (Nat.le_of_ble_eq_true rfl)) dX12_cartLine_5 ⟨Nat.le_of_ble_eq_true rfl, Nat.le_of_ble_eq_true rfl⟩)) (fun rz2 gz1 => ?_)
  clear hPc
  obtain ⟨pz3, pz4⟩ := gz1
  have pz3 : 0 ≤ rz2.toInt ∧ rz2.toInt ≤ 7 := pz3
  have pz4 : rz2.toInt = ((hHa 0) 36).toInt := pz4
  refine lv_iadd hx hb dX12_cartLine_8 ?_
  refine lv_topi (fun xz5 exz5 => ?_)
  have fxz5 : xz5.toInt = (28 : Int) + rz2.toInt := by rw [exz5]; exact fb_addI (x := (28 : Int32)) (y := rz2) (by show -2147483648 ≤ (28 : Int) + rz2.toInt; omega) (by show (28 : Int) + rz2.toInt < 2147483648; omega)
  refine lv_imul hx hb dX12_cartLine_9 ?_
  refine lv_topi (fun xz6 exz6 => ?_)
  have fxz6 : xz6.toInt = (2 : Int) * xz5.toInt := by rw [exz6]; exact fb_mulI (x := (2 : Int32)) (y := xz5) (by show -2147483648 ≤ (2 : Int) * xz5.toInt; omega) (by show (2 : Int) * xz5.toInt < 2147483648; omega)
  refine lv_istore_n (lv' := [(1, .int xz6), (0, .ref (qO 0))]) hx hb dX12_cartLine_10 rfl hl (by decide) rfl (fun ls hl => ?_)
  refine lv_aload_n hx hb dX12_cartLine_11 rfl (lv_at hl 1 rfl) ?_
  refine va_get (D := (dC, dI)) (ci := 12) (v := .ref (qCa 0)) (C := RX12) (T := TX12) (N := 59) hx hb hts (fun w h => List.mem_cons_of_mem _ (List.mem_append_right _ (List.mem_append_right _ (List.mem_append_left _ h)))) hown hK hP 0 rfl rfl 19 (by decide) (hts (.fieldLink RX12 40 "SagMemoryModel" "cart" "[I") (wl_mem 4 rfl)) (fun _ h9 => h9) rfl dX12_cartLine_12 ?_
  refine lv_iload_n hx hb dX12_cartLine_15 rfl (lv_at hl 0 rfl) ?_
  refine lv_aload_n hx hb dX12_cartLine_16 rfl (lv_at hl 1 rfl) ?_
  refine lv_iconst (v := 1) hx hb dX12_cartLine_17 (by decide) ?_
  refine lv_bipush (v := 99) hx hb dX12_cartLine_18 (by decide) ?_
  have bz7 := htO 1
  have bz8 := htO 0
  have hPc := hP.sub (ws' := (List.flatten [(wMO qO k widthO manyO cellsO movedO (qTa 0) linesO (qHa 0) bridgeO (qCa 0) wardO frostAtO actO isKeptO loadNowO byNowO rowO memoryO whoseO deepNowO brokenByO brokenAtO goesByO comesToO sagMoreO creakOfO wipedByO deepAtO sagAtO loadAtO orderRowO oftenO lossOneO lossOtherO vO tO mO gO)] ++ List.flatten [(wmTa qTa k aTa)])) [0, 3] rfl
  have hC : [0, 3].map (fun i => (List.flatten [(wMO qO k widthO manyO cellsO movedO (qTa 0) linesO (qHa 0) bridgeO (qCa 0) wardO frostAtO actO isKeptO loadNowO byNowO rowO memoryO whoseO deepNowO brokenByO brokenAtO goesByO comesToO sagMoreO creakOfO wipedByO deepAtO sagAtO loadAtO orderRowO oftenO lossOneO lossOtherO vO tO mO gO), (wmHa qHa k hHa), (wmCa qCa k pCa)] ++ List.flatten [(wmTa qTa k aTa)])[i]?) = (List.flatten [(wMO qO k widthO manyO cellsO movedO (qTa 0) linesO (qHa 0) bridgeO (qCa 0) wardO frostAtO actO isKeptO loadNowO byNowO rowO memoryO whoseO deepNowO brokenByO brokenAtO goesByO comesToO sagMoreO creakOfO wipedByO deepAtO sagAtO loadAtO orderRowO oftenO lossOneO lossOtherO vO tO mO gO)] ++ List.flatten [(wmTa qTa k aTa)]).map some := rfl
  have hDc := hD.sub [0, 3] (by decide) hC
  have hFc := va_free hD hS hA [0, 3] hC
  refine va_calli (va_runV (As := [.int 1, .int 99]) (rest := [.int xz6, .ref (qCa 0)]) ⟨hx, hb, hml, hown, hts⟩ (c_X12_number l dC dI k s.heap.size qO widthO manyO cellsO movedO linesO (qHa 0) bridgeO (qCa 0) wardO frostAtO actO isKeptO loadNowO byNowO rowO memoryO whoseO deepNowO brokenByO brokenAtO goesByO comesToO sagMoreO creakOfO wipedByO deepAtO sagAtO loadAtO orderRowO oftenO lossOneO lossOtherO vO tO mO gO qTa aTa (1 : Int32) (99 : Int32) htO hmO (by show (tO 1).toInt ≤ (tO 0).toInt; omega)) (cwV 2 hts (gk_V (wl_mem 5 rfl) (wl_mem 6 rfl) (wl_mem 7 rfl) (wl_mem 3 rfl) (fun w h => List.mem_cons_of_mem _ (List.mem_append_right _ (List.mem_append_right _ (List.mem_append_right _ (List.mem_append_left _ h))))) wkg_c_X12_number) rfl rfl rfl (by decide +kernel) ⟨Nat.le_of_ble_eq_true rfl, Nat.le_of_ble_eq_true rfl⟩) ⟨fun a U g mk q => by obtain ⟨q0, q1, qP, qK, qD⟩ := q; exact ⟨q0, q1, qP, va_K.moved (u := U) (U := U.calling g mk a) (Vm.Alike.refl U.vm) qK, qD⟩, va_recv hK hPc (ci := 12) (q0 := 0) rfl rfl, fun U hU hW => ⟨rfl, by rw [hU], by rw [hU]; exact hPc, va_K.moved hW.alike hK, hDc.weaken (fun _ _ _ _ => trivial)⟩⟩ rfl rfl hl.1 rfl (lv_room (Nat.le_of_ble_eq_true rfl)) dX12_cartLine_20 ⟨Nat.le_of_ble_eq_true rfl, Nat.le_of_ble_eq_true rfl⟩) hS (fun q _ h => hFc q h) hFc (fun rz10 u t H1 locs ht hvm gz9 hB hz1 hk1 hS => ?_)
  obtain ⟨vz11, tz12, mz13, gz14, htz12, hmz13, pz15, pz16, pz17, hP1⟩ := hB
  rw [ht] at hP1
  obtain ⟨hP, hD⟩ := w_callR hP hD hk1 hP1 [0] rfl rfl (wk_memC [3] rfl) rfl [some 0, none, none] rfl rfl
  clear hPc hC hDc hFc hk1 hP1
  generalize H1 = H at hP hS ⊢
  have hP : va_P (dC, dI) vwCl (List.flatten [(wMO qO k widthO manyO cellsO movedO (qTa 0) linesO (qHa 0) bridgeO (qCa 0) wardO frostAtO actO isKeptO loadNowO byNowO rowO memoryO whoseO deepNowO brokenByO brokenAtO goesByO comesToO sagMoreO creakOfO wipedByO deepAtO sagAtO loadAtO orderRowO oftenO lossOneO lossOtherO vz11 tz12 mz13 gz14), (wmHa qHa k hHa), (wmCa qCa k pCa)] ++ List.flatten [(wmTa qTa k aTa)]) H := hP
  have hD : va_D A (List.flatten [(wMO qO k widthO manyO cellsO movedO (qTa 0) linesO (qHa 0) bridgeO (qCa 0) wardO frostAtO actO isKeptO loadNowO byNowO rowO memoryO whoseO deepNowO brokenByO brokenAtO goesByO comesToO sagMoreO creakOfO wipedByO deepAtO sagAtO loadAtO orderRowO oftenO lossOneO lossOtherO vz11 tz12 mz13 gz14), (wmHa qHa k hHa), (wmCa qCa k pCa)] ++ List.flatten [(wmTa qTa k aTa)]) := hD
  refine W.widen (k := 0) (n := 0) (Nat.le_refl 0) (Nat.le_refl 0) ?_
  have pz15 : (tz12 0).toInt = (tO 0).toInt := pz15
  have pz16 : (tz12 1).toInt ≤ (tO 0).toInt := pz16
  have pz17 : (tO 1).toInt ≤ (tz12 1).toInt := pz17
  have pz18 := gz9
  have pz18 : rz10.toInt = (1 : Int) ∨ ((1 : Int) ≤ rz10.toInt ∧ rz10.toInt ≤ (99 : Int)) := pz18
  refine va_iast hx hb hK hP hD hS 2 0 rfl rfl (vp_in_iff.mpr ⟨by omega, by omega⟩) dX12_cartLine_23 (fun H locs hP hD hS => ?_)
  obtain ⟨fz19, efz19, hP, hD⟩ : ∃ fz19 : Nat → Int32, fz19 = upd (pCa 0) xz6.toNatClampNeg rz10 ∧ va_P (dC, dI) vwCl (List.flatten [(wMO qO k widthO manyO cellsO movedO (qTa 0) linesO (qHa 0) bridgeO (qCa 0) wardO frostAtO actO isKeptO loadNowO byNowO rowO memoryO whoseO deepNowO brokenByO brokenAtO goesByO comesToO sagMoreO creakOfO wipedByO deepAtO sagAtO loadAtO orderRowO oftenO lossOneO lossOtherO vz11 tz12 mz13 gz14), (wmHa qHa k hHa), (wmCa qCa k (va_up pCa 0 fz19))] ++ List.flatten [(wmTa qTa k aTa)]) H ∧ va_D A (List.flatten [(wMO qO k widthO manyO cellsO movedO (qTa 0) linesO (qHa 0) bridgeO (qCa 0) wardO frostAtO actO isKeptO loadNowO byNowO rowO memoryO whoseO deepNowO brokenByO brokenAtO goesByO comesToO sagMoreO creakOfO wipedByO deepAtO sagAtO loadAtO orderRowO oftenO lossOneO lossOtherO vz11 tz12 mz13 gz14), (wmHa qHa k hHa), (wmCa qCa k (va_up pCa 0 fz19))] ++ List.flatten [(wmTa qTa k aTa)]) := ⟨_, rfl, hP, hD⟩
  have hfz19 : Pd_p fz19 := by rw [efz19]; exact md_upd (hpCa 0) (by show 0 ≤ xz6.toInt; omega) (by show xz6.toInt % 2 = 1 → 0 ≤ rz10.toInt ∧ rz10.toInt ≤ 2; omega)
  have kfz19 : fz19 xz6.toNatClampNeg = rz10 := by rw [efz19]; exact pk_us
  refine lv_aload_n hx hb dX12_cartLine_24 rfl (lv_at hl 1 rfl) ?_
  refine lv_ldc2 (v := 79) hx hb hown (hts (.constantLong RX12 213 (79)) (wl_mem 8 rfl)) dX12_cartLine_25 ?_
  have bz20 := htz12 1
  have bz21 := htz12 0
  have hPc := hP.sub (ws' := (List.flatten [(wMO qO k widthO manyO cellsO movedO (qTa 0) linesO (qHa 0) bridgeO (qCa 0) wardO frostAtO actO isKeptO loadNowO byNowO rowO memoryO whoseO deepNowO brokenByO brokenAtO goesByO comesToO sagMoreO creakOfO wipedByO deepAtO sagAtO loadAtO orderRowO oftenO lossOneO lossOtherO vz11 tz12 mz13 gz14)] ++ List.flatten [(wmTa qTa k aTa)])) [0, 3] rfl
  have hC : [0, 3].map (fun i => (List.flatten [(wMO qO k widthO manyO cellsO movedO (qTa 0) linesO (qHa 0) bridgeO (qCa 0) wardO frostAtO actO isKeptO loadNowO byNowO rowO memoryO whoseO deepNowO brokenByO brokenAtO goesByO comesToO sagMoreO creakOfO wipedByO deepAtO sagAtO loadAtO orderRowO oftenO lossOneO lossOtherO vz11 tz12 mz13 gz14), (wmHa qHa k hHa), (wmCa qCa k (va_up pCa 0 fz19))] ++ List.flatten [(wmTa qTa k aTa)])[i]?) = (List.flatten [(wMO qO k widthO manyO cellsO movedO (qTa 0) linesO (qHa 0) bridgeO (qCa 0) wardO frostAtO actO isKeptO loadNowO byNowO rowO memoryO whoseO deepNowO brokenByO brokenAtO goesByO comesToO sagMoreO creakOfO wipedByO deepAtO sagAtO loadAtO orderRowO oftenO lossOneO lossOtherO vz11 tz12 mz13 gz14)] ++ List.flatten [(wmTa qTa k aTa)]).map some := rfl
  have hDc := hD.sub [0, 3] (by decide) hC
  have hFc := va_free hD hS hA [0, 3] hC
  refine va_callv (va_runV (As := [.long 79]) (rest := []) ⟨hx, hb, hml, hown, hts⟩ (c_X12_asks l dC dI k H.size qO widthO manyO cellsO movedO linesO (qHa 0) bridgeO (qCa 0) wardO frostAtO actO isKeptO loadNowO byNowO rowO memoryO whoseO deepNowO brokenByO brokenAtO goesByO comesToO sagMoreO creakOfO wipedByO deepAtO sagAtO loadAtO orderRowO oftenO lossOneO lossOtherO vz11 tz12 mz13 gz14 qTa aTa (79 : Int64) htz12 hmz13 (by show (tz12 1).toInt ≤ (tz12 0).toInt; omega)) (cwV 1 hts (gk_V (wl_mem 9 rfl) (wl_mem 10 rfl) (wl_mem 11 rfl) (wl_mem 3 rfl) (fun w h => List.mem_cons_of_mem _ (List.mem_append_right _ (List.mem_append_right _ (List.mem_append_right _ (List.mem_append_right _ (List.mem_append_left _ h)))))) wkg_c_X12_asks) rfl rfl rfl (by decide +kernel) ⟨Nat.le_of_ble_eq_true rfl, Nat.le_of_ble_eq_true rfl⟩) ⟨fun a U g mk q => by obtain ⟨q0, q1, qP, qK, qD⟩ := q; exact ⟨q0, q1, qP, va_K.moved (u := U) (U := U.calling g mk a) (Vm.Alike.refl U.vm) qK, qD⟩, va_recv hK hPc (ci := 12) (q0 := 0) rfl rfl, fun U hU hW => ⟨rfl, by rw [hU], by rw [hU]; exact hPc, va_K.moved hW.alike hK, hDc.weaken (fun _ _ _ _ => trivial)⟩⟩ rfl rfl hl.1 rfl (lv_room (Nat.le_of_ble_eq_true rfl)) dX12_cartLine_28 ⟨Nat.le_of_ble_eq_true rfl, Nat.le_of_ble_eq_true rfl⟩) hS (fun q _ h => hFc q h) hFc (fun u t H1 locs ht hvm gz22 hB hz1 hk1 hS => ?_)
  obtain ⟨vz24, tz25, mz26, gz27, htz25, hmz26, pz28, pz29, pz30, hP1⟩ := hB
  rw [ht] at hP1
  obtain ⟨hP, hD⟩ := w_callR hP hD hk1 hP1 [0] rfl rfl (wk_memC [3] rfl) rfl [some 0, none, none] rfl rfl
  clear hPc hC hDc hFc hk1 hP1
  generalize H1 = H at hP hS ⊢
  have hP : va_P (dC, dI) vwCl (List.flatten [(wMO qO k widthO manyO cellsO movedO (qTa 0) linesO (qHa 0) bridgeO (qCa 0) wardO frostAtO actO isKeptO loadNowO byNowO rowO memoryO whoseO deepNowO brokenByO brokenAtO goesByO comesToO sagMoreO creakOfO wipedByO deepAtO sagAtO loadAtO orderRowO oftenO lossOneO lossOtherO vz24 tz25 mz26 gz27), (wmHa qHa k hHa), (wmCa qCa k (va_up pCa 0 fz19))] ++ List.flatten [(wmTa qTa k aTa)]) H := hP
  have hD : va_D A (List.flatten [(wMO qO k widthO manyO cellsO movedO (qTa 0) linesO (qHa 0) bridgeO (qCa 0) wardO frostAtO actO isKeptO loadNowO byNowO rowO memoryO whoseO deepNowO brokenByO brokenAtO goesByO comesToO sagMoreO creakOfO wipedByO deepAtO sagAtO loadAtO orderRowO oftenO lossOneO lossOtherO vz24 tz25 mz26 gz27), (wmHa qHa k hHa), (wmCa qCa k (va_up pCa 0 fz19))] ++ List.flatten [(wmTa qTa k aTa)]) := hD
  refine W.widen (k := 0) (n := 0) (Nat.le_refl 0) (Nat.le_refl 0) ?_
  have pz28 : (tz25 0).toInt = (tz12 0).toInt := pz28
  have pz29 : (tz25 1).toInt ≤ (tz12 0).toInt := pz29
  have pz30 : (tz12 1).toInt ≤ (tz25 1).toInt := pz30
  refine lv_aload_n hx hb dX12_cartLine_31 rfl (lv_at hl 1 rfl) ?_
  refine va_get (D := (dC, dI)) (ci := 12) (v := .ref (qCa 0)) (C := RX12) (T := TX12) (N := 59) hx hb hts (fun w h => List.mem_cons_of_mem _ (List.mem_append_right _ (List.mem_append_right _ (List.mem_append_left _ h)))) hown hK hP 0 rfl rfl 19 (by decide) (hts (.fieldLink RX12 40 "SagMemoryModel" "cart" "[I") (wl_mem 4 rfl)) (fun _ h9 => h9) rfl dX12_cartLine_32 ?_
  refine lv_iload_n hx hb dX12_cartLine_35 rfl (lv_at hl 0 rfl) ?_
  refine lv_iconst (v := 1) hx hb dX12_cartLine_36 (by decide) ?_
  refine lv_iadd hx hb dX12_cartLine_37 ?_
  refine lv_topi (fun xz31 exz31 => ?_)
  have fxz31 : xz31.toInt = xz6.toInt + (1 : Int) := by rw [exz31]; exact fb_addI (x := xz6) (y := (1 : Int32)) (by show -2147483648 ≤ xz6.toInt + (1 : Int); omega) (by show xz6.toInt + (1 : Int) < 2147483648; omega)
  refine lv_aload_n hx hb dX12_cartLine_38 rfl (lv_at hl 1 rfl) ?_
  have bz32 := htz25 1
  have bz33 := htz25 0
  have hPc := hP.sub (ws' := (List.flatten [(wMO qO k widthO manyO cellsO movedO (qTa 0) linesO (qHa 0) bridgeO (qCa 0) wardO frostAtO actO isKeptO loadNowO byNowO rowO memoryO whoseO deepNowO brokenByO brokenAtO goesByO comesToO sagMoreO creakOfO wipedByO deepAtO sagAtO loadAtO orderRowO oftenO lossOneO lossOtherO vz24 tz25 mz26 gz27)] ++ List.flatten [(wmTa qTa k aTa), (wmHa qHa k hHa)])) [0, 3, 1] rfl
  have hC : [0, 3, 1].map (fun i => (List.flatten [(wMO qO k widthO manyO cellsO movedO (qTa 0) linesO (qHa 0) bridgeO (qCa 0) wardO frostAtO actO isKeptO loadNowO byNowO rowO memoryO whoseO deepNowO brokenByO brokenAtO goesByO comesToO sagMoreO creakOfO wipedByO deepAtO sagAtO loadAtO orderRowO oftenO lossOneO lossOtherO vz24 tz25 mz26 gz27), (wmHa qHa k hHa), (wmCa qCa k (va_up pCa 0 fz19))] ++ List.flatten [(wmTa qTa k aTa)])[i]?) = (List.flatten [(wMO qO k widthO manyO cellsO movedO (qTa 0) linesO (qHa 0) bridgeO (qCa 0) wardO frostAtO actO isKeptO loadNowO byNowO rowO memoryO whoseO deepNowO brokenByO brokenAtO goesByO comesToO sagMoreO creakOfO wipedByO deepAtO sagAtO loadAtO orderRowO oftenO lossOneO lossOtherO vz24 tz25 mz26 gz27)] ++ List.flatten [(wmTa qTa k aTa), (wmHa qHa k hHa)]).map some := rfl
  have hDc := hD.sub [0, 3, 1] (by decide) hC
  have hFc := va_free hD hS hA [0, 3, 1] hC
  refine va_calli (va_runV (As := []) (rest := [.int xz31, .ref (qCa 0)]) ⟨hx, hb, hml, hown, hts⟩ (c_X12_bridgeHere l dC dI k H.size qO widthO manyO cellsO movedO linesO bridgeO (qCa 0) wardO frostAtO actO isKeptO loadNowO byNowO rowO memoryO whoseO deepNowO brokenByO brokenAtO goesByO comesToO sagMoreO creakOfO wipedByO deepAtO sagAtO loadAtO orderRowO oftenO lossOneO lossOtherO vz24 tz25 mz26 gz27 qTa aTa qHa hHa htz25 hmz26 hhHa (by show (tz25 1).toInt ≤ (tz25 0).toInt; omega)) (cwV 0 hts (gk_V (wl_mem 12 rfl) (wl_mem 13 rfl) (wl_mem 14 rfl) (wl_mem 3 rfl) (fun w h => List.mem_cons_of_mem _ (List.mem_append_right _ (List.mem_append_right _ (List.mem_append_right _ (List.mem_append_right _ (List.mem_append_right _ (List.mem_append_left _ h))))))) wkg_c_X12_bridgeHere) rfl rfl rfl (by decide +kernel) ⟨Nat.le_of_ble_eq_true rfl, Nat.le_of_ble_eq_true rfl⟩) ⟨fun a U g mk q => by obtain ⟨q0, q1, qP, qK, qD⟩ := q; exact ⟨q0, q1, qP, va_K.moved (u := U) (U := U.calling g mk a) (Vm.Alike.refl U.vm) qK, qD⟩, va_recv hK hPc (ci := 12) (q0 := 0) rfl rfl, fun U hU hW => ⟨rfl, by rw [hU], by rw [hU]; exact hPc, va_K.moved hW.alike hK, hDc.weaken (fun _ _ _ _ => trivial)⟩⟩ rfl rfl hl.1 rfl (lv_room (Nat.le_of_ble_eq_true rfl)) dX12_cartLine_39 ⟨Nat.le_of_ble_eq_true rfl, Nat.le_of_ble_eq_true rfl⟩) hS (fun q _ h => hFc q h) hFc (fun rz35 u t H1 locs ht hvm gz34 hB hz1 hk1 hS => ?_)
  obtain ⟨vz36, tz37, mz38, gz39, htz37, hmz38, pz40, pz41, pz42, hP1⟩ := hB
  rw [ht] at hP1
  obtain ⟨hP, hD⟩ := w_callR hP hD hk1 hP1 [0] rfl rfl (wk_memC [3, 1] rfl) rfl [some 0, none, none] rfl rfl
  clear hPc hC hDc hFc hk1 hP1
  generalize H1 = H at hP hS ⊢
  have hP : va_P (dC, dI) vwCl (List.flatten [(wMO qO k widthO manyO cellsO movedO (qTa 0) linesO (qHa 0) bridgeO (qCa 0) wardO frostAtO actO isKeptO loadNowO byNowO rowO memoryO whoseO deepNowO brokenByO brokenAtO goesByO comesToO sagMoreO creakOfO wipedByO deepAtO sagAtO loadAtO orderRowO oftenO lossOneO lossOtherO vz36 tz37 mz38 gz39), (wmHa qHa k hHa), (wmCa qCa k (va_up pCa 0 fz19))] ++ List.flatten [(wmTa qTa k aTa)]) H := hP
  have hD : va_D A (List.flatten [(wMO qO k widthO manyO cellsO movedO (qTa 0) linesO (qHa 0) bridgeO (qCa 0) wardO frostAtO actO isKeptO loadNowO byNowO rowO memoryO whoseO deepNowO brokenByO brokenAtO goesByO comesToO sagMoreO creakOfO wipedByO deepAtO sagAtO loadAtO orderRowO oftenO lossOneO lossOtherO vz36 tz37 mz38 gz39), (wmHa qHa k hHa), (wmCa qCa k (va_up pCa 0 fz19))] ++ List.flatten [(wmTa qTa k aTa)]) := hD
  refine W.widen (k := 0) (n := 0) (Nat.le_refl 0) (Nat.le_refl 0) ?_
  have pz40 : (tz37 0).toInt = (tz25 0).toInt := pz40
  have pz41 : (tz37 1).toInt ≤ (tz25 0).toInt := pz41
  have pz42 : (tz25 1).toInt ≤ (tz37 1).toInt := pz42
  have pz43 := gz34
  have pz43 : 0 ≤ rz35.toInt ∧ rz35.toInt ≤ 2 := pz43
  refine va_iast hx hb hK hP hD hS 2 0 rfl rfl (vp_in_iff.mpr ⟨by omega, by omega⟩) dX12_cartLine_42 (fun H locs hP hD hS => ?_)
  obtain ⟨fz44, efz44, hP, hD⟩ : ∃ fz44 : Nat → Int32, fz44 = upd fz19 xz31.toNatClampNeg rz35 ∧ va_P (dC, dI) vwCl (List.flatten [(wMO qO k widthO manyO cellsO movedO (qTa 0) linesO (qHa 0) bridgeO (qCa 0) wardO frostAtO actO isKeptO loadNowO byNowO rowO memoryO whoseO deepNowO brokenByO brokenAtO goesByO comesToO sagMoreO creakOfO wipedByO deepAtO sagAtO loadAtO orderRowO oftenO lossOneO lossOtherO vz36 tz37 mz38 gz39), (wmHa qHa k hHa), (wmCa qCa k (va_up pCa 0 fz44))] ++ List.flatten [(wmTa qTa k aTa)]) H ∧ va_D A (List.flatten [(wMO qO k widthO manyO cellsO movedO (qTa 0) linesO (qHa 0) bridgeO (qCa 0) wardO frostAtO actO isKeptO loadNowO byNowO rowO memoryO whoseO deepNowO brokenByO brokenAtO goesByO comesToO sagMoreO creakOfO wipedByO deepAtO sagAtO loadAtO orderRowO oftenO lossOneO lossOtherO vz36 tz37 mz38 gz39), (wmHa qHa k hHa), (wmCa qCa k (va_up pCa 0 fz44))] ++ List.flatten [(wmTa qTa k aTa)]) := ⟨_, rfl, hP, hD⟩
  have hfz44 : Pd_p fz44 := by rw [efz44]; exact md_upd hfz19 (by show 0 ≤ xz31.toInt; omega) (by show xz31.toInt % 2 = 1 → 0 ≤ rz35.toInt ∧ rz35.toInt ≤ 2; omega)
  have kfz44 : fz44 xz31.toNatClampNeg = rz35 := by rw [efz44]; exact pk_us
  refine lv_aload_n hx hb dX12_cartLine_43 rfl (lv_at hl 1 rfl) ?_
  refine lv_iconst (v := 4) hx hb dX12_cartLine_44 (by decide) ?_
  refine lv_aload_n hx hb dX12_cartLine_45 rfl (lv_at hl 1 rfl) ?_
  refine lv_iconst (v := 4) hx hb dX12_cartLine_46 (by decide) ?_
  have hPc := hP.sub (ws' := (List.flatten [(wMO qO k widthO manyO cellsO movedO (qTa 0) linesO (qHa 0) bridgeO (qCa 0) wardO frostAtO actO isKeptO loadNowO byNowO rowO memoryO whoseO deepNowO brokenByO brokenAtO goesByO comesToO sagMoreO creakOfO wipedByO deepAtO sagAtO loadAtO orderRowO oftenO lossOneO lossOtherO vz36 tz37 mz38 gz39), (wmHa qHa k hHa)])) [0, 1] rfl
  refine vp_callSi (va_Run.run (va_runV (As := [.int 4]) (rest := [.int 4, .ref (qO 0)]) ⟨hx, hb, hml, hown, hts⟩ (c_hasRead_4 l dC dI k qO widthO manyO cellsO movedO (qTa 0) linesO bridgeO (qCa 0) wardO frostAtO actO isKeptO loadNowO byNowO rowO memoryO whoseO deepNowO brokenByO brokenAtO goesByO comesToO sagMoreO creakOfO wipedByO deepAtO sagAtO loadAtO orderRowO oftenO lossOneO lossOtherO vz36 tz37 mz38 gz39 qHa hHa htz37 hmz38 hhHa) (cwV 1 hts (gk_V (wl_mem 0 rfl) (wl_mem 1 rfl) (wl_mem 2 rfl) (wl_mem 3 rfl) (fun w h => List.mem_cons_of_mem _ (List.mem_append_right _ (List.mem_append_left _ h))) wkg_c_hasRead_4) rfl rfl rfl (by decide +kernel) ⟨Nat.le_of_ble_eq_true rfl, Nat.le_of_ble_eq_true rfl⟩) ⟨fun a U g mk q => by obtain ⟨q0, qP, qK⟩ := q; exact ⟨q0, qP, va_K.moved (u := U) (U := U.calling g mk a) (Vm.Alike.refl U.vm) qK⟩, va_recv hK hPc (ci := 12) (q0 := 0) rfl rfl, fun U hU hW => ⟨rfl, by rw [hU]; exact hPc, va_K.moved hW.alike hK⟩⟩ rfl rfl hl.1 rfl (lv_room (Nat.le_of_ble_eq_true rfl)) dX12_cartLine_47 ⟨Nat.le_of_ble_eq_true rfl, Nat.le_of_ble_eq_true rfl⟩)) (fun rz46 gz45 => ?_)
  clear hPc
  obtain ⟨pz47, pz48⟩ := gz45
  have pz47 : 0 ≤ rz46.toInt ∧ rz46.toInt ≤ 7 := pz47
  have pz48 : rz46.toInt = ((hHa 0) 36).toInt := pz48
  refine lv_iconst (v := 1) hx hb dX12_cartLine_50 (by decide) ?_
  refine lv_iadd hx hb dX12_cartLine_51 ?_
  refine lv_topi (fun xz49 exz49 => ?_)
  have fxz49 : xz49.toInt = rz46.toInt + (1 : Int) := by rw [exz49]; exact fb_addI (x := rz46) (y := (1 : Int32)) (by show -2147483648 ≤ rz46.toInt + (1 : Int); omega) (by show rz46.toInt + (1 : Int) < 2147483648; omega)
  have hPc := hP.sub (ws' := (List.flatten [(wmHa qHa k hHa)] ++ List.flatten [(wMO qO k widthO manyO cellsO movedO (qTa 0) linesO (qHa 0) bridgeO (qCa 0) wardO frostAtO actO isKeptO loadNowO byNowO rowO memoryO whoseO deepNowO brokenByO brokenAtO goesByO comesToO sagMoreO creakOfO wipedByO deepAtO sagAtO loadAtO orderRowO oftenO lossOneO lossOtherO vz36 tz37 mz38 gz39)])) [1, 0] rfl
  have hC : [1, 0].map (fun i => (List.flatten [(wMO qO k widthO manyO cellsO movedO (qTa 0) linesO (qHa 0) bridgeO (qCa 0) wardO frostAtO actO isKeptO loadNowO byNowO rowO memoryO whoseO deepNowO brokenByO brokenAtO goesByO comesToO sagMoreO creakOfO wipedByO deepAtO sagAtO loadAtO orderRowO oftenO lossOneO lossOtherO vz36 tz37 mz38 gz39), (wmHa qHa k hHa), (wmCa qCa k (va_up pCa 0 fz44))] ++ List.flatten [(wmTa qTa k aTa)])[i]?) = (List.flatten [(wmHa qHa k hHa)] ++ List.flatten [(wMO qO k widthO manyO cellsO movedO (qTa 0) linesO (qHa 0) bridgeO (qCa 0) wardO frostAtO actO isKeptO loadNowO byNowO rowO memoryO whoseO deepNowO brokenByO brokenAtO goesByO comesToO sagMoreO creakOfO wipedByO deepAtO sagAtO loadAtO orderRowO oftenO lossOneO lossOtherO vz36 tz37 mz38 gz39)]).map some := rfl
  have hDc := hD.sub [1, 0] (by decide) hC
  have hFc := va_free hD hS hA [1, 0] hC
  refine va_callv (va_runV (As := [.int 4, .int xz49]) (rest := []) ⟨hx, hb, hml, hown, hts⟩ (c_tells_4 l dC dI k H.size qO widthO manyO cellsO movedO (qTa 0) linesO bridgeO (qCa 0) wardO frostAtO actO isKeptO loadNowO byNowO rowO memoryO whoseO deepNowO brokenByO brokenAtO goesByO comesToO sagMoreO creakOfO wipedByO deepAtO sagAtO loadAtO orderRowO oftenO lossOneO lossOtherO vz36 tz37 mz38 gz39 qHa hHa xz49 htz37 hmz38 hhHa (by show 0 ≤ xz49.toInt ∧ xz49.toInt ≤ 7; omega)) (cwV 2 hts (gk_V (wl_mem 15 rfl) (wl_mem 16 rfl) (wl_mem 17 rfl) (wl_mem 3 rfl) (fun w h => List.mem_cons_of_mem _ (List.mem_append_right _ (List.mem_append_right _ (List.mem_append_right _ (List.mem_append_right _ (List.mem_append_right _ (List.mem_append_right _ (List.mem_append_left _ h)))))))) wkg_c_tells_4) rfl rfl rfl (by decide +kernel) ⟨Nat.le_of_ble_eq_true rfl, Nat.le_of_ble_eq_true rfl⟩) ⟨fun a U g mk q => by obtain ⟨q0, q1, qP, qK, qD⟩ := q; exact ⟨q0, q1, qP, va_K.moved (u := U) (U := U.calling g mk a) (Vm.Alike.refl U.vm) qK, qD⟩, va_recv hK hPc (ci := 12) (q0 := 1) rfl rfl, fun U hU hW => ⟨rfl, by rw [hU], by rw [hU]; exact hPc, va_K.moved hW.alike hK, hDc.weaken (fun _ _ _ _ => trivial)⟩⟩ rfl rfl hl.1 rfl (lv_room (Nat.le_of_ble_eq_true rfl)) dX12_cartLine_52 ⟨Nat.le_of_ble_eq_true rfl, Nat.le_of_ble_eq_true rfl⟩) hS (fun q _ h => hFc q h) hFc (fun u t H1 locs ht hvm gz50 hB hz1 hk1 hS => ?_)
  obtain ⟨hz52, hhz52, hP1⟩ := hB
  rw [ht] at hP1
  obtain ⟨hP, hD⟩ := w_callR hP hD hk1 hP1 [1] rfl rfl (wk_memC [0] rfl) rfl [none, some 0, none] rfl rfl
  clear hPc hC hDc hFc hk1 hP1
  generalize H1 = H at hP hS ⊢
  have hP : va_P (dC, dI) vwCl (List.flatten [(wMO qO k widthO manyO cellsO movedO (qTa 0) linesO (qHa 0) bridgeO (qCa 0) wardO frostAtO actO isKeptO loadNowO byNowO rowO memoryO whoseO deepNowO brokenByO brokenAtO goesByO comesToO sagMoreO creakOfO wipedByO deepAtO sagAtO loadAtO orderRowO oftenO lossOneO lossOtherO vz36 tz37 mz38 gz39), (wmHa qHa k hz52), (wmCa qCa k (va_up pCa 0 fz44))] ++ List.flatten [(wmTa qTa k aTa)]) H := hP
  have hD : va_D A (List.flatten [(wMO qO k widthO manyO cellsO movedO (qTa 0) linesO (qHa 0) bridgeO (qCa 0) wardO frostAtO actO isKeptO loadNowO byNowO rowO memoryO whoseO deepNowO brokenByO brokenAtO goesByO comesToO sagMoreO creakOfO wipedByO deepAtO sagAtO loadAtO orderRowO oftenO lossOneO lossOtherO vz36 tz37 mz38 gz39), (wmHa qHa k hz52), (wmCa qCa k (va_up pCa 0 fz44))] ++ List.flatten [(wmTa qTa k aTa)]) := hD
  refine W.widen (k := 0) (n := 0) (Nat.le_refl 0) (Nat.le_refl 0) ?_
  rw [hQ]
  exact W.vret hx hb hr (fun t ht hW => ⟨⟨(), rfl, trivial, vz36, tz37, mz38, gz39, hz52, (va_up pCa 0 fz44), htz37, hmz38, hhz52, (pa_up_p hpCa hfz44), (by show (tz37 0).toInt = (tO 0).toInt; omega), (by show (tz37 1).toInt ≤ (tO 0).toInt; omega), (by show (tO 1).toInt ≤ (tz37 1).toInt; omega), by rw [ht]; exact hP⟩, hS.F ht⟩) hS.2.2 dX12_cartLine_55
def wk_c_X12_wardLine : List Cond := .code yX12_wardLine cX12_wardLine 2 none :: ([.methodLink RX12 198 yX12_hasRead, .instanceMethod yX12_hasRead, .selects RX12 yX12_hasRead yX12_hasRead, .initialized RX12, .fieldLink RX12 43 "SagMemoryModel" "ward" "[I", .methodLink RX12 215 yX12_bridgeHere, .instanceMethod yX12_bridgeHere, .selects RX12 yX12_bridgeHere yX12_bridgeHere, .constantLong RX12 219 (311436), .methodLink RX12 204 yX12_number_, .instanceMethod yX12_number_, .selects RX12 yX12_number_ yX12_number_, .constantLong RX12 221 (555), .methodLink RX12 187 yX12_asks, .instanceMethod yX12_asks, .selects RX12 yX12_asks yX12_asks, .fieldLink RX12 168 "SagMemoryModel" "bad" "I", .constantLong RX12 223 (158537), .methodLink RX12 181 yX12_takes, .instanceMethod yX12_takes, .selects RX12 yX12_takes yX12_takes, .fieldLink RX12 157 "SagMemoryModel" "token" "I", .fieldLink RX12 150 "SagMemoryModel" "value" "I", .methodLink RX12 184 yX12_fails, .instanceMethod yX12_fails, .selects RX12 yX12_fails yX12_fails, .methodLink RX12 209 yX12_tells, .instanceMethod yX12_tells, .selects RX12 yX12_tells yX12_tells] ++ (wk_c_hasRead_5 ++ (wsX120 ++ (wk_c_X12_bridgeHere ++ (wk_c_X12_number_ ++ (wk_c_X12_asks ++ (wk_c_X12_takes ++ (wk_c_X12_fails ++ (wk_c_tells_5 ++ [])))))))))
theorem wkg_c_X12_wardLine : wk_c_X12_wardLine.all goodWord = true := by decide +kernel
set_option maxHeartbeats 4000000 in
set_option maxRecDepth 100000 in
theorem c_X12_wardLine (l : Launch) (dC : Nat → ClassId) (dI : Nat → Nat → Nat) (k : Nat → ClassId) (sz : Nat) (qO : Nat → Nat) (widthO : Nat) (manyO : Nat) (cellsO : Nat) (movedO : Nat) (linesO : Nat) (bridgeO : Nat) (cartO : Nat) (frostAtO : Nat) (actO : Nat) (isKeptO : Nat) (loadNowO : Nat) (byNowO : Nat) (rowO : Nat) (memoryO : Nat) (whoseO : Nat) (deepNowO : Nat) (brokenByO : Nat) (brokenAtO : Nat) (goesByO : Nat) (comesToO : Nat) (sagMoreO : Nat) (creakOfO : Nat) (wipedByO : Nat) (deepAtO : Nat) (sagAtO : Nat) (loadAtO : Nat) (orderRowO : Nat) (oftenO : Nat) (lossOneO : Nat) (lossOtherO : Nat) (vO : Nat → Int32) (tO : Nat → Int32) (mO : Nat → Int32) (gO : Nat → Int64) (qTa : Nat → Nat) (aTa : Nat → Nat → Int32) (qHa : Nat → Nat) (hHa : Nat → Nat → Int32) (qWa : Nat → Nat) (jWa : Nat → Nat → Int32) (htO : Rg 0 700 tO) (hmO : Rg (-1) 127 mO) (hhHa : Pa_h hHa) (hjWa : Pa_j jWa) (hp0 : (tO 1).toInt ≤ (tO 0).toInt) (hp1 : ((hHa 0) 37).toInt ≤ 4) : Met l yX12_wardLine wk_c_X12_wardLine ({ frames := 5, cells := 0, slots := 0, locals := 112 }) (va_Pc [.ref (qO 0)] (fun U => U.heap.size = sz ∧ va_P (dC, dI) vwCl (List.flatten [(wMO qO k widthO manyO cellsO movedO (qTa 0) linesO (qHa 0) bridgeO cartO (qWa 0) frostAtO actO isKeptO loadNowO byNowO rowO memoryO whoseO deepNowO brokenByO brokenAtO goesByO comesToO sagMoreO creakOfO wipedByO deepAtO sagAtO loadAtO orderRowO oftenO lossOneO lossOtherO vO tO mO gO), (wmHa qHa k hHa), (wmWa qWa k jWa)] ++ List.flatten [(wmTa qTa k aTa)]) U.heap ∧ va_K (dC, dI) vwCl (tK k) U ∧ va_D (fun _ => True) (List.flatten [(wMO qO k widthO manyO cellsO movedO (qTa 0) linesO (qHa 0) bridgeO cartO (qWa 0) frostAtO actO isKeptO loadNowO byNowO rowO memoryO whoseO deepNowO brokenByO brokenAtO goesByO comesToO sagMoreO creakOfO wipedByO deepAtO sagAtO loadAtO orderRowO oftenO lossOneO lossOtherO vO tO mO gO), (wmHa qHa k hHa), (wmWa qWa k jWa)] ++ List.flatten [(wmTa qTa k aTa)]))) (va_Qv (fun _ : Unit => True) (fun (_ : Unit) (t : State) => ∃ (vO' : Nat → Int32) (tO' : Nat → Int32) (mO' : Nat → Int32) (gO' : Nat → Int64) (hHa' : Nat → Nat → Int32) (jWa' : Nat → Nat → Int32), Rg 0 700 tO' ∧ Rg (-1) 127 mO' ∧ Pa_h hHa' ∧ Pa_j jWa' ∧ ((tO' 0).toInt = (tO 0).toInt) ∧ ((tO' 1).toInt ≤ (tO 0).toInt) ∧ ((tO 1).toInt ≤ (tO' 1).toInt) ∧ va_P (dC, dI) vwCl (List.flatten [(wMO qO k widthO manyO cellsO movedO (qTa 0) linesO (qHa 0) bridgeO cartO (qWa 0) frostAtO actO isKeptO loadNowO byNowO rowO memoryO whoseO deepNowO brokenByO brokenAtO goesByO comesToO sagMoreO creakOfO wipedByO deepAtO sagAtO loadAtO orderRowO oftenO lossOneO lossOtherO vO' tO' mO' gO'), (wmHa qHa k hHa'), (wmWa qWa k jWa')] ++ List.flatten [(wmTa qTa k aTa)]) t.heap) (va_A (List.flatten [(wMO qO k widthO manyO cellsO movedO (qTa 0) linesO (qHa 0) bridgeO cartO (qWa 0) frostAtO actO isKeptO loadNowO byNowO rowO memoryO whoseO deepNowO brokenByO brokenAtO goesByO comesToO sagMoreO creakOfO wipedByO deepAtO sagAtO loadAtO orderRowO oftenO lossOneO lossOtherO vO tO mO gO), (wmHa qHa k hHa), (wmWa qWa k jWa)] ++ List.flatten [(wmTa qTa k aTa)]) sz)) 0 0 (va_A (List.flatten [(wMO qO k widthO manyO cellsO movedO (qTa 0) linesO (qHa 0) bridgeO cartO (qWa 0) frostAtO actO isKeptO loadNowO byNowO rowO memoryO whoseO deepNowO brokenByO brokenAtO goesByO comesToO sagMoreO creakOfO wipedByO deepAtO sagAtO loadAtO orderRowO oftenO lossOneO lossOtherO vO tO mO gO), (wmHa qHa k hHa), (wmWa qWa k jWa)] ++ List.flatten [(wmTa qTa k aTa)]) sz) := by
  refine Met.ofW (cc := cX12_wardLine) (maxL := 2) (ret := none) (by decide) rfl ?_
  intro p e s m args below meth c s₁ B hml hv
  obtain ⟨rfl, hsz, hP, hK, hD0⟩ := hv
  have hx := B.exec
  have hb := B.bytes
  have hr := B.returns
  have hts := atoms_spec (ws := wk_c_X12_wardLine) B.pre
  have hown : s.vm.findClass RX12 = some m.cls := findClass_of_methodNamed B.named
  have hlocks := B.notSynchronized
  subst hsz
  have hD := hD0.self (sz := s.heap.size)
  generalize hAe : va_A (List.flatten [(wMO qO k widthO manyO cellsO movedO (qTa 0) linesO (qHa 0) bridgeO cartO (qWa 0) frostAtO actO isKeptO loadNowO byNowO rowO memoryO whoseO deepNowO brokenByO brokenAtO goesByO comesToO sagMoreO creakOfO wipedByO deepAtO sagAtO loadAtO orderRowO oftenO lossOneO lossOtherO vO tO mO gO), (wmHa qHa k hHa), (wmWa qWa k jWa)] ++ List.flatten [(wmTa qTa k aTa)]) s.heap.size = A at hD ⊢
  have hA : ∀ q : Nat, s.heap.size ≤ q → A q := fun q h => by rw [← hAe]; exact Or.inr h
  have hS : va_S A s.heap s.heap [] := va_S.rf
  have hP : va_P (dC, dI) vwCl (List.flatten [(wMO qO k widthO manyO cellsO movedO (qTa 0) linesO (qHa 0) bridgeO cartO (qWa 0) frostAtO actO isKeptO loadNowO byNowO rowO memoryO whoseO deepNowO brokenByO brokenAtO goesByO comesToO sagMoreO creakOfO wipedByO deepAtO sagAtO loadAtO orderRowO oftenO lossOneO lossOtherO vO tO mO gO), (wmHa qHa k hHa), (wmWa qWa k jWa)] ++ List.flatten [(wmTa qTa k aTa)]) s.heap := hP
  have hl := lv_entry ([.ref (qO 0)]) (n := 2) (Nat.le_of_ble_eq_true rfl)
  rw [lg_entry_eq]
  generalize (lg_sl ([.ref (qO 0)]) ++ List.replicate (2 - (lg_sl ([.ref (qO 0)])).length) Slot.unset).toArray = ls at hl ⊢
  have hl : lv_has ls 2 [(0, .ref (qO 0))] := hl
  refine w_gen (fun Q hQ => ?_)
  refine lv_iconst (v := 3) hx hb dX12_wardLine_0 (by decide) ?_
  refine lv_bipush (v := 20) hx hb dX12_wardLine_1 (by decide) ?_
  refine lv_aload_n hx hb dX12_wardLine_3 rfl (lv_at hl 0 rfl) ?_
  refine lv_iconst (v := 5) hx hb dX12_wardLine_4 (by decide) ?_
  have hPc := hP.sub (ws' := (List.flatten [(wMO qO k widthO manyO cellsO movedO (qTa 0) linesO (qHa 0) bridgeO cartO (qWa 0) frostAtO actO isKeptO loadNowO byNowO rowO memoryO whoseO deepNowO brokenByO brokenAtO goesByO comesToO sagMoreO creakOfO wipedByO deepAtO sagAtO loadAtO orderRowO oftenO lossOneO lossOtherO vO tO mO gO), (wmHa qHa k hHa)])) [0, 1] rfl
  refine vp_callSi (va_Run.run (va_runV (As := [.int 5]) (rest := [.int 20, .int 3]) ⟨hx, hb, hml, hown, hts⟩ (c_hasRead_5 l dC dI k qO widthO manyO cellsO movedO (qTa 0) linesO bridgeO cartO (qWa 0) frostAtO actO isKeptO loadNowO byNowO rowO memoryO whoseO deepNowO brokenByO brokenAtO goesByO comesToO sagMoreO creakOfO wipedByO deepAtO sagAtO loadAtO orderRowO oftenO lossOneO lossOtherO vO tO mO gO qHa hHa htO hmO hhHa) (cwV 1 hts (gk_V (wl_mem 0 rfl) (wl_mem 1 rfl) (wl_mem 2 rfl) (wl_mem 3 rfl) (fun w h => List.mem_cons_of_mem _ (List.mem_append_right _ (List.mem_append_left _ h))) wkg_c_hasRead_5) rfl rfl rfl (by decide +kernel) ⟨Nat.le_of_ble_eq_true rfl, Nat.le_of_ble_eq_true rfl⟩) ⟨fun a U g mk q => by obtain ⟨q0, qP, qK⟩ := q; exact ⟨q0, qP, va_K.moved (u := U) (U := U.calling g mk a) (Vm.Alike.refl U.vm) qK⟩, va_recv hK hPc (ci := 12) (q0 := 0) rfl rfl, fun U hU hW => ⟨rfl, by rw [hU]; exact hPc, va_K.moved hW.alike hK⟩⟩ rfl rfl hl.1 rfl (lv_room (Nat.le_of_ble_eq_true rfl)) dX12_wardLine_5 ⟨Nat.le_of_ble_eq_true rfl, Nat.le_of_ble_eq_true rfl⟩)) (fun rz2 gz1 => ?_)
  clear hPc
  obtain ⟨pz3, pz4⟩ := gz1
  have pz3 : 0 ≤ rz2.toInt ∧ rz2.toInt ≤ 5 := pz3
  have pz4 : rz2.toInt = ((hHa 0) 37).toInt := pz4
  refine lv_iadd hx hb dX12_wardLine_8 ?_
  refine lv_topi (fun xz5 exz5 => ?_)
  have fxz5 : xz5.toInt = (20 : Int) + rz2.toInt := by rw [exz5]; exact fb_addI (x := (20 : Int32)) (y := rz2) (by show -2147483648 ≤ (20 : Int) + rz2.toInt; omega) (by show (20 : Int) + rz2.toInt < 2147483648; omega)
  refine lv_imul hx hb dX12_wardLine_9 ?_
  refine lv_topi (fun xz6 exz6 => ?_)
  have fxz6 : xz6.toInt = (3 : Int) * xz5.toInt := by rw [exz6]; exact fb_mulI (x := (3 : Int32)) (y := xz5) (by show -2147483648 ≤ (3 : Int) * xz5.toInt; omega) (by show (3 : Int) * xz5.toInt < 2147483648; omega)
  refine lv_istore_n (lv' := [(1, .int xz6), (0, .ref (qO 0))]) hx hb dX12_wardLine_10 rfl hl (by decide) rfl (fun ls hl => ?_)
  refine lv_aload_n hx hb dX12_wardLine_11 rfl (lv_at hl 1 rfl) ?_
  refine va_get (D := (dC, dI)) (ci := 12) (v := .ref (qWa 0)) (C := RX12) (T := TX12) (N := 59) hx hb hts (fun w h => List.mem_cons_of_mem _ (List.mem_append_right _ (List.mem_append_right _ (List.mem_append_left _ h)))) hown hK hP 0 rfl rfl 20 (by decide) (hts (.fieldLink RX12 43 "SagMemoryModel" "ward" "[I") (wl_mem 4 rfl)) (fun _ h9 => h9) rfl dX12_wardLine_12 ?_
  refine lv_iload_n hx hb dX12_wardLine_15 rfl (lv_at hl 0 rfl) ?_
  refine lv_aload_n hx hb dX12_wardLine_16 rfl (lv_at hl 1 rfl) ?_
  have bz7 := htO 1
  have bz8 := htO 0
  have hPc := hP.sub (ws' := (List.flatten [(wMO qO k widthO manyO cellsO movedO (qTa 0) linesO (qHa 0) bridgeO cartO (qWa 0) frostAtO actO isKeptO loadNowO byNowO rowO memoryO whoseO deepNowO brokenByO brokenAtO goesByO comesToO sagMoreO creakOfO wipedByO deepAtO sagAtO loadAtO orderRowO oftenO lossOneO lossOtherO vO tO mO gO)] ++ List.flatten [(wmTa qTa k aTa), (wmHa qHa k hHa)])) [0, 3, 1] rfl
  have hC : [0, 3, 1].map (fun i => (List.flatten [(wMO qO k widthO manyO cellsO movedO (qTa 0) linesO (qHa 0) bridgeO cartO (qWa 0) frostAtO actO isKeptO loadNowO byNowO rowO memoryO whoseO deepNowO brokenByO brokenAtO goesByO comesToO sagMoreO creakOfO wipedByO deepAtO sagAtO loadAtO orderRowO oftenO lossOneO lossOtherO vO tO mO gO), (wmHa qHa k hHa), (wmWa qWa k jWa)] ++ List.flatten [(wmTa qTa k aTa)])[i]?) = (List.flatten [(wMO qO k widthO manyO cellsO movedO (qTa 0) linesO (qHa 0) bridgeO cartO (qWa 0) frostAtO actO isKeptO loadNowO byNowO rowO memoryO whoseO deepNowO brokenByO brokenAtO goesByO comesToO sagMoreO creakOfO wipedByO deepAtO sagAtO loadAtO orderRowO oftenO lossOneO lossOtherO vO tO mO gO)] ++ List.flatten [(wmTa qTa k aTa), (wmHa qHa k hHa)]).map some := rfl
  have hDc := hD.sub [0, 3, 1] (by decide) hC
  have hFc := va_free hD hS hA [0, 3, 1] hC
  refine va_calli (va_runV (As := []) (rest := [.int xz6, .ref (qWa 0)]) ⟨hx, hb, hml, hown, hts⟩ (c_X12_bridgeHere l dC dI k s.heap.size qO widthO manyO cellsO movedO linesO bridgeO cartO (qWa 0) frostAtO actO isKeptO loadNowO byNowO rowO memoryO whoseO deepNowO brokenByO brokenAtO goesByO comesToO sagMoreO creakOfO wipedByO deepAtO sagAtO loadAtO orderRowO oftenO lossOneO lossOtherO vO tO mO gO qTa aTa qHa hHa htO hmO hhHa (by show (tO 1).toInt ≤ (tO 0).toInt; omega)) (cwV 0 hts (gk_V (wl_mem 5 rfl) (wl_mem 6 rfl) (wl_mem 7 rfl) (wl_mem 3 rfl) (fun w h => List.mem_cons_of_mem _ (List.mem_append_right _ (List.mem_append_right _ (List.mem_append_right _ (List.mem_append_left _ h))))) wkg_c_X12_bridgeHere) rfl rfl rfl (by decide +kernel) ⟨Nat.le_of_ble_eq_true rfl, Nat.le_of_ble_eq_true rfl⟩) ⟨fun a U g mk q => by obtain ⟨q0, q1, qP, qK, qD⟩ := q; exact ⟨q0, q1, qP, va_K.moved (u := U) (U := U.calling g mk a) (Vm.Alike.refl U.vm) qK, qD⟩, va_recv hK hPc (ci := 12) (q0 := 0) rfl rfl, fun U hU hW => ⟨rfl, by rw [hU], by rw [hU]; exact hPc, va_K.moved hW.alike hK, hDc.weaken (fun _ _ _ _ => trivial)⟩⟩ rfl rfl hl.1 rfl (lv_room (Nat.le_of_ble_eq_true rfl)) dX12_wardLine_17 ⟨Nat.le_of_ble_eq_true rfl, Nat.le_of_ble_eq_true rfl⟩) hS (fun q _ h => hFc q h) hFc (fun rz10 u t H1 locs ht hvm gz9 hB hz1 hk1 hS => ?_)
  obtain ⟨vz11, tz12, mz13, gz14, htz12, hmz13, pz15, pz16, pz17, hP1⟩ := hB
  rw [ht] at hP1
  obtain ⟨hP, hD⟩ := w_callR hP hD hk1 hP1 [0] rfl rfl (wk_memC [3, 1] rfl) rfl [some 0, none, none] rfl rfl
  clear hPc hC hDc hFc hk1 hP1
  generalize H1 = H at hP hS ⊢
  have hP : va_P (dC, dI) vwCl (List.flatten [(wMO qO k widthO manyO cellsO movedO (qTa 0) linesO (qHa 0) bridgeO cartO (qWa 0) frostAtO actO isKeptO loadNowO byNowO rowO memoryO whoseO deepNowO brokenByO brokenAtO goesByO comesToO sagMoreO creakOfO wipedByO deepAtO sagAtO loadAtO orderRowO oftenO lossOneO lossOtherO vz11 tz12 mz13 gz14), (wmHa qHa k hHa), (wmWa qWa k jWa)] ++ List.flatten [(wmTa qTa k aTa)]) H := hP
  have hD : va_D A (List.flatten [(wMO qO k widthO manyO cellsO movedO (qTa 0) linesO (qHa 0) bridgeO cartO (qWa 0) frostAtO actO isKeptO loadNowO byNowO rowO memoryO whoseO deepNowO brokenByO brokenAtO goesByO comesToO sagMoreO creakOfO wipedByO deepAtO sagAtO loadAtO orderRowO oftenO lossOneO lossOtherO vz11 tz12 mz13 gz14), (wmHa qHa k hHa), (wmWa qWa k jWa)] ++ List.flatten [(wmTa qTa k aTa)]) := hD
  refine W.widen (k := 0) (n := 0) (Nat.le_refl 0) (Nat.le_refl 0) ?_
  have pz15 : (tz12 0).toInt = (tO 0).toInt := pz15
  have pz16 : (tz12 1).toInt ≤ (tO 0).toInt := pz16
  have pz17 : (tO 1).toInt ≤ (tz12 1).toInt := pz17
  have pz18 := gz9
  have pz18 : 0 ≤ rz10.toInt ∧ rz10.toInt ≤ 2 := pz18
  refine va_iast hx hb hK hP hD hS 2 0 rfl rfl (vp_in_iff.mpr ⟨by omega, by omega⟩) dX12_wardLine_20 (fun H locs hP hD hS => ?_)
  obtain ⟨fz19, efz19, hP, hD⟩ : ∃ fz19 : Nat → Int32, fz19 = upd (jWa 0) xz6.toNatClampNeg rz10 ∧ va_P (dC, dI) vwCl (List.flatten [(wMO qO k widthO manyO cellsO movedO (qTa 0) linesO (qHa 0) bridgeO cartO (qWa 0) frostAtO actO isKeptO loadNowO byNowO rowO memoryO whoseO deepNowO brokenByO brokenAtO goesByO comesToO sagMoreO creakOfO wipedByO deepAtO sagAtO loadAtO orderRowO oftenO lossOneO lossOtherO vz11 tz12 mz13 gz14), (wmHa qHa k hHa), (wmWa qWa k (va_up jWa 0 fz19))] ++ List.flatten [(wmTa qTa k aTa)]) H ∧ va_D A (List.flatten [(wMO qO k widthO manyO cellsO movedO (qTa 0) linesO (qHa 0) bridgeO cartO (qWa 0) frostAtO actO isKeptO loadNowO byNowO rowO memoryO whoseO deepNowO brokenByO brokenAtO goesByO comesToO sagMoreO creakOfO wipedByO deepAtO sagAtO loadAtO orderRowO oftenO lossOneO lossOtherO vz11 tz12 mz13 gz14), (wmHa qHa k hHa), (wmWa qWa k (va_up jWa 0 fz19))] ++ List.flatten [(wmTa qTa k aTa)]) := ⟨_, rfl, hP, hD⟩
  have hfz19 : Pd_j fz19 := by rw [efz19]; exact md_upd (hjWa 0) (by show 0 ≤ xz6.toInt; omega) (by show xz6.toInt % 3 = 2 → (-1) ≤ rz10.toInt ∧ rz10.toInt ≤ 2; omega)
  have kfz19 : fz19 xz6.toNatClampNeg = rz10 := by rw [efz19]; exact pk_us
  refine lv_aload_n hx hb dX12_wardLine_21 rfl (lv_at hl 1 rfl) ?_
  refine va_get (D := (dC, dI)) (ci := 12) (v := .ref (qWa 0)) (C := RX12) (T := TX12) (N := 59) hx hb hts (fun w h => List.mem_cons_of_mem _ (List.mem_append_right _ (List.mem_append_right _ (List.mem_append_left _ h)))) hown hK hP 0 rfl rfl 20 (by decide) (hts (.fieldLink RX12 43 "SagMemoryModel" "ward" "[I") (wl_mem 4 rfl)) (fun _ h9 => h9) rfl dX12_wardLine_22 ?_
  refine lv_iload_n hx hb dX12_wardLine_25 rfl (lv_at hl 0 rfl) ?_
  refine lv_iconst (v := 1) hx hb dX12_wardLine_26 (by decide) ?_
  refine lv_iadd hx hb dX12_wardLine_27 ?_
  refine lv_topi (fun xz20 exz20 => ?_)
  have fxz20 : xz20.toInt = xz6.toInt + (1 : Int) := by rw [exz20]; exact fb_addI (x := xz6) (y := (1 : Int32)) (by show -2147483648 ≤ xz6.toInt + (1 : Int); omega) (by show xz6.toInt + (1 : Int) < 2147483648; omega)
  refine lv_aload_n hx hb dX12_wardLine_28 rfl (lv_at hl 1 rfl) ?_
  refine lv_ldc2 (v := 311436) hx hb hown (hts (.constantLong RX12 219 (311436)) (wl_mem 8 rfl)) dX12_wardLine_29 ?_
  refine lv_iconst (v := 0) hx hb dX12_wardLine_32 (by decide) ?_
  refine lv_bipush (v := 99) hx hb dX12_wardLine_33 (by decide) ?_
  have bz21 := htz12 1
  have bz22 := htz12 0
  have hPc := hP.sub (ws' := (List.flatten [(wMO qO k widthO manyO cellsO movedO (qTa 0) linesO (qHa 0) bridgeO cartO (qWa 0) frostAtO actO isKeptO loadNowO byNowO rowO memoryO whoseO deepNowO brokenByO brokenAtO goesByO comesToO sagMoreO creakOfO wipedByO deepAtO sagAtO loadAtO orderRowO oftenO lossOneO lossOtherO vz11 tz12 mz13 gz14)] ++ List.flatten [(wmTa qTa k aTa)])) [0, 3] rfl
  have hC : [0, 3].map (fun i => (List.flatten [(wMO qO k widthO manyO cellsO movedO (qTa 0) linesO (qHa 0) bridgeO cartO (qWa 0) frostAtO actO isKeptO loadNowO byNowO rowO memoryO whoseO deepNowO brokenByO brokenAtO goesByO comesToO sagMoreO creakOfO wipedByO deepAtO sagAtO loadAtO orderRowO oftenO lossOneO lossOtherO vz11 tz12 mz13 gz14), (wmHa qHa k hHa), (wmWa qWa k (va_up jWa 0 fz19))] ++ List.flatten [(wmTa qTa k aTa)])[i]?) = (List.flatten [(wMO qO k widthO manyO cellsO movedO (qTa 0) linesO (qHa 0) bridgeO cartO (qWa 0) frostAtO actO isKeptO loadNowO byNowO rowO memoryO whoseO deepNowO brokenByO brokenAtO goesByO comesToO sagMoreO creakOfO wipedByO deepAtO sagAtO loadAtO orderRowO oftenO lossOneO lossOtherO vz11 tz12 mz13 gz14)] ++ List.flatten [(wmTa qTa k aTa)]).map some := rfl
  have hDc := hD.sub [0, 3] (by decide) hC
  have hFc := va_free hD hS hA [0, 3] hC
  refine va_calli (va_runV (As := [.long 311436, .int 0, .int 99]) (rest := [.int xz20, .ref (qWa 0)]) ⟨hx, hb, hml, hown, hts⟩ (c_X12_number_ l dC dI k H.size qO widthO manyO cellsO movedO linesO (qHa 0) bridgeO cartO (qWa 0) frostAtO actO isKeptO loadNowO byNowO rowO memoryO whoseO deepNowO brokenByO brokenAtO goesByO comesToO sagMoreO creakOfO wipedByO deepAtO sagAtO loadAtO orderRowO oftenO lossOneO lossOtherO vz11 tz12 mz13 gz14 qTa aTa (311436 : Int64) (0 : Int32) (99 : Int32) htz12 hmz13 (by show (tz12 1).toInt ≤ (tz12 0).toInt; omega)) (cwV 3 hts (gk_V (wl_mem 9 rfl) (wl_mem 10 rfl) (wl_mem 11 rfl) (wl_mem 3 rfl) (fun w h => List.mem_cons_of_mem _ (List.mem_append_right _ (List.mem_append_right _ (List.mem_append_right _ (List.mem_append_right _ (List.mem_append_left _ h)))))) wkg_c_X12_number_) rfl rfl rfl (by decide +kernel) ⟨Nat.le_of_ble_eq_true rfl, Nat.le_of_ble_eq_true rfl⟩) ⟨fun a U g mk q => by obtain ⟨q0, q1, qP, qK, qD⟩ := q; exact ⟨q0, q1, qP, va_K.moved (u := U) (U := U.calling g mk a) (Vm.Alike.refl U.vm) qK, qD⟩, va_recv hK hPc (ci := 12) (q0 := 0) rfl rfl, fun U hU hW => ⟨rfl, by rw [hU], by rw [hU]; exact hPc, va_K.moved hW.alike hK, hDc.weaken (fun _ _ _ _ => trivial)⟩⟩ rfl rfl hl.1 rfl (lv_room (Nat.le_of_ble_eq_true rfl)) dX12_wardLine_35 ⟨Nat.le_of_ble_eq_true rfl, Nat.le_of_ble_eq_true rfl⟩) hS (fun q _ h => hFc q h) hFc (fun rz24 u t H1 locs ht hvm gz23 hB hz1 hk1 hS => ?_)
  obtain ⟨vz25, tz26, mz27, gz28, htz26, hmz27, pz29, pz30, pz31, hP1⟩ := hB
  rw [ht] at hP1
  obtain ⟨hP, hD⟩ := w_callR hP hD hk1 hP1 [0] rfl rfl (wk_memC [3] rfl) rfl [some 0, none, none] rfl rfl
  clear hPc hC hDc hFc hk1 hP1
  generalize H1 = H at hP hS ⊢
  have hP : va_P (dC, dI) vwCl (List.flatten [(wMO qO k widthO manyO cellsO movedO (qTa 0) linesO (qHa 0) bridgeO cartO (qWa 0) frostAtO actO isKeptO loadNowO byNowO rowO memoryO whoseO deepNowO brokenByO brokenAtO goesByO comesToO sagMoreO creakOfO wipedByO deepAtO sagAtO loadAtO orderRowO oftenO lossOneO lossOtherO vz25 tz26 mz27 gz28), (wmHa qHa k hHa), (wmWa qWa k (va_up jWa 0 fz19))] ++ List.flatten [(wmTa qTa k aTa)]) H := hP
  have hD : va_D A (List.flatten [(wMO qO k widthO manyO cellsO movedO (qTa 0) linesO (qHa 0) bridgeO cartO (qWa 0) frostAtO actO isKeptO loadNowO byNowO rowO memoryO whoseO deepNowO brokenByO brokenAtO goesByO comesToO sagMoreO creakOfO wipedByO deepAtO sagAtO loadAtO orderRowO oftenO lossOneO lossOtherO vz25 tz26 mz27 gz28), (wmHa qHa k hHa), (wmWa qWa k (va_up jWa 0 fz19))] ++ List.flatten [(wmTa qTa k aTa)]) := hD
  refine W.widen (k := 0) (n := 0) (Nat.le_refl 0) (Nat.le_refl 0) ?_
  have pz29 : (tz26 0).toInt = (tz12 0).toInt := pz29
  have pz30 : (tz26 1).toInt ≤ (tz12 0).toInt := pz30
  have pz31 : (tz12 1).toInt ≤ (tz26 1).toInt := pz31
  have pz32 := gz23
  have pz32 : rz24.toInt = (0 : Int) ∨ ((0 : Int) ≤ rz24.toInt ∧ rz24.toInt ≤ (99 : Int)) := pz32
  refine va_iast hx hb hK hP hD hS 2 0 rfl rfl (vp_in_iff.mpr ⟨by omega, by omega⟩) dX12_wardLine_38 (fun H locs hP hD hS => ?_)
  obtain ⟨fz33, efz33, hP, hD⟩ : ∃ fz33 : Nat → Int32, fz33 = upd fz19 xz20.toNatClampNeg rz24 ∧ va_P (dC, dI) vwCl (List.flatten [(wMO qO k widthO manyO cellsO movedO (qTa 0) linesO (qHa 0) bridgeO cartO (qWa 0) frostAtO actO isKeptO loadNowO byNowO rowO memoryO whoseO deepNowO brokenByO brokenAtO goesByO comesToO sagMoreO creakOfO wipedByO deepAtO sagAtO loadAtO orderRowO oftenO lossOneO lossOtherO vz25 tz26 mz27 gz28), (wmHa qHa k hHa), (wmWa qWa k (va_up jWa 0 fz33))] ++ List.flatten [(wmTa qTa k aTa)]) H ∧ va_D A (List.flatten [(wMO qO k widthO manyO cellsO movedO (qTa 0) linesO (qHa 0) bridgeO cartO (qWa 0) frostAtO actO isKeptO loadNowO byNowO rowO memoryO whoseO deepNowO brokenByO brokenAtO goesByO comesToO sagMoreO creakOfO wipedByO deepAtO sagAtO loadAtO orderRowO oftenO lossOneO lossOtherO vz25 tz26 mz27 gz28), (wmHa qHa k hHa), (wmWa qWa k (va_up jWa 0 fz33))] ++ List.flatten [(wmTa qTa k aTa)]) := ⟨_, rfl, hP, hD⟩
  have hfz33 : Pd_j fz33 := by rw [efz33]; exact md_upd hfz19 (by show 0 ≤ xz20.toInt; omega) (by show xz20.toInt % 3 = 2 → (-1) ≤ rz24.toInt ∧ rz24.toInt ≤ 2; omega)
  have kfz33 : fz33 xz20.toNatClampNeg = rz24 := by rw [efz33]; exact pk_us
  refine lv_aload_n hx hb dX12_wardLine_39 rfl (lv_at hl 1 rfl) ?_
  refine lv_ldc2 (v := 555) hx hb hown (hts (.constantLong RX12 221 (555)) (wl_mem 12 rfl)) dX12_wardLine_40 ?_
  have bz34 := htz26 1
  have bz35 := htz26 0
  have hPc := hP.sub (ws' := (List.flatten [(wMO qO k widthO manyO cellsO movedO (qTa 0) linesO (qHa 0) bridgeO cartO (qWa 0) frostAtO actO isKeptO loadNowO byNowO rowO memoryO whoseO deepNowO brokenByO brokenAtO goesByO comesToO sagMoreO creakOfO wipedByO deepAtO sagAtO loadAtO orderRowO oftenO lossOneO lossOtherO vz25 tz26 mz27 gz28)] ++ List.flatten [(wmTa qTa k aTa)])) [0, 3] rfl
  have hC : [0, 3].map (fun i => (List.flatten [(wMO qO k widthO manyO cellsO movedO (qTa 0) linesO (qHa 0) bridgeO cartO (qWa 0) frostAtO actO isKeptO loadNowO byNowO rowO memoryO whoseO deepNowO brokenByO brokenAtO goesByO comesToO sagMoreO creakOfO wipedByO deepAtO sagAtO loadAtO orderRowO oftenO lossOneO lossOtherO vz25 tz26 mz27 gz28), (wmHa qHa k hHa), (wmWa qWa k (va_up jWa 0 fz33))] ++ List.flatten [(wmTa qTa k aTa)])[i]?) = (List.flatten [(wMO qO k widthO manyO cellsO movedO (qTa 0) linesO (qHa 0) bridgeO cartO (qWa 0) frostAtO actO isKeptO loadNowO byNowO rowO memoryO whoseO deepNowO brokenByO brokenAtO goesByO comesToO sagMoreO creakOfO wipedByO deepAtO sagAtO loadAtO orderRowO oftenO lossOneO lossOtherO vz25 tz26 mz27 gz28)] ++ List.flatten [(wmTa qTa k aTa)]).map some := rfl
  have hDc := hD.sub [0, 3] (by decide) hC
  have hFc := va_free hD hS hA [0, 3] hC
  refine va_callv (va_runV (As := [.long 555]) (rest := []) ⟨hx, hb, hml, hown, hts⟩ (c_X12_asks l dC dI k H.size qO widthO manyO cellsO movedO linesO (qHa 0) bridgeO cartO (qWa 0) frostAtO actO isKeptO loadNowO byNowO rowO memoryO whoseO deepNowO brokenByO brokenAtO goesByO comesToO sagMoreO creakOfO wipedByO deepAtO sagAtO loadAtO orderRowO oftenO lossOneO lossOtherO vz25 tz26 mz27 gz28 qTa aTa (555 : Int64) htz26 hmz27 (by show (tz26 1).toInt ≤ (tz26 0).toInt; omega)) (cwV 1 hts (gk_V (wl_mem 13 rfl) (wl_mem 14 rfl) (wl_mem 15 rfl) (wl_mem 3 rfl) (fun w h => List.mem_cons_of_mem _ (List.mem_append_right _ (List.mem_append_right _ (List.mem_append_right _ (List.mem_append_right _ (List.mem_append_right _ (List.mem_append_left _ h))))))) wkg_c_X12_asks) rfl rfl rfl (by decide +kernel) ⟨Nat.le_of_ble_eq_true rfl, Nat.le_of_ble_eq_true rfl⟩) ⟨fun a U g mk q => by obtain ⟨q0, q1, qP, qK, qD⟩ := q; exact ⟨q0, q1, qP, va_K.moved (u := U) (U := U.calling g mk a) (Vm.Alike.refl U.vm) qK, qD⟩, va_recv hK hPc (ci := 12) (q0 := 0) rfl rfl, fun U hU hW => ⟨rfl, by rw [hU], by rw [hU]; exact hPc, va_K.moved hW.alike hK, hDc.weaken (fun _ _ _ _ => trivial)⟩⟩ rfl rfl hl.1 rfl (lv_room (Nat.le_of_ble_eq_true rfl)) dX12_wardLine_43 ⟨Nat.le_of_ble_eq_true rfl, Nat.le_of_ble_eq_true rfl⟩) hS (fun q _ h => hFc q h) hFc (fun u t H1 locs ht hvm gz36 hB hz1 hk1 hS => ?_)
  obtain ⟨vz38, tz39, mz40, gz41, htz39, hmz40, pz42, pz43, pz44, hP1⟩ := hB
  rw [ht] at hP1
  obtain ⟨hP, hD⟩ := w_callR hP hD hk1 hP1 [0] rfl rfl (wk_memC [3] rfl) rfl [some 0, none, none] rfl rfl
  clear hPc hC hDc hFc hk1 hP1
  generalize H1 = H at hP hS ⊢
  have hP : va_P (dC, dI) vwCl (List.flatten [(wMO qO k widthO manyO cellsO movedO (qTa 0) linesO (qHa 0) bridgeO cartO (qWa 0) frostAtO actO isKeptO loadNowO byNowO rowO memoryO whoseO deepNowO brokenByO brokenAtO goesByO comesToO sagMoreO creakOfO wipedByO deepAtO sagAtO loadAtO orderRowO oftenO lossOneO lossOtherO vz38 tz39 mz40 gz41), (wmHa qHa k hHa), (wmWa qWa k (va_up jWa 0 fz33))] ++ List.flatten [(wmTa qTa k aTa)]) H := hP
  have hD : va_D A (List.flatten [(wMO qO k widthO manyO cellsO movedO (qTa 0) linesO (qHa 0) bridgeO cartO (qWa 0) frostAtO actO isKeptO loadNowO byNowO rowO memoryO whoseO deepNowO brokenByO brokenAtO goesByO comesToO sagMoreO creakOfO wipedByO deepAtO sagAtO loadAtO orderRowO oftenO lossOneO lossOtherO vz38 tz39 mz40 gz41), (wmHa qHa k hHa), (wmWa qWa k (va_up jWa 0 fz33))] ++ List.flatten [(wmTa qTa k aTa)]) := hD
  refine W.widen (k := 0) (n := 0) (Nat.le_refl 0) (Nat.le_refl 0) ?_
  have pz42 : (tz39 0).toInt = (tz26 0).toInt := pz42
  have pz43 : (tz39 1).toInt ≤ (tz26 0).toInt := pz43
  have pz44 : (tz26 1).toInt ≤ (tz39 1).toInt := pz44
  refine lv_aload_n hx hb dX12_wardLine_46 rfl (lv_at hl 1 rfl) ?_
  refine va_get (D := (dC, dI)) (ci := 12) (v := .int (vz38 4)) (C := RX12) (T := TX12) (N := 59) hx hb hts (fun w h => List.mem_cons_of_mem _ (List.mem_append_right _ (List.mem_append_right _ (List.mem_append_left _ h)))) hown hK hP 0 rfl rfl 12 (by decide) (hts (.fieldLink RX12 168 "SagMemoryModel" "bad" "I") (wl_mem 16 rfl)) (fun _ h9 => h9) rfl dX12_wardLine_47 ?_
  have ct120_kz159 : ∀ (H : Heap) (locs : List Loc) (ls : Array Slot) (gz154 : Nat → Int64) (mz155 : Nat → Int32) (tz156 : Nat → Int32) (vz157 : Nat → Int32) (jz158 : Nat → Nat → Int32), Rg (-1) 127 mz155 → Rg 0 700 tz156 → Pa_j jz158 → (tz156 0).toInt = (tO 0).toInt → (tz156 1).toInt ≤ (tz156 0).toInt → (tO 1).toInt ≤ (tz156 1).toInt → va_P (dC, dI) vwCl (List.flatten [(wMO qO k widthO manyO cellsO movedO (qTa 0) linesO (qHa 0) bridgeO cartO (qWa 0) frostAtO actO isKeptO loadNowO byNowO rowO memoryO whoseO deepNowO brokenByO brokenAtO goesByO comesToO sagMoreO creakOfO wipedByO deepAtO sagAtO loadAtO orderRowO oftenO lossOneO lossOtherO vz157 tz156 mz155 gz154), (wmHa qHa k hHa), (wmWa qWa k jz158)] ++ List.flatten [(wmTa qTa k aTa)]) H → va_D A (List.flatten [(wMO qO k widthO manyO cellsO movedO (qTa 0) linesO (qHa 0) bridgeO cartO (qWa 0) frostAtO actO isKeptO loadNowO byNowO rowO memoryO whoseO deepNowO brokenByO brokenAtO goesByO comesToO sagMoreO creakOfO wipedByO deepAtO sagAtO loadAtO orderRowO oftenO lossOneO lossOtherO vz157 tz156 mz155 gz154), (wmHa qHa k hHa), (wmWa qWa k jz158)] ++ List.flatten [(wmTa qTa k aTa)]) → va_S A s.heap H locs → lv_has ls 2 [(0, .ref (qO 0))] → W p l e (headSpec wk_c_X12_wardLine ({ frames := 5, cells := 0, slots := 0, locals := 112 })).room s m ([.ref (qO 0)] : List Value).toArray below meth c H locs 0 0 Q (F0 m 120 ls []) := by
    intro H locs ls gz154 mz155 tz156 vz157 jz158 hmz155 htz156 hjz158 jz160 jz161 jz162 hP hD hS hl
    refine lv_aload_n hx hb dX12_wardLine_120 rfl (lv_at hl 0 rfl) ?_
    refine lv_iconst (v := 5) hx hb dX12_wardLine_121 (by decide) ?_
    refine lv_aload_n hx hb dX12_wardLine_122 rfl (lv_at hl 0 rfl) ?_
    refine lv_iconst (v := 5) hx hb dX12_wardLine_123 (by decide) ?_
    have hPc := hP.sub (ws' := (List.flatten [(wMO qO k widthO manyO cellsO movedO (qTa 0) linesO (qHa 0) bridgeO cartO (qWa 0) frostAtO actO isKeptO loadNowO byNowO rowO memoryO whoseO deepNowO brokenByO brokenAtO goesByO comesToO sagMoreO creakOfO wipedByO deepAtO sagAtO loadAtO orderRowO oftenO lossOneO lossOtherO vz157 tz156 mz155 gz154), (wmHa qHa k hHa)])) [0, 1] rfl
    refine vp_callSi (va_Run.run (va_runV (As := [.int 5]) (rest := [.int 5, .ref (qO 0)]) ⟨hx, hb, hml, hown, hts⟩ (c_hasRead_5 l dC dI k qO widthO manyO cellsO movedO (qTa 0) linesO bridgeO cartO (qWa 0) frostAtO actO isKeptO loadNowO byNowO rowO memoryO whoseO deepNowO brokenByO brokenAtO goesByO comesToO sagMoreO creakOfO wipedByO deepAtO sagAtO loadAtO orderRowO oftenO lossOneO lossOtherO vz157 tz156 mz155 gz154 qHa hHa htz156 hmz155 hhHa) (cwV 1 hts (gk_V (wl_mem 0 rfl) (wl_mem 1 rfl) (wl_mem 2 rfl) (wl_mem 3 rfl) (fun w h => List.mem_cons_of_mem _ (List.mem_append_right _ (List.mem_append_left _ h))) wkg_c_hasRead_5) rfl rfl rfl (by decide +kernel) ⟨Nat.le_of_ble_eq_true rfl, Nat.le_of_ble_eq_true rfl⟩) ⟨fun a U g mk q => by obtain ⟨q0, qP, qK⟩ := q; exact ⟨q0, qP, va_K.moved (u := U) (U := U.calling g mk a) (Vm.Alike.refl U.vm) qK⟩, va_recv hK hPc (ci := 12) (q0 := 0) rfl rfl, fun U hU hW => ⟨rfl, by rw [hU]; exact hPc, va_K.moved hW.alike hK⟩⟩ rfl rfl hl.1 rfl (lv_room (Nat.le_of_ble_eq_true rfl)) dX12_wardLine_124 ⟨Nat.le_of_ble_eq_true rfl, Nat.le_of_ble_eq_true rfl⟩)) (fun rz164 gz163 => ?_)
    clear hPc
    obtain ⟨pz165, pz166⟩ := gz163
    have pz165 : 0 ≤ rz164.toInt ∧ rz164.toInt ≤ 5 := pz165
    have pz166 : rz164.toInt = ((hHa 0) 37).toInt := pz166
    refine lv_iconst (v := 1) hx hb dX12_wardLine_127 (by decide) ?_
    refine lv_iadd hx hb dX12_wardLine_128 ?_
    refine lv_topi (fun xz167 exz167 => ?_)
    have fxz167 : xz167.toInt = rz164.toInt + (1 : Int) := by rw [exz167]; exact fb_addI (x := rz164) (y := (1 : Int32)) (by show -2147483648 ≤ rz164.toInt + (1 : Int); omega) (by show rz164.toInt + (1 : Int) < 2147483648; omega)
    have hPc := hP.sub (ws' := (List.flatten [(wmHa qHa k hHa)] ++ List.flatten [(wMO qO k widthO manyO cellsO movedO (qTa 0) linesO (qHa 0) bridgeO cartO (qWa 0) frostAtO actO isKeptO loadNowO byNowO rowO memoryO whoseO deepNowO brokenByO brokenAtO goesByO comesToO sagMoreO creakOfO wipedByO deepAtO sagAtO loadAtO orderRowO oftenO lossOneO lossOtherO vz157 tz156 mz155 gz154)])) [1, 0] rfl
    have hC : [1, 0].map (fun i => (List.flatten [(wMO qO k widthO manyO cellsO movedO (qTa 0) linesO (qHa 0) bridgeO cartO (qWa 0) frostAtO actO isKeptO loadNowO byNowO rowO memoryO whoseO deepNowO brokenByO brokenAtO goesByO comesToO sagMoreO creakOfO wipedByO deepAtO sagAtO loadAtO orderRowO oftenO lossOneO lossOtherO vz157 tz156 mz155 gz154), (wmHa qHa k hHa), (wmWa qWa k jz158)] ++ List.flatten [(wmTa qTa k aTa)])[i]?) = (List.flatten [(wmHa qHa k hHa)] ++ List.flatten [(wMO qO k widthO manyO cellsO movedO (qTa 0) linesO (qHa 0) bridgeO cartO (qWa 0) frostAtO actO isKeptO loadNowO byNowO rowO memoryO whoseO deepNowO brokenByO brokenAtO goesByO comesToO sagMoreO creakOfO wipedByO deepAtO sagAtO loadAtO orderRowO oftenO lossOneO lossOtherO vz157 tz156 mz155 gz154)]).map some := rfl
    have hDc := hD.sub [1, 0] (by decide) hC
    have hFc := va_free hD hS hA [1, 0] hC
    refine va_callv (va_runV (As := [.int 5, .int xz167]) (rest := []) ⟨hx, hb, hml, hown, hts⟩ (c_tells_5 l dC dI k H.size qO widthO manyO cellsO movedO (qTa 0) linesO bridgeO cartO (qWa 0) frostAtO actO isKeptO loadNowO byNowO rowO memoryO whoseO deepNowO brokenByO brokenAtO goesByO comesToO sagMoreO creakOfO wipedByO deepAtO sagAtO loadAtO orderRowO oftenO lossOneO lossOtherO vz157 tz156 mz155 gz154 qHa hHa xz167 htz156 hmz155 hhHa (by show 0 ≤ xz167.toInt ∧ xz167.toInt ≤ 5; omega)) (cwV 2 hts (gk_V (wl_mem 26 rfl) (wl_mem 27 rfl) (wl_mem 28 rfl) (wl_mem 3 rfl) (fun w h => List.mem_cons_of_mem _ (List.mem_append_right _ (List.mem_append_right _ (List.mem_append_right _ (List.mem_append_right _ (List.mem_append_right _ (List.mem_append_right _ (List.mem_append_right _ (List.mem_append_right _ (List.mem_append_left _ h)))))))))) wkg_c_tells_5) rfl rfl rfl (by decide +kernel) ⟨Nat.le_of_ble_eq_true rfl, Nat.le_of_ble_eq_true rfl⟩) ⟨fun a U g mk q => by obtain ⟨q0, q1, qP, qK, qD⟩ := q; exact ⟨q0, q1, qP, va_K.moved (u := U) (U := U.calling g mk a) (Vm.Alike.refl U.vm) qK, qD⟩, va_recv hK hPc (ci := 12) (q0 := 1) rfl rfl, fun U hU hW => ⟨rfl, by rw [hU], by rw [hU]; exact hPc, va_K.moved hW.alike hK, hDc.weaken (fun _ _ _ _ => trivial)⟩⟩ rfl rfl hl.1 rfl (lv_room (Nat.le_of_ble_eq_true rfl)) dX12_wardLine_129 ⟨Nat.le_of_ble_eq_true rfl, Nat.le_of_ble_eq_true rfl⟩) hS (fun q _ h => hFc q h) hFc (fun u t H1 locs ht hvm gz168 hB hz1 hk1 hS => ?_)
    obtain ⟨hz170, hhz170, hP1⟩ := hB
    rw [ht] at hP1
    obtain ⟨hP, hD⟩ := w_callR hP hD hk1 hP1 [1] rfl rfl (wk_memC [0] rfl) rfl [none, some 0, none] rfl rfl
    clear hPc hC hDc hFc hk1 hP1
    generalize H1 = H at hP hS ⊢
    have hP : va_P (dC, dI) vwCl (List.flatten [(wMO qO k widthO manyO cellsO movedO (qTa 0) linesO (qHa 0) bridgeO cartO (qWa 0) frostAtO actO isKeptO loadNowO byNowO rowO memoryO whoseO deepNowO brokenByO brokenAtO goesByO comesToO sagMoreO creakOfO wipedByO deepAtO sagAtO loadAtO orderRowO oftenO lossOneO lossOtherO vz157 tz156 mz155 gz154), (wmHa qHa k hz170), (wmWa qWa k jz158)] ++ List.flatten [(wmTa qTa k aTa)]) H := hP
    have hD : va_D A (List.flatten [(wMO qO k widthO manyO cellsO movedO (qTa 0) linesO (qHa 0) bridgeO cartO (qWa 0) frostAtO actO isKeptO loadNowO byNowO rowO memoryO whoseO deepNowO brokenByO brokenAtO goesByO comesToO sagMoreO creakOfO wipedByO deepAtO sagAtO loadAtO orderRowO oftenO lossOneO lossOtherO vz157 tz156 mz155 gz154), (wmHa qHa k hz170), (wmWa qWa k jz158)] ++ List.flatten [(wmTa qTa k aTa)]) := hD
    refine W.widen (k := 0) (n := 0) (Nat.le_refl 0) (Nat.le_refl 0) ?_
    rw [hQ]
    exact W.vret hx hb hr (fun t ht hW => ⟨⟨(), rfl, trivial, vz157, tz156, mz155, gz154, hz170, jz158, htz156, hmz155, hhz170, hjz158, (by show (tz156 0).toInt = (tO 0).toInt; omega), (by show (tz156 1).toInt ≤ (tO 0).toInt; omega), (by show (tO 1).toInt ≤ (tz156 1).toInt; omega), by rw [ht]; exact hP⟩, hS.F ht⟩) hS.2.2 dX12_wardLine_132
  have ct75_kz196 : ∀ (H : Heap) (locs : List Loc) (ls : Array Slot) (gz192 : Nat → Int64) (mz193 : Nat → Int32) (tz194 : Nat → Int32) (vz195 : Nat → Int32), Rg (-1) 127 mz193 → Rg 0 700 tz194 → (tz194 0).toInt = (tO 0).toInt → (tz194 1).toInt ≤ (tz194 0).toInt → (tO 1).toInt ≤ (tz194 1).toInt → va_P (dC, dI) vwCl (List.flatten [(wMO qO k widthO manyO cellsO movedO (qTa 0) linesO (qHa 0) bridgeO cartO (qWa 0) frostAtO actO isKeptO loadNowO byNowO rowO memoryO whoseO deepNowO brokenByO brokenAtO goesByO comesToO sagMoreO creakOfO wipedByO deepAtO sagAtO loadAtO orderRowO oftenO lossOneO lossOtherO vz195 tz194 mz193 gz192), (wmHa qHa k hHa), (wmWa qWa k (va_up jWa 0 fz33))] ++ List.flatten [(wmTa qTa k aTa)]) H → va_D A (List.flatten [(wMO qO k widthO manyO cellsO movedO (qTa 0) linesO (qHa 0) bridgeO cartO (qWa 0) frostAtO actO isKeptO loadNowO byNowO rowO memoryO whoseO deepNowO brokenByO brokenAtO goesByO comesToO sagMoreO creakOfO wipedByO deepAtO sagAtO loadAtO orderRowO oftenO lossOneO lossOtherO vz195 tz194 mz193 gz192), (wmHa qHa k hHa), (wmWa qWa k (va_up jWa 0 fz33))] ++ List.flatten [(wmTa qTa k aTa)]) → va_S A s.heap H locs → lv_has ls 2 [(0, .ref (qO 0)), (1, .int xz6)] → W p l e (headSpec wk_c_X12_wardLine ({ frames := 5, cells := 0, slots := 0, locals := 112 })).room s m ([.ref (qO 0)] : List Value).toArray below meth c H locs 0 0 Q (F0 m 75 ls []) := by
    intro H locs ls gz192 mz193 tz194 vz195 hmz193 htz194 jz197 jz198 jz199 hP hD hS hl
    refine lv_aload_n hx hb dX12_wardLine_75 rfl (lv_at hl 0 rfl) ?_
    refine va_get (D := (dC, dI)) (ci := 12) (v := .int (vz195 4)) (C := RX12) (T := TX12) (N := 59) hx hb hts (fun w h => List.mem_cons_of_mem _ (List.mem_append_right _ (List.mem_append_right _ (List.mem_append_left _ h)))) hown hK hP 0 rfl rfl 12 (by decide) (hts (.fieldLink RX12 168 "SagMemoryModel" "bad" "I") (wl_mem 16 rfl)) (fun _ h9 => h9) rfl dX12_wardLine_76 ?_
    have ct108_kz227 : ∀ (H : Heap) (locs : List Loc) (ls : Array Slot) (gz223 : Nat → Int64) (mz224 : Nat → Int32) (tz225 : Nat → Int32) (vz226 : Nat → Int32), Rg (-1) 127 mz224 → Rg 0 700 tz225 → (tz225 0).toInt = (tO 0).toInt → (tz225 1).toInt ≤ (tz225 0).toInt → (tO 1).toInt ≤ (tz225 1).toInt → va_P (dC, dI) vwCl (List.flatten [(wMO qO k widthO manyO cellsO movedO (qTa 0) linesO (qHa 0) bridgeO cartO (qWa 0) frostAtO actO isKeptO loadNowO byNowO rowO memoryO whoseO deepNowO brokenByO brokenAtO goesByO comesToO sagMoreO creakOfO wipedByO deepAtO sagAtO loadAtO orderRowO oftenO lossOneO lossOtherO vz226 tz225 mz224 gz223), (wmHa qHa k hHa), (wmWa qWa k (va_up jWa 0 fz33))] ++ List.flatten [(wmTa qTa k aTa)]) H → va_D A (List.flatten [(wMO qO k widthO manyO cellsO movedO (qTa 0) linesO (qHa 0) bridgeO cartO (qWa 0) frostAtO actO isKeptO loadNowO byNowO rowO memoryO whoseO deepNowO brokenByO brokenAtO goesByO comesToO sagMoreO creakOfO wipedByO deepAtO sagAtO loadAtO orderRowO oftenO lossOneO lossOtherO vz226 tz225 mz224 gz223), (wmHa qHa k hHa), (wmWa qWa k (va_up jWa 0 fz33))] ++ List.flatten [(wmTa qTa k aTa)]) → va_S A s.heap H locs → lv_has ls 2 [(0, .ref (qO 0)), (1, .int xz6)] → W p l e (headSpec wk_c_X12_wardLine ({ frames := 5, cells := 0, slots := 0, locals := 112 })).room s m ([.ref (qO 0)] : List Value).toArray below meth c H locs 0 0 Q (F0 m 108 ls []) := by
      intro H locs ls gz223 mz224 tz225 vz226 hmz224 htz225 jz228 jz229 jz230 hP hD hS hl
      refine lv_aload_n hx hb dX12_wardLine_108 rfl (lv_at hl 0 rfl) ?_
      refine va_get (D := (dC, dI)) (ci := 12) (v := .ref (qWa 0)) (C := RX12) (T := TX12) (N := 59) hx hb hts (fun w h => List.mem_cons_of_mem _ (List.mem_append_right _ (List.mem_append_right _ (List.mem_append_left _ h)))) hown hK hP 0 rfl rfl 20 (by decide) (hts (.fieldLink RX12 43 "SagMemoryModel" "ward" "[I") (wl_mem 4 rfl)) (fun _ h9 => h9) rfl dX12_wardLine_109 ?_
      refine lv_iload_n hx hb dX12_wardLine_112 rfl (lv_at hl 1 rfl) ?_
      refine lv_iconst (v := 2) hx hb dX12_wardLine_113 (by decide) ?_
      refine lv_iadd hx hb dX12_wardLine_114 ?_
      refine lv_topi (fun xz231 exz231 => ?_)
      have fxz231 : xz231.toInt = xz6.toInt + (2 : Int) := by rw [exz231]; exact fb_addI (x := xz6) (y := (2 : Int32)) (by show -2147483648 ≤ xz6.toInt + (2 : Int); omega) (by show xz6.toInt + (2 : Int) < 2147483648; omega)
      refine lv_aload_n hx hb dX12_wardLine_115 rfl (lv_at hl 0 rfl) ?_
      have bz232 := htz225 1
      have bz233 := htz225 0
      have hPc := hP.sub (ws' := (List.flatten [(wMO qO k widthO manyO cellsO movedO (qTa 0) linesO (qHa 0) bridgeO cartO (qWa 0) frostAtO actO isKeptO loadNowO byNowO rowO memoryO whoseO deepNowO brokenByO brokenAtO goesByO comesToO sagMoreO creakOfO wipedByO deepAtO sagAtO loadAtO orderRowO oftenO lossOneO lossOtherO vz226 tz225 mz224 gz223)] ++ List.flatten [(wmTa qTa k aTa), (wmHa qHa k hHa)])) [0, 3, 1] rfl
      have hC : [0, 3, 1].map (fun i => (List.flatten [(wMO qO k widthO manyO cellsO movedO (qTa 0) linesO (qHa 0) bridgeO cartO (qWa 0) frostAtO actO isKeptO loadNowO byNowO rowO memoryO whoseO deepNowO brokenByO brokenAtO goesByO comesToO sagMoreO creakOfO wipedByO deepAtO sagAtO loadAtO orderRowO oftenO lossOneO lossOtherO vz226 tz225 mz224 gz223), (wmHa qHa k hHa), (wmWa qWa k (va_up jWa 0 fz33))] ++ List.flatten [(wmTa qTa k aTa)])[i]?) = (List.flatten [(wMO qO k widthO manyO cellsO movedO (qTa 0) linesO (qHa 0) bridgeO cartO (qWa 0) frostAtO actO isKeptO loadNowO byNowO rowO memoryO whoseO deepNowO brokenByO brokenAtO goesByO comesToO sagMoreO creakOfO wipedByO deepAtO sagAtO loadAtO orderRowO oftenO lossOneO lossOtherO vz226 tz225 mz224 gz223)] ++ List.flatten [(wmTa qTa k aTa), (wmHa qHa k hHa)]).map some := rfl
      have hDc := hD.sub [0, 3, 1] (by decide) hC
      have hFc := va_free hD hS hA [0, 3, 1] hC
      refine va_calli (va_runV (As := []) (rest := [.int xz231, .ref (qWa 0)]) ⟨hx, hb, hml, hown, hts⟩ (c_X12_bridgeHere l dC dI k H.size qO widthO manyO cellsO movedO linesO bridgeO cartO (qWa 0) frostAtO actO isKeptO loadNowO byNowO rowO memoryO whoseO deepNowO brokenByO brokenAtO goesByO comesToO sagMoreO creakOfO wipedByO deepAtO sagAtO loadAtO orderRowO oftenO lossOneO lossOtherO vz226 tz225 mz224 gz223 qTa aTa qHa hHa htz225 hmz224 hhHa (by show (tz225 1).toInt ≤ (tz225 0).toInt; omega)) (cwV 0 hts (gk_V (wl_mem 5 rfl) (wl_mem 6 rfl) (wl_mem 7 rfl) (wl_mem 3 rfl) (fun w h => List.mem_cons_of_mem _ (List.mem_append_right _ (List.mem_append_right _ (List.mem_append_right _ (List.mem_append_left _ h))))) wkg_c_X12_bridgeHere) rfl rfl rfl (by decide +kernel) ⟨Nat.le_of_ble_eq_true rfl, Nat.le_of_ble_eq_true rfl⟩) ⟨fun a U g mk q => by obtain ⟨q0, q1, qP, qK, qD⟩ := q; exact ⟨q0, q1, qP, va_K.moved (u := U) (U := U.calling g mk a) (Vm.Alike.refl U.vm) qK, qD⟩, va_recv hK hPc (ci := 12) (q0 := 0) rfl rfl, fun U hU hW => ⟨rfl, by rw [hU], by rw [hU]; exact hPc, va_K.moved hW.alike hK, hDc.weaken (fun _ _ _ _ => trivial)⟩⟩ rfl rfl hl.1 rfl (lv_room (Nat.le_of_ble_eq_true rfl)) dX12_wardLine_116 ⟨Nat.le_of_ble_eq_true rfl, Nat.le_of_ble_eq_true rfl⟩) hS (fun q _ h => hFc q h) hFc (fun rz235 u t H1 locs ht hvm gz234 hB hz1 hk1 hS => ?_)
      obtain ⟨vz236, tz237, mz238, gz239, htz237, hmz238, pz240, pz241, pz242, hP1⟩ := hB
      rw [ht] at hP1
      obtain ⟨hP, hD⟩ := w_callR hP hD hk1 hP1 [0] rfl rfl (wk_memC [3, 1] rfl) rfl [some 0, none, none] rfl rfl
      clear hPc hC hDc hFc hk1 hP1
      generalize H1 = H at hP hS ⊢
      have hP : va_P (dC, dI) vwCl (List.flatten [(wMO qO k widthO manyO cellsO movedO (qTa 0) linesO (qHa 0) bridgeO cartO (qWa 0) frostAtO actO isKeptO loadNowO byNowO rowO memoryO whoseO deepNowO brokenByO brokenAtO goesByO comesToO sagMoreO creakOfO wipedByO deepAtO sagAtO loadAtO orderRowO oftenO lossOneO lossOtherO vz236 tz237 mz238 gz239), (wmHa qHa k hHa), (wmWa qWa k (va_up jWa 0 fz33))] ++ List.flatten [(wmTa qTa k aTa)]) H := hP
      have hD : va_D A (List.flatten [(wMO qO k widthO manyO cellsO movedO (qTa 0) linesO (qHa 0) bridgeO cartO (qWa 0) frostAtO actO isKeptO loadNowO byNowO rowO memoryO whoseO deepNowO brokenByO brokenAtO goesByO comesToO sagMoreO creakOfO wipedByO deepAtO sagAtO loadAtO orderRowO oftenO lossOneO lossOtherO vz236 tz237 mz238 gz239), (wmHa qHa k hHa), (wmWa qWa k (va_up jWa 0 fz33))] ++ List.flatten [(wmTa qTa k aTa)]) := hD
      refine W.widen (k := 0) (n := 0) (Nat.le_refl 0) (Nat.le_refl 0) ?_
      have pz240 : (tz237 0).toInt = (tz225 0).toInt := pz240
      have pz241 : (tz237 1).toInt ≤ (tz225 0).toInt := pz241
      have pz242 : (tz225 1).toInt ≤ (tz237 1).toInt := pz242
      have pz243 := gz234
      have pz243 : 0 ≤ rz235.toInt ∧ rz235.toInt ≤ 2 := pz243
      refine va_iast hx hb hK hP hD hS 2 0 rfl rfl (vp_in_iff.mpr ⟨by omega, by omega⟩) dX12_wardLine_119 (fun H locs hP hD hS => ?_)
      obtain ⟨fz244, efz244, hP, hD⟩ : ∃ fz244 : Nat → Int32, fz244 = upd fz33 xz231.toNatClampNeg rz235 ∧ va_P (dC, dI) vwCl (List.flatten [(wMO qO k widthO manyO cellsO movedO (qTa 0) linesO (qHa 0) bridgeO cartO (qWa 0) frostAtO actO isKeptO loadNowO byNowO rowO memoryO whoseO deepNowO brokenByO brokenAtO goesByO comesToO sagMoreO creakOfO wipedByO deepAtO sagAtO loadAtO orderRowO oftenO lossOneO lossOtherO vz236 tz237 mz238 gz239), (wmHa qHa k hHa), (wmWa qWa k (va_up jWa 0 fz244))] ++ List.flatten [(wmTa qTa k aTa)]) H ∧ va_D A (List.flatten [(wMO qO k widthO manyO cellsO movedO (qTa 0) linesO (qHa 0) bridgeO cartO (qWa 0) frostAtO actO isKeptO loadNowO byNowO rowO memoryO whoseO deepNowO brokenByO brokenAtO goesByO comesToO sagMoreO creakOfO wipedByO deepAtO sagAtO loadAtO orderRowO oftenO lossOneO lossOtherO vz236 tz237 mz238 gz239), (wmHa qHa k hHa), (wmWa qWa k (va_up jWa 0 fz244))] ++ List.flatten [(wmTa qTa k aTa)]) := ⟨_, rfl, hP, hD⟩
      have hfz244 : Pd_j fz244 := by rw [efz244]; exact md_upd hfz33 (by show 0 ≤ xz231.toInt; omega) (by show xz231.toInt % 3 = 2 → (-1) ≤ rz235.toInt ∧ rz235.toInt ≤ 2; omega)
      have kfz244 : fz244 xz231.toNatClampNeg = rz235 := by rw [efz244]; exact pk_us
      exact ct120_kz159 H locs ls gz239 mz238 tz237 vz236 (va_up jWa 0 fz244)  hmz238 htz237 (pa_up_j hjWa hfz244) (by show (tz237 0).toInt = (tO 0).toInt; omega) (by show (tz237 1).toInt ≤ (tz237 0).toInt; omega) (by show (tO 1).toInt ≤ (tz237 1).toInt; omega) hP hD hS (lv_sub hl [0] rfl)
    refine lv_if_ne (tgt := 108) hx hb dX12_wardLine_79 (by decide) (fun cz245 => ?_) (fun cz245 => ?_)
    · skip
      have zz246 : ¬ (vz195 4).toInt = (0 : Int) := fun h9 => cz245 (zi_eq.mpr h9)
      exact ct108_kz227 H locs ls gz192 mz193 tz194 vz195  hmz193 htz194 (by show (tz194 0).toInt = (tO 0).toInt; omega) (by show (tz194 1).toInt ≤ (tz194 0).toInt; omega) (by show (tO 1).toInt ≤ (tz194 1).toInt; omega) hP hD hS (lv_sub hl [0, 1] rfl)
    · skip
      have zz247 : (vz195 4).toInt = (0 : Int) := zi_eq.mp cz245
      refine lv_aload_n hx hb dX12_wardLine_82 rfl (lv_at hl 0 rfl) ?_
      refine va_get (D := (dC, dI)) (ci := 12) (v := .int (vz195 1)) (C := RX12) (T := TX12) (N := 59) hx hb hts (fun w h => List.mem_cons_of_mem _ (List.mem_append_right _ (List.mem_append_right _ (List.mem_append_left _ h)))) hown hK hP 0 rfl rfl 8 (by decide) (hts (.fieldLink RX12 157 "SagMemoryModel" "token" "I") (wl_mem 21 rfl)) (fun _ h9 => h9) rfl dX12_wardLine_83 ?_
      refine lv_iconst (v := 2) hx hb dX12_wardLine_86 (by decide) ?_
      refine lv_icmp_ne (tgt := 108) hx hb dX12_wardLine_87 (by decide) (fun cz248 => ?_) (fun cz248 => ?_)
      · skip
        have zz249 : ¬ (vz195 1).toInt = (2 : Int) := fun h9 => cz248 (zi_eq.mpr h9)
        exact ct108_kz227 H locs ls gz192 mz193 tz194 vz195  hmz193 htz194 (by show (tz194 0).toInt = (tO 0).toInt; omega) (by show (tz194 1).toInt ≤ (tz194 0).toInt; omega) (by show (tO 1).toInt ≤ (tz194 1).toInt; omega) hP hD hS (lv_sub hl [0, 1] rfl)
      · skip
        have zz250 : (vz195 1).toInt = (2 : Int) := zi_eq.mp cz248
        refine lv_aload_n hx hb dX12_wardLine_90 rfl (lv_at hl 0 rfl) ?_
        refine va_get (D := (dC, dI)) (ci := 12) (v := .int (vz195 3)) (C := RX12) (T := TX12) (N := 59) hx hb hts (fun w h => List.mem_cons_of_mem _ (List.mem_append_right _ (List.mem_append_right _ (List.mem_append_left _ h)))) hown hK hP 0 rfl rfl 10 (by decide) (hts (.fieldLink RX12 150 "SagMemoryModel" "value" "I") (wl_mem 22 rfl)) (fun _ h9 => h9) rfl dX12_wardLine_91 ?_
        refine lv_aload_n hx hb dX12_wardLine_94 rfl (lv_at hl 0 rfl) ?_
        refine va_get (D := (dC, dI)) (ci := 12) (v := .ref (qWa 0)) (C := RX12) (T := TX12) (N := 59) hx hb hts (fun w h => List.mem_cons_of_mem _ (List.mem_append_right _ (List.mem_append_right _ (List.mem_append_left _ h)))) hown hK hP 0 rfl rfl 20 (by decide) (hts (.fieldLink RX12 43 "SagMemoryModel" "ward" "[I") (wl_mem 4 rfl)) (fun _ h9 => h9) rfl dX12_wardLine_95 ?_
        refine lv_iload_n hx hb dX12_wardLine_98 rfl (lv_at hl 1 rfl) ?_
        refine va_iald hx hb hK hP 2 0 rfl rfl (vp_in_iff.mpr ⟨by omega, by omega⟩) dX12_wardLine_99 ?_
        refine lv_topi (fun xz251 exz251 => ?_)
        have bxz251_0 : xz6.toInt % 3 = 2 → (-1) ≤ xz251.toInt ∧ xz251.toInt ≤ 2 := by rw [exz251]; exact md_rd hfz33 (by omega)
        refine lv_icmp_ne (tgt := 108) hx hb dX12_wardLine_100 (by decide) (fun cz252 => ?_) (fun cz252 => ?_)
        · skip
          have zz253 : ¬ (vz195 3).toInt = xz251.toInt := fun h9 => cz252 (zi_eq.mpr h9)
          exact ct108_kz227 H locs ls gz192 mz193 tz194 vz195  hmz193 htz194 (by show (tz194 0).toInt = (tO 0).toInt; omega) (by show (tz194 1).toInt ≤ (tz194 0).toInt; omega) (by show (tO 1).toInt ≤ (tz194 1).toInt; omega) hP hD hS (lv_sub hl [0, 1] rfl)
        · skip
          have zz254 : (vz195 3).toInt = xz251.toInt := zi_eq.mp cz252
          refine lv_aload_n hx hb dX12_wardLine_103 rfl (lv_at hl 0 rfl) ?_
          refine lv_iconst (v := 2) hx hb dX12_wardLine_104 (by decide) ?_
          have hPc := hP.sub (ws' := (List.flatten [(wMO qO k widthO manyO cellsO movedO (qTa 0) linesO (qHa 0) bridgeO cartO (qWa 0) frostAtO actO isKeptO loadNowO byNowO rowO memoryO whoseO deepNowO brokenByO brokenAtO goesByO comesToO sagMoreO creakOfO wipedByO deepAtO sagAtO loadAtO orderRowO oftenO lossOneO lossOtherO vz195 tz194 mz193 gz192)] ++ List.flatten ([] : List va_W))) [0] rfl
          have hC : [0].map (fun i => (List.flatten [(wMO qO k widthO manyO cellsO movedO (qTa 0) linesO (qHa 0) bridgeO cartO (qWa 0) frostAtO actO isKeptO loadNowO byNowO rowO memoryO whoseO deepNowO brokenByO brokenAtO goesByO comesToO sagMoreO creakOfO wipedByO deepAtO sagAtO loadAtO orderRowO oftenO lossOneO lossOtherO vz195 tz194 mz193 gz192), (wmHa qHa k hHa), (wmWa qWa k (va_up jWa 0 fz33))] ++ List.flatten [(wmTa qTa k aTa)])[i]?) = (List.flatten [(wMO qO k widthO manyO cellsO movedO (qTa 0) linesO (qHa 0) bridgeO cartO (qWa 0) frostAtO actO isKeptO loadNowO byNowO rowO memoryO whoseO deepNowO brokenByO brokenAtO goesByO comesToO sagMoreO creakOfO wipedByO deepAtO sagAtO loadAtO orderRowO oftenO lossOneO lossOtherO vz195 tz194 mz193 gz192)] ++ List.flatten ([] : List va_W)).map some := rfl
          have hDc := hD.sub [0] (by decide) hC
          have hFc := va_free hD hS hA [0] hC
          refine va_callv (va_runV (As := [.int 2]) (rest := []) ⟨hx, hb, hml, hown, hts⟩ (c_X12_fails l dC dI k H.size qO widthO manyO cellsO movedO (qTa 0) linesO (qHa 0) bridgeO cartO (qWa 0) frostAtO actO isKeptO loadNowO byNowO rowO memoryO whoseO deepNowO brokenByO brokenAtO goesByO comesToO sagMoreO creakOfO wipedByO deepAtO sagAtO loadAtO orderRowO oftenO lossOneO lossOtherO vz195 tz194 mz193 gz192 (2 : Int32) htz194 hmz193) (cwV 1 hts (gk_V (wl_mem 23 rfl) (wl_mem 24 rfl) (wl_mem 25 rfl) (wl_mem 3 rfl) (fun w h => List.mem_cons_of_mem _ (List.mem_append_right _ (List.mem_append_right _ (List.mem_append_right _ (List.mem_append_right _ (List.mem_append_right _ (List.mem_append_right _ (List.mem_append_right _ (List.mem_append_left _ h))))))))) wkg_c_X12_fails) rfl rfl rfl (by decide +kernel) ⟨Nat.le_of_ble_eq_true rfl, Nat.le_of_ble_eq_true rfl⟩) ⟨fun a U g mk q => by obtain ⟨q0, q1, qP, qK, qD⟩ := q; exact ⟨q0, q1, qP, va_K.moved (u := U) (U := U.calling g mk a) (Vm.Alike.refl U.vm) qK, qD⟩, va_recv hK hPc (ci := 12) (q0 := 0) rfl rfl, fun U hU hW => ⟨rfl, by rw [hU], by rw [hU]; exact hPc, va_K.moved hW.alike hK, hDc.weaken (fun _ _ _ _ => trivial)⟩⟩ rfl rfl hl.1 rfl (lv_room (Nat.le_of_ble_eq_true rfl)) dX12_wardLine_105 ⟨Nat.le_of_ble_eq_true rfl, Nat.le_of_ble_eq_true rfl⟩) hS (fun q _ h => hFc q h) hFc (fun u t H1 locs ht hvm gz255 hB hz1 hk1 hS => ?_)
          obtain ⟨vz257, tz258, mz259, gz260, htz258, hmz259, pz261, pz262, pz263, pz264, pz265, hP1⟩ := hB
          rw [ht] at hP1
          obtain ⟨hP, hD⟩ := w_callR hP hD hk1 hP1 [0] rfl rfl (fun _ h => absurd h List.not_mem_nil) rfl [some 0, none, none] rfl rfl
          clear hPc hC hDc hFc hk1 hP1
          generalize H1 = H at hP hS ⊢
          have hP : va_P (dC, dI) vwCl (List.flatten [(wMO qO k widthO manyO cellsO movedO (qTa 0) linesO (qHa 0) bridgeO cartO (qWa 0) frostAtO actO isKeptO loadNowO byNowO rowO memoryO whoseO deepNowO brokenByO brokenAtO goesByO comesToO sagMoreO creakOfO wipedByO deepAtO sagAtO loadAtO orderRowO oftenO lossOneO lossOtherO vz257 tz258 mz259 gz260), (wmHa qHa k hHa), (wmWa qWa k (va_up jWa 0 fz33))] ++ List.flatten [(wmTa qTa k aTa)]) H := hP
          have hD : va_D A (List.flatten [(wMO qO k widthO manyO cellsO movedO (qTa 0) linesO (qHa 0) bridgeO cartO (qWa 0) frostAtO actO isKeptO loadNowO byNowO rowO memoryO whoseO deepNowO brokenByO brokenAtO goesByO comesToO sagMoreO creakOfO wipedByO deepAtO sagAtO loadAtO orderRowO oftenO lossOneO lossOtherO vz257 tz258 mz259 gz260), (wmHa qHa k hHa), (wmWa qWa k (va_up jWa 0 fz33))] ++ List.flatten [(wmTa qTa k aTa)]) := hD
          refine W.widen (k := 0) (n := 0) (Nat.le_refl 0) (Nat.le_refl 0) ?_
          have pz261 : ((vz195 4).toInt ≠ 0 ∧ (vz257 4).toInt = (vz195 4).toInt) ∨ ((vz195 4).toInt = 0 ∧ (vz257 4).toInt = (2 : Int)) := pz261
          have pz262 : (tz258 0).toInt = (tz194 0).toInt := pz262
          have pz263 : (tz258 1).toInt = (tz194 1).toInt := pz263
          have pz264 : (vz257 1).toInt = (vz195 1).toInt := pz264
          have pz265 : (vz257 3).toInt = (vz195 3).toInt := pz265
          have bz266 := htz194 0
          have bz267 := htz194 1
          exact ct108_kz227 H locs ls gz260 mz259 tz258 vz257  hmz259 htz258 (by show (tz258 0).toInt = (tO 0).toInt; omega) (by show (tz258 1).toInt ≤ (tz258 0).toInt; omega) (by show (tO 1).toInt ≤ (tz258 1).toInt; omega) hP hD hS (lv_sub hl [0, 1] rfl)
  refine lv_if_ne (tgt := 75) hx hb dX12_wardLine_50 (by decide) (fun cz268 => ?_) (fun cz268 => ?_)
  · skip
    have zz269 : ¬ (vz38 4).toInt = (0 : Int) := fun h9 => cz268 (zi_eq.mpr h9)
    exact ct75_kz196 H locs ls gz41 mz40 tz39 vz38  hmz40 htz39 (by show (tz39 0).toInt = (tO 0).toInt; omega) (by show (tz39 1).toInt ≤ (tz39 0).toInt; omega) (by show (tO 1).toInt ≤ (tz39 1).toInt; omega) hP hD hS (lv_sub hl [1, 0] rfl)
  · skip
    have zz270 : (vz38 4).toInt = (0 : Int) := zi_eq.mp cz268
    refine lv_aload_n hx hb dX12_wardLine_53 rfl (lv_at hl 1 rfl) ?_
    refine lv_ldc2 (v := 158537) hx hb hown (hts (.constantLong RX12 223 (158537)) (wl_mem 17 rfl)) dX12_wardLine_54 ?_
    have bz271 := htz39 1
    have bz272 := htz39 0
    have hPc := hP.sub (ws' := (List.flatten [(wMO qO k widthO manyO cellsO movedO (qTa 0) linesO (qHa 0) bridgeO cartO (qWa 0) frostAtO actO isKeptO loadNowO byNowO rowO memoryO whoseO deepNowO brokenByO brokenAtO goesByO comesToO sagMoreO creakOfO wipedByO deepAtO sagAtO loadAtO orderRowO oftenO lossOneO lossOtherO vz38 tz39 mz40 gz41)] ++ List.flatten [(wmTa qTa k aTa)])) [0, 3] rfl
    have hC : [0, 3].map (fun i => (List.flatten [(wMO qO k widthO manyO cellsO movedO (qTa 0) linesO (qHa 0) bridgeO cartO (qWa 0) frostAtO actO isKeptO loadNowO byNowO rowO memoryO whoseO deepNowO brokenByO brokenAtO goesByO comesToO sagMoreO creakOfO wipedByO deepAtO sagAtO loadAtO orderRowO oftenO lossOneO lossOtherO vz38 tz39 mz40 gz41), (wmHa qHa k hHa), (wmWa qWa k (va_up jWa 0 fz33))] ++ List.flatten [(wmTa qTa k aTa)])[i]?) = (List.flatten [(wMO qO k widthO manyO cellsO movedO (qTa 0) linesO (qHa 0) bridgeO cartO (qWa 0) frostAtO actO isKeptO loadNowO byNowO rowO memoryO whoseO deepNowO brokenByO brokenAtO goesByO comesToO sagMoreO creakOfO wipedByO deepAtO sagAtO loadAtO orderRowO oftenO lossOneO lossOtherO vz38 tz39 mz40 gz41)] ++ List.flatten [(wmTa qTa k aTa)]).map some := rfl
    have hDc := hD.sub [0, 3] (by decide) hC
    have hFc := va_free hD hS hA [0, 3] hC
    refine va_calli (va_runV (As := [.long 158537]) (rest := []) ⟨hx, hb, hml, hown, hts⟩ (c_X12_takes l dC dI k H.size qO widthO manyO cellsO movedO linesO (qHa 0) bridgeO cartO (qWa 0) frostAtO actO isKeptO loadNowO byNowO rowO memoryO whoseO deepNowO brokenByO brokenAtO goesByO comesToO sagMoreO creakOfO wipedByO deepAtO sagAtO loadAtO orderRowO oftenO lossOneO lossOtherO vz38 tz39 mz40 gz41 qTa aTa (158537 : Int64) htz39 hmz40 (by show (tz39 1).toInt ≤ (tz39 0).toInt; omega)) (cwV 1 hts (gk_V (wl_mem 18 rfl) (wl_mem 19 rfl) (wl_mem 20 rfl) (wl_mem 3 rfl) (fun w h => List.mem_cons_of_mem _ (List.mem_append_right _ (List.mem_append_right _ (List.mem_append_right _ (List.mem_append_right _ (List.mem_append_right _ (List.mem_append_right _ (List.mem_append_left _ h)))))))) wkg_c_X12_takes) rfl rfl rfl (by decide +kernel) ⟨Nat.le_of_ble_eq_true rfl, Nat.le_of_ble_eq_true rfl⟩) ⟨fun a U g mk q => by obtain ⟨q0, q1, qP, qK, qD⟩ := q; exact ⟨q0, q1, qP, va_K.moved (u := U) (U := U.calling g mk a) (Vm.Alike.refl U.vm) qK, qD⟩, va_recv hK hPc (ci := 12) (q0 := 0) rfl rfl, fun U hU hW => ⟨rfl, by rw [hU], by rw [hU]; exact hPc, va_K.moved hW.alike hK, hDc.weaken (fun _ _ _ _ => trivial)⟩⟩ rfl rfl hl.1 rfl (lv_room (Nat.le_of_ble_eq_true rfl)) dX12_wardLine_57 ⟨Nat.le_of_ble_eq_true rfl, Nat.le_of_ble_eq_true rfl⟩) hS (fun q _ h => hFc q h) hFc (fun rz274 u t H1 locs ht hvm gz273 hB hz1 hk1 hS => ?_)
    obtain ⟨vz275, tz276, mz277, gz278, htz276, hmz277, pz279, pz280, pz281, pz282, hP1⟩ := hB
    rw [ht] at hP1
    obtain ⟨hP, hD⟩ := w_callR hP hD hk1 hP1 [0] rfl rfl (wk_memC [3] rfl) rfl [some 0, none, none] rfl rfl
    clear hPc hC hDc hFc hk1 hP1
    generalize H1 = H at hP hS ⊢
    have hP : va_P (dC, dI) vwCl (List.flatten [(wMO qO k widthO manyO cellsO movedO (qTa 0) linesO (qHa 0) bridgeO cartO (qWa 0) frostAtO actO isKeptO loadNowO byNowO rowO memoryO whoseO deepNowO brokenByO brokenAtO goesByO comesToO sagMoreO creakOfO wipedByO deepAtO sagAtO loadAtO orderRowO oftenO lossOneO lossOtherO vz275 tz276 mz277 gz278), (wmHa qHa k hHa), (wmWa qWa k (va_up jWa 0 fz33))] ++ List.flatten [(wmTa qTa k aTa)]) H := hP
    have hD : va_D A (List.flatten [(wMO qO k widthO manyO cellsO movedO (qTa 0) linesO (qHa 0) bridgeO cartO (qWa 0) frostAtO actO isKeptO loadNowO byNowO rowO memoryO whoseO deepNowO brokenByO brokenAtO goesByO comesToO sagMoreO creakOfO wipedByO deepAtO sagAtO loadAtO orderRowO oftenO lossOneO lossOtherO vz275 tz276 mz277 gz278), (wmHa qHa k hHa), (wmWa qWa k (va_up jWa 0 fz33))] ++ List.flatten [(wmTa qTa k aTa)]) := hD
    refine W.widen (k := 0) (n := 0) (Nat.le_refl 0) (Nat.le_refl 0) ?_
    have pz279 : (tz276 0).toInt = (tz39 0).toInt := pz279
    have pz280 : (tz276 1).toInt ≤ (tz39 0).toInt := pz280
    have pz281 : (tz39 1).toInt ≤ (tz276 1).toInt := pz281
    have pz282 : (vz275 4).toInt = (vz38 4).toInt := pz282
    have pz283 := gz273
    have pz283 : rz274.toInt = 0 ∨ rz274.toInt = 1 := pz283
    refine lv_if_eq (tgt := 75) hx hb dX12_wardLine_60 (by decide) (fun cz284 => ?_) (fun cz284 => ?_)
    · skip
      have zz285 : rz274.toInt = (0 : Int) := zi_eq.mp cz284
      exact ct75_kz196 H locs ls gz278 mz277 tz276 vz275  hmz277 htz276 (by show (tz276 0).toInt = (tO 0).toInt; omega) (by show (tz276 1).toInt ≤ (tz276 0).toInt; omega) (by show (tO 1).toInt ≤ (tz276 1).toInt; omega) hP hD hS (lv_sub hl [1, 0] rfl)
    · skip
      have zz286 : ¬ rz274.toInt = (0 : Int) := fun h9 => cz284 (zi_eq.mpr h9)
      refine lv_aload_n hx hb dX12_wardLine_63 rfl (lv_at hl 1 rfl) ?_
      refine va_get (D := (dC, dI)) (ci := 12) (v := .ref (qWa 0)) (C := RX12) (T := TX12) (N := 59) hx hb hts (fun w h => List.mem_cons_of_mem _ (List.mem_append_right _ (List.mem_append_right _ (List.mem_append_left _ h)))) hown hK hP 0 rfl rfl 20 (by decide) (hts (.fieldLink RX12 43 "SagMemoryModel" "ward" "[I") (wl_mem 4 rfl)) (fun _ h9 => h9) rfl dX12_wardLine_64 ?_
      refine lv_iload_n hx hb dX12_wardLine_67 rfl (lv_at hl 0 rfl) ?_
      refine lv_iconst (v := 2) hx hb dX12_wardLine_68 (by decide) ?_
      refine lv_iadd hx hb dX12_wardLine_69 ?_
      refine lv_topi (fun xz287 exz287 => ?_)
      have fxz287 : xz287.toInt = xz6.toInt + (2 : Int) := by rw [exz287]; exact fb_addI (x := xz6) (y := (2 : Int32)) (by show -2147483648 ≤ xz6.toInt + (2 : Int); omega) (by show xz6.toInt + (2 : Int) < 2147483648; omega)
      refine lv_iconst (v := (-1)) hx hb dX12_wardLine_70 (by decide) ?_
      refine va_iast hx hb hK hP hD hS 2 0 rfl rfl (vp_in_iff.mpr ⟨by omega, by omega⟩) dX12_wardLine_71 (fun H locs hP hD hS => ?_)
      obtain ⟨fz288, efz288, hP, hD⟩ : ∃ fz288 : Nat → Int32, fz288 = upd fz33 xz287.toNatClampNeg (-1 : Int32) ∧ va_P (dC, dI) vwCl (List.flatten [(wMO qO k widthO manyO cellsO movedO (qTa 0) linesO (qHa 0) bridgeO cartO (qWa 0) frostAtO actO isKeptO loadNowO byNowO rowO memoryO whoseO deepNowO brokenByO brokenAtO goesByO comesToO sagMoreO creakOfO wipedByO deepAtO sagAtO loadAtO orderRowO oftenO lossOneO lossOtherO vz275 tz276 mz277 gz278), (wmHa qHa k hHa), (wmWa qWa k (va_up jWa 0 fz288))] ++ List.flatten [(wmTa qTa k aTa)]) H ∧ va_D A (List.flatten [(wMO qO k widthO manyO cellsO movedO (qTa 0) linesO (qHa 0) bridgeO cartO (qWa 0) frostAtO actO isKeptO loadNowO byNowO rowO memoryO whoseO deepNowO brokenByO brokenAtO goesByO comesToO sagMoreO creakOfO wipedByO deepAtO sagAtO loadAtO orderRowO oftenO lossOneO lossOtherO vz275 tz276 mz277 gz278), (wmHa qHa k hHa), (wmWa qWa k (va_up jWa 0 fz288))] ++ List.flatten [(wmTa qTa k aTa)]) := ⟨_, rfl, hP, hD⟩
      have hfz288 : Pd_j fz288 := by rw [efz288]; exact md_upd hfz33 (by show 0 ≤ xz287.toInt; omega) (by show xz287.toInt % 3 = 2 → (-1) ≤ (-1 : Int) ∧ (-1 : Int) ≤ 2; omega)
      have kfz288 : fz288 xz287.toNatClampNeg = (-1 : Int32) := by rw [efz288]; exact pk_us
      refine lv_goto (tgt := 120) hx hb dX12_wardLine_72 (by decide) ?_
      exact ct120_kz159 H locs ls gz278 mz277 tz276 vz275 (va_up jWa 0 fz288)  hmz277 htz276 (pa_up_j hjWa hfz288) (by show (tz276 0).toInt = (tO 0).toInt; omega) (by show (tz276 1).toInt ≤ (tz276 0).toInt; omega) (by show (tO 1).toInt ≤ (tz276 1).toInt; omega) hP hD hS (lv_sub hl [1] rfl)
