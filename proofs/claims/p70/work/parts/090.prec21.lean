set_option maxHeartbeats 4000000 in
set_option maxRecDepth 100000 in
theorem c_X12_back_x (l : Launch) (dC : Nat → ClassId) (dI : Nat → Nat → Nat) (k : Nat → ClassId) (sz : Nat) (qO : Nat → Nat) (widthO : Nat) (manyO : Nat) (cellsO : Nat) (movedO : Nat) (tapeO : Nat) (loadNowO : Nat) (byNowO : Nat) (rowO : Nat) (memoryO : Nat) (whoseO : Nat) (deepNowO : Nat) (brokenByO : Nat) (brokenAtO : Nat) (goesByO : Nat) (comesToO : Nat) (sagMoreO : Nat) (creakOfO : Nat) (wipedByO : Nat) (deepAtO : Nat) (sagAtO : Nat) (loadAtO : Nat) (orderRowO : Nat) (oftenO : Nat) (lossOneO : Nat) (lossOtherO : Nat) (vO : Nat → Int32) (tO : Nat → Int32) (mO : Nat → Int32) (gO : Nat → Int64) (qLi : Nat → Nat) (aLi : Nat → Nat → Int32) (qHa : Nat → Nat) (hHa : Nat → Nat → Int32) (qBr : Nat → Nat) (aBr : Nat → Nat → Int32) (qCa : Nat → Nat) (pCa : Nat → Nat → Int32) (qWa : Nat → Nat) (jWa : Nat → Nat → Int32) (qFr : Nat → Nat) (aFr : Nat → Nat → Int32) (qAc : Nat → Nat) (iAc : Nat → Nat → Int32) (qIk : Nat → Nat) (aIk : Nat → Nat → Int32) (p1 : Int32) (htO : Rg 0 700 tO) (hmO : Rg (-1) 127 mO) (hhHa : Pa_h hHa) (hpCa : Pa_p pCa) (hjWa : Pa_j jWa) (hiAc : Pa_i iAc) : Met l yX12_back wk_c_X12_back_x ({ frames := 2, cells := 0, slots := 0, locals := 46 }) (va_Pc [.ref (qO 0), .int p1] (fun U => U.heap.size = sz ∧ va_P (dC, dI) vwCl (List.flatten [(wMO qO k widthO manyO cellsO movedO tapeO (qLi 0) (qHa 0) (qBr 0) (qCa 0) (qWa 0) (qFr 0) (qAc 0) (qIk 0) loadNowO byNowO rowO memoryO whoseO deepNowO brokenByO brokenAtO goesByO comesToO sagMoreO creakOfO wipedByO deepAtO sagAtO loadAtO orderRowO oftenO lossOneO lossOtherO vO tO mO gO), (wmLi qLi k aLi), (wmHa qHa k hHa), (wmBr qBr k aBr), (wmCa qCa k pCa), (wmWa qWa k jWa), (wmFr qFr k aFr), (wmAc qAc k iAc)] ++ List.flatten [(wmIk qIk k aIk)]) U.heap ∧ va_K (dC, dI) vwCl (tK k) U ∧ va_D (fun _ => True) (List.flatten [(wMO qO k widthO manyO cellsO movedO tapeO (qLi 0) (qHa 0) (qBr 0) (qCa 0) (qWa 0) (qFr 0) (qAc 0) (qIk 0) loadNowO byNowO rowO memoryO whoseO deepNowO brokenByO brokenAtO goesByO comesToO sagMoreO creakOfO wipedByO deepAtO sagAtO loadAtO orderRowO oftenO lossOneO lossOtherO vO tO mO gO), (wmLi qLi k aLi), (wmHa qHa k hHa), (wmBr qBr k aBr), (wmCa qCa k pCa), (wmWa qWa k jWa), (wmFr qFr k aFr), (wmAc qAc k iAc)] ++ List.flatten [(wmIk qIk k aIk)]))) (va_Qi (fun (r : Int32) (_ : Unit) => ((0 ≤ p1.toInt ∧ p1.toInt ≤ 2) ∨ r.toInt = (-2)) ∧ (p1.toInt = 0 → ((((aIk 0) 0).toInt = 0 ∧ r.toInt = (-6)) ∨ (((aIk 0) 0).toInt ≠ 0 ∧ r.toInt = 0))) ∧ (p1.toInt = 1 → ((((aIk 0) 1).toInt = 0 ∧ r.toInt = (-6)) ∨ (((aIk 0) 1).toInt ≠ 0 ∧ r.toInt = 0))) ∧ (p1.toInt = 2 → ((((aIk 0) 2).toInt = 0 ∧ r.toInt = (-6)) ∨ (((aIk 0) 2).toInt ≠ 0 ∧ r.toInt = 0)))) (fun (_ : Unit) (t : State) => ∃ (vO' : Nat → Int32) (tO' : Nat → Int32) (mO' : Nat → Int32) (gO' : Nat → Int64) (aLi' : Nat → Nat → Int32) (hHa' : Nat → Nat → Int32) (aBr' : Nat → Nat → Int32) (pCa' : Nat → Nat → Int32) (jWa' : Nat → Nat → Int32) (aFr' : Nat → Nat → Int32) (iAc' : Nat → Nat → Int32), Rg 0 700 tO' ∧ Rg (-1) 127 mO' ∧ Pa_h hHa' ∧ Pa_p pCa' ∧ Pa_j jWa' ∧ Pa_i iAc' ∧ va_P (dC, dI) vwCl (List.flatten [(wMO qO k widthO manyO cellsO movedO tapeO (qLi 0) (qHa 0) (qBr 0) (qCa 0) (qWa 0) (qFr 0) (qAc 0) (qIk 0) loadNowO byNowO rowO memoryO whoseO deepNowO brokenByO brokenAtO goesByO comesToO sagMoreO creakOfO wipedByO deepAtO sagAtO loadAtO orderRowO oftenO lossOneO lossOtherO vO' tO' mO' gO'), (wmLi qLi k aLi'), (wmHa qHa k hHa'), (wmBr qBr k aBr'), (wmCa qCa k pCa'), (wmWa qWa k jWa'), (wmFr qFr k aFr'), (wmAc qAc k iAc')] ++ List.flatten [(wmIk qIk k aIk)]) t.heap) (va_A (List.flatten [(wMO qO k widthO manyO cellsO movedO tapeO (qLi 0) (qHa 0) (qBr 0) (qCa 0) (qWa 0) (qFr 0) (qAc 0) (qIk 0) loadNowO byNowO rowO memoryO whoseO deepNowO brokenByO brokenAtO goesByO comesToO sagMoreO creakOfO wipedByO deepAtO sagAtO loadAtO orderRowO oftenO lossOneO lossOtherO vO tO mO gO), (wmLi qLi k aLi), (wmHa qHa k hHa), (wmBr qBr k aBr), (wmCa qCa k pCa), (wmWa qWa k jWa), (wmFr qFr k aFr), (wmAc qAc k iAc)] ++ List.flatten [(wmIk qIk k aIk)]) sz)) 0 0 (va_A (List.flatten [(wMO qO k widthO manyO cellsO movedO tapeO (qLi 0) (qHa 0) (qBr 0) (qCa 0) (qWa 0) (qFr 0) (qAc 0) (qIk 0) loadNowO byNowO rowO memoryO whoseO deepNowO brokenByO brokenAtO goesByO comesToO sagMoreO creakOfO wipedByO deepAtO sagAtO loadAtO orderRowO oftenO lossOneO lossOtherO vO tO mO gO), (wmLi qLi k aLi), (wmHa qHa k hHa), (wmBr qBr k aBr), (wmCa qCa k pCa), (wmWa qWa k jWa), (wmFr qFr k aFr), (wmAc qAc k iAc)] ++ List.flatten [(wmIk qIk k aIk)]) sz) := by
  refine Met.ofW (cc := cX12_back) (maxL := 2) (ret := (some .int)) (by decide) rfl ?_
  intro p e s m args below meth c s₁ B hml hv
  obtain ⟨rfl, hsz, hP, hK, hD0⟩ := hv
  have hx := B.exec
  have hb := B.bytes
  have hr := B.returns
  have hts := atoms_spec (ws := wk_c_X12_back_x) B.pre
  have hown : s.vm.findClass RX12 = some m.cls := findClass_of_methodNamed B.named
  have hlocks := B.notSynchronized
  subst hsz
  have hD := hD0.self (sz := s.heap.size)
  generalize hAe : va_A (List.flatten [(wMO qO k widthO manyO cellsO movedO tapeO (qLi 0) (qHa 0) (qBr 0) (qCa 0) (qWa 0) (qFr 0) (qAc 0) (qIk 0) loadNowO byNowO rowO memoryO whoseO deepNowO brokenByO brokenAtO goesByO comesToO sagMoreO creakOfO wipedByO deepAtO sagAtO loadAtO orderRowO oftenO lossOneO lossOtherO vO tO mO gO), (wmLi qLi k aLi), (wmHa qHa k hHa), (wmBr qBr k aBr), (wmCa qCa k pCa), (wmWa qWa k jWa), (wmFr qFr k aFr), (wmAc qAc k iAc)] ++ List.flatten [(wmIk qIk k aIk)]) s.heap.size = A at hD ⊢
  have hA : ∀ q : Nat, s.heap.size ≤ q → A q := fun q h => by rw [← hAe]; exact Or.inr h
  have hS : va_S A s.heap s.heap [] := va_S.rf
  have hP : va_P (dC, dI) vwCl (List.flatten [(wMO qO k widthO manyO cellsO movedO tapeO (qLi 0) (qHa 0) (qBr 0) (qCa 0) (qWa 0) (qFr 0) (qAc 0) (qIk 0) loadNowO byNowO rowO memoryO whoseO deepNowO brokenByO brokenAtO goesByO comesToO sagMoreO creakOfO wipedByO deepAtO sagAtO loadAtO orderRowO oftenO lossOneO lossOtherO vO tO mO gO), (wmLi qLi k aLi), (wmHa qHa k hHa), (wmBr qBr k aBr), (wmCa qCa k pCa), (wmWa qWa k jWa), (wmFr qFr k aFr), (wmAc qAc k iAc)] ++ List.flatten [(wmIk qIk k aIk)]) s.heap := hP
  have hl := lv_entry ([.ref (qO 0), .int p1]) (n := 2) (Nat.le_of_ble_eq_true rfl)
  rw [lg_entry_eq]
  generalize (lg_sl ([.ref (qO 0), .int p1]) ++ List.replicate (2 - (lg_sl ([.ref (qO 0), .int p1])).length) Slot.unset).toArray = ls at hl ⊢
  have hl : lv_has ls 2 [(0, .ref (qO 0)), (1, .int p1)] := hl
  refine w_gen (fun Q hQ => ?_)
  refine lv_aload_n hx hb dX12_back_0 rfl (lv_at hl 0 rfl) ?_
  refine lv_iconst (v := 0) hx hb dX12_back_1 (by decide) ?_
  refine va_put (D := (dC, dI)) (ci := 12) (v := .int 0) (ty := .int) (C := RX12) (T := TX12) (N := 59) hx hb hts (fun w h => List.mem_cons_of_mem _ (List.mem_append_right _ (List.mem_append_left _ h))) tyX12 tyX12_ok nmX12 hown hK hP hD hS 0 rfl rfl 0 (by decide) (hts (.fieldLink RX12 116 "SagMemoryModel" "thrown" "I") (wl_mem 0 rfl)) (fun _ h9 => h9) rfl (by decide +kernel) rfl rfl (Nat.le_of_ble_eq_true rfl) dX12_back_2 (fun H locs hP hD hS => ?_)
  have hP : va_P (dC, dI) vwCl (List.flatten [(wMO qO k widthO manyO cellsO movedO tapeO (qLi 0) (qHa 0) (qBr 0) (qCa 0) (qWa 0) (qFr 0) (qAc 0) (qIk 0) loadNowO byNowO rowO memoryO whoseO deepNowO brokenByO brokenAtO goesByO comesToO sagMoreO creakOfO wipedByO deepAtO sagAtO loadAtO orderRowO oftenO lossOneO lossOtherO (va_up vO 0 (0 : Int32)) tO mO gO), (wmLi qLi k aLi), (wmHa qHa k hHa), (wmBr qBr k aBr), (wmCa qCa k pCa), (wmWa qWa k jWa), (wmFr qFr k aFr), (wmAc qAc k iAc)] ++ List.flatten [(wmIk qIk k aIk)]) H := hP
  have hD : va_D A (List.flatten [(wMO qO k widthO manyO cellsO movedO tapeO (qLi 0) (qHa 0) (qBr 0) (qCa 0) (qWa 0) (qFr 0) (qAc 0) (qIk 0) loadNowO byNowO rowO memoryO whoseO deepNowO brokenByO brokenAtO goesByO comesToO sagMoreO creakOfO wipedByO deepAtO sagAtO loadAtO orderRowO oftenO lossOneO lossOtherO (va_up vO 0 (0 : Int32)) tO mO gO), (wmLi qLi k aLi), (wmHa qHa k hHa), (wmBr qBr k aBr), (wmCa qCa k pCa), (wmWa qWa k jWa), (wmFr qFr k aFr), (wmAc qAc k iAc)] ++ List.flatten [(wmIk qIk k aIk)]) := hD
  refine lv_iload_n hx hb dX12_back_5 rfl (lv_at hl 1 rfl) ?_
  refine lv_i2l hx hb dX12_back_6 rfl ?_
  refine lv_lconst (v := 0) hx hb dX12_back_7 (by decide) ?_
  refine lv_ldc2 (v := 2) hx hb hown (hts (.constantLong RX12 345 (2)) (wl_mem 1 rfl)) dX12_back_8 ?_
  have hPc : va_P (dC, dI) vwCl (List.flatten ([] : List va_W)) H := fun k q h => by simp at h
  refine vp_callSi (va_Run.run (va_runS (As := [.long p1.toInt64, .long 0, .long 2]) (rest := []) ⟨hx, hb, hml, hown, hts⟩ (c_X12_in l dC dI k p1.toInt64 (0 : Int64) (2 : Int64)) (va_cwS 3 hts (gk_S (wl_mem 2 rfl) (wl_mem 3 rfl) (wl_mem 4 rfl) (fun w h => List.mem_cons_of_mem _ (List.mem_append_right _ (List.mem_append_right _ (List.mem_append_left _ h)))) wkg_c_X12_in) rfl rfl rfl (by decide +kernel) ⟨Nat.le_of_ble_eq_true rfl, Nat.le_of_ble_eq_true rfl⟩) ⟨fun a U g mk q => by obtain ⟨q0, qP, qK⟩ := q; exact ⟨q0, qP, va_K.moved (u := U) (U := U.calling g mk a) (Vm.Alike.refl U.vm) qK⟩, fun U hU hW => ⟨rfl, by rw [hU]; exact hPc, va_K.moved hW.alike hK⟩⟩ rfl rfl hl.1 rfl (lv_room (Nat.le_of_ble_eq_true rfl)) dX12_back_11 ⟨Nat.le_of_ble_eq_true rfl, Nat.le_of_ble_eq_true rfl⟩)) (fun rz2 gz1 => ?_)
  clear hPc
  rcases gz1 with ⟨er, cz3⟩ | ⟨er, cz4, cz5⟩ | ⟨er, cz6, cz7⟩
  · obtain rfl := er.symm
    have zz8 : p1.toInt < (0 : Int) := by have h9 := zi_ltL.mp cz3; simp only [Int32.toInt_toInt64] at h9; exact h9
    refine lv_if_ne (tgt := 20) hx hb dX12_back_14 (by decide) (fun cz9 => ?_) (fun cz9 => ?_)
    · skip
      exact absurd cz9 (by decide)
    · skip
      refine lv_bipush (v := (-2)) hx hb dX12_back_17 (by decide) ?_
      rw [hQ]
      exact W.iret (v := (-2 : Int32)) hx hb hr (fun t ht hW => ⟨⟨(-2 : Int32), (), rfl, ⟨(by show (0 ≤ p1.toInt ∧ p1.toInt ≤ 2) ∨ (-2 : Int) = (-2); omega), (by show p1.toInt = 0 → ((((aIk 0) 0).toInt = 0 ∧ (-2 : Int) = (-6)) ∨ (((aIk 0) 0).toInt ≠ 0 ∧ (-2 : Int) = 0)); omega), (by show p1.toInt = 1 → ((((aIk 0) 1).toInt = 0 ∧ (-2 : Int) = (-6)) ∨ (((aIk 0) 1).toInt ≠ 0 ∧ (-2 : Int) = 0)); omega), (by show p1.toInt = 2 → ((((aIk 0) 2).toInt = 0 ∧ (-2 : Int) = (-6)) ∨ (((aIk 0) 2).toInt ≠ 0 ∧ (-2 : Int) = 0)); omega)⟩, (va_up vO 0 (0 : Int32)), tO, mO, gO, aLi, hHa, aBr, pCa, jWa, aFr, iAc, htO, hmO, hhHa, hpCa, hjWa, hiAc, by rw [ht]; exact hP⟩, hS.F ht⟩) hS.2.2 dX12_back_19
  · obtain rfl := er.symm
    have zz10 : ¬ p1.toInt < (0 : Int) := by intro h9; apply cz4; rw [zi_ltL]; simp only [Int32.toInt_toInt64]; exact h9
    have zz11 : (2 : Int) < p1.toInt := by have h9 := zi_ltL.mp cz5; simp only [Int32.toInt_toInt64] at h9; exact h9
    refine lv_if_ne (tgt := 20) hx hb dX12_back_14 (by decide) (fun cz12 => ?_) (fun cz12 => ?_)
    · skip
      exact absurd cz12 (by decide)
    · skip
      refine lv_bipush (v := (-2)) hx hb dX12_back_17 (by decide) ?_
      rw [hQ]
      exact W.iret (v := (-2 : Int32)) hx hb hr (fun t ht hW => ⟨⟨(-2 : Int32), (), rfl, ⟨(by show (0 ≤ p1.toInt ∧ p1.toInt ≤ 2) ∨ (-2 : Int) = (-2); omega), (by show p1.toInt = 0 → ((((aIk 0) 0).toInt = 0 ∧ (-2 : Int) = (-6)) ∨ (((aIk 0) 0).toInt ≠ 0 ∧ (-2 : Int) = 0)); omega), (by show p1.toInt = 1 → ((((aIk 0) 1).toInt = 0 ∧ (-2 : Int) = (-6)) ∨ (((aIk 0) 1).toInt ≠ 0 ∧ (-2 : Int) = 0)); omega), (by show p1.toInt = 2 → ((((aIk 0) 2).toInt = 0 ∧ (-2 : Int) = (-6)) ∨ (((aIk 0) 2).toInt ≠ 0 ∧ (-2 : Int) = 0)); omega)⟩, (va_up vO 0 (0 : Int32)), tO, mO, gO, aLi, hHa, aBr, pCa, jWa, aFr, iAc, htO, hmO, hhHa, hpCa, hjWa, hiAc, by rw [ht]; exact hP⟩, hS.F ht⟩) hS.2.2 dX12_back_19
  · obtain rfl := er.symm
    have zz13 : ¬ p1.toInt < (0 : Int) := by intro h9; apply cz6; rw [zi_ltL]; simp only [Int32.toInt_toInt64]; exact h9
    have zz14 : ¬ (2 : Int) < p1.toInt := by intro h9; apply cz7; rw [zi_ltL]; simp only [Int32.toInt_toInt64]; exact h9
    refine lv_if_ne (tgt := 20) hx hb dX12_back_14 (by decide) (fun cz15 => ?_) (fun cz15 => ?_)
    · skip
      refine lv_aload_n hx hb dX12_back_20 rfl (lv_at hl 0 rfl) ?_
      refine va_get (D := (dC, dI)) (ci := 12) (v := .ref (qIk 0)) (C := RX12) (T := TX12) (N := 59) hx hb hts (fun w h => List.mem_cons_of_mem _ (List.mem_append_right _ (List.mem_append_left _ h))) hown hK hP 0 rfl rfl 23 (by decide) (hts (.fieldLink RX12 52 "SagMemoryModel" "isKept" "[Z") (wl_mem 5 rfl)) (fun _ h9 => h9) rfl dX12_back_21 ?_
      refine lv_iload_n hx hb dX12_back_24 rfl (lv_at hl 1 rfl) ?_
      refine va_zald hx hb hK hP 8 3 rfl rfl (vp_in_iff.mpr ⟨by omega, by omega⟩) dX12_back_25 ?_
      refine lv_topi (fun xz16 exz16 => ?_)
      have kxz16_0 : p1.toInt = 0 → xz16.toInt = ((aIk 0) 0).toInt := by rw [exz16]; exact rd_at 0 (by show 0 ≤ p1.toInt; omega)
      have kxz16_1 : p1.toInt = 1 → xz16.toInt = ((aIk 0) 1).toInt := by rw [exz16]; exact rd_at 1 (by show 0 ≤ p1.toInt; omega)
      have kxz16_2 : p1.toInt = 2 → xz16.toInt = ((aIk 0) 2).toInt := by rw [exz16]; exact rd_at 2 (by show 0 ≤ p1.toInt; omega)
      refine lv_if_ne (tgt := 32) hx hb dX12_back_26 (by decide) (fun cz17 => ?_) (fun cz17 => ?_)
      · skip
        have zz18 : ¬ xz16.toInt = (0 : Int) := fun h9 => cz17 (zi_eq.mpr h9)
        refine lv_aload_n hx hb dX12_back_32 rfl (lv_at hl 0 rfl) ?_
        refine lv_iconst (v := 1) hx hb dX12_back_33 (by decide) ?_
        refine lv_iload_n hx hb dX12_back_34 rfl (lv_at hl 1 rfl) ?_
        refine lv_iadd hx hb dX12_back_35 ?_
        refine lv_topi (fun xz19 exz19 => ?_)
        have fxz19 : xz19.toInt = (1 : Int) + p1.toInt := by rw [exz19]; exact fb_addI (x := (1 : Int32)) (y := p1) (by show -2147483648 ≤ (1 : Int) + p1.toInt; omega) (by show (1 : Int) + p1.toInt < 2147483648; omega)
        refine lv_iconst (v := 0) hx hb dX12_back_36 (by decide) ?_
        have hPc := hP.sub (ws' := (List.flatten [(wmLi qLi k aLi), (wmHa qHa k hHa), (wmBr qBr k aBr), (wmCa qCa k pCa), (wmWa qWa k jWa), (wmFr qFr k aFr), (wmAc qAc k iAc)] ++ List.flatten [(wMO qO k widthO manyO cellsO movedO tapeO (qLi 0) (qHa 0) (qBr 0) (qCa 0) (qWa 0) (qFr 0) (qAc 0) (qIk 0) loadNowO byNowO rowO memoryO whoseO deepNowO brokenByO brokenAtO goesByO comesToO sagMoreO creakOfO wipedByO deepAtO sagAtO loadAtO orderRowO oftenO lossOneO lossOtherO (va_up vO 0 (0 : Int32)) tO mO gO)])) [1, 2, 3, 4, 5, 6, 7, 0] rfl
        have hC : [1, 2, 3, 4, 5, 6, 7, 0].map (fun i => (List.flatten [(wMO qO k widthO manyO cellsO movedO tapeO (qLi 0) (qHa 0) (qBr 0) (qCa 0) (qWa 0) (qFr 0) (qAc 0) (qIk 0) loadNowO byNowO rowO memoryO whoseO deepNowO brokenByO brokenAtO goesByO comesToO sagMoreO creakOfO wipedByO deepAtO sagAtO loadAtO orderRowO oftenO lossOneO lossOtherO (va_up vO 0 (0 : Int32)) tO mO gO), (wmLi qLi k aLi), (wmHa qHa k hHa), (wmBr qBr k aBr), (wmCa qCa k pCa), (wmWa qWa k jWa), (wmFr qFr k aFr), (wmAc qAc k iAc)] ++ List.flatten [(wmIk qIk k aIk)])[i]?) = (List.flatten [(wmLi qLi k aLi), (wmHa qHa k hHa), (wmBr qBr k aBr), (wmCa qCa k pCa), (wmWa qWa k jWa), (wmFr qFr k aFr), (wmAc qAc k iAc)] ++ List.flatten [(wMO qO k widthO manyO cellsO movedO tapeO (qLi 0) (qHa 0) (qBr 0) (qCa 0) (qWa 0) (qFr 0) (qAc 0) (qIk 0) loadNowO byNowO rowO memoryO whoseO deepNowO brokenByO brokenAtO goesByO comesToO sagMoreO creakOfO wipedByO deepAtO sagAtO loadAtO orderRowO oftenO lossOneO lossOtherO (va_up vO 0 (0 : Int32)) tO mO gO)]).map some := rfl
        have hDc := hD.sub [1, 2, 3, 4, 5, 6, 7, 0] (by decide) hC
        have hFc := va_free hD hS hA [1, 2, 3, 4, 5, 6, 7, 0] hC
        refine va_callv (va_runV (As := [.int xz19, .int 0]) (rest := []) ⟨hx, hb, hml, hown, hts⟩ (c_X12_copyValley l dC dI k H.size qO widthO manyO cellsO movedO tapeO (qIk 0) loadNowO byNowO rowO memoryO whoseO deepNowO brokenByO brokenAtO goesByO comesToO sagMoreO creakOfO wipedByO deepAtO sagAtO loadAtO orderRowO oftenO lossOneO lossOtherO (va_up vO 0 (0 : Int32)) tO mO gO qLi aLi qHa hHa qBr aBr qCa pCa qWa jWa qFr aFr qAc iAc xz19 (0 : Int32) htO hmO hhHa hpCa hjWa hiAc (by show 0 ≤ xz19.toInt ∧ xz19.toInt ≤ 4; omega) (by show 0 ≤ (0 : Int) ∧ (0 : Int) ≤ 4; omega)) (cwV 2 hts (gk_V (wl_mem 6 rfl) (wl_mem 7 rfl) (wl_mem 8 rfl) (wl_mem 4 rfl) (fun w h => List.mem_cons_of_mem _ (List.mem_append_right _ (List.mem_append_right _ (List.mem_append_right _ (List.mem_append_left _ h))))) wkg_c_X12_copyValley) rfl rfl rfl (by decide +kernel) ⟨Nat.le_of_ble_eq_true rfl, Nat.le_of_ble_eq_true rfl⟩) ⟨fun a U g mk q => by obtain ⟨q0, q1, qP, qK, qD⟩ := q; exact ⟨q0, q1, qP, va_K.moved (u := U) (U := U.calling g mk a) (Vm.Alike.refl U.vm) qK, qD⟩, va_recv hK hPc (ci := 12) (q0 := 7) rfl rfl, fun U hU hW => ⟨rfl, by rw [hU], by rw [hU]; exact hPc, va_K.moved hW.alike hK, hDc.weaken (fun _ _ _ _ => trivial)⟩⟩ rfl rfl hl.1 rfl (lv_room (Nat.le_of_ble_eq_true rfl)) dX12_back_37 ⟨Nat.le_of_ble_eq_true rfl, Nat.le_of_ble_eq_true rfl⟩) hS (fun q _ h => hFc q h) hFc (fun u t H1 locs ht hvm gz20 hB hz1 hk1 hS => ?_)
        obtain ⟨az22, hz23, az24, pz25, jz26, az27, iz28, hhz23, hpz25, hjz26, hiz28, hP1⟩ := hB
        rw [ht] at hP1
        obtain ⟨hP, hD⟩ := w_callR hP hD hk1 hP1 [1, 2, 3, 4, 5, 6, 7] rfl rfl (wk_memC [0] rfl) rfl [none, some 0, some 1, some 2, some 3, some 4, some 5, some 6] rfl rfl
        clear hPc hC hDc hFc hk1 hP1
        generalize H1 = H at hP hS ⊢
        have hP : va_P (dC, dI) vwCl (List.flatten [(wMO qO k widthO manyO cellsO movedO tapeO (qLi 0) (qHa 0) (qBr 0) (qCa 0) (qWa 0) (qFr 0) (qAc 0) (qIk 0) loadNowO byNowO rowO memoryO whoseO deepNowO brokenByO brokenAtO goesByO comesToO sagMoreO creakOfO wipedByO deepAtO sagAtO loadAtO orderRowO oftenO lossOneO lossOtherO (va_up vO 0 (0 : Int32)) tO mO gO), (wmLi qLi k az22), (wmHa qHa k hz23), (wmBr qBr k az24), (wmCa qCa k pz25), (wmWa qWa k jz26), (wmFr qFr k az27), (wmAc qAc k iz28)] ++ List.flatten [(wmIk qIk k aIk)]) H := hP
        have hD : va_D A (List.flatten [(wMO qO k widthO manyO cellsO movedO tapeO (qLi 0) (qHa 0) (qBr 0) (qCa 0) (qWa 0) (qFr 0) (qAc 0) (qIk 0) loadNowO byNowO rowO memoryO whoseO deepNowO brokenByO brokenAtO goesByO comesToO sagMoreO creakOfO wipedByO deepAtO sagAtO loadAtO orderRowO oftenO lossOneO lossOtherO (va_up vO 0 (0 : Int32)) tO mO gO), (wmLi qLi k az22), (wmHa qHa k hz23), (wmBr qBr k az24), (wmCa qCa k pz25), (wmWa qWa k jz26), (wmFr qFr k az27), (wmAc qAc k iz28)] ++ List.flatten [(wmIk qIk k aIk)]) := hD
        refine W.widen (k := 0) (n := 0) (Nat.le_refl 0) (Nat.le_refl 0) ?_
        refine lv_iconst (v := 0) hx hb dX12_back_40 (by decide) ?_
        rw [hQ]
        exact W.iret (v := (0 : Int32)) hx hb hr (fun t ht hW => ⟨⟨(0 : Int32), (), rfl, ⟨(by show (0 ≤ p1.toInt ∧ p1.toInt ≤ 2) ∨ (0 : Int) = (-2); omega), (by show p1.toInt = 0 → ((((aIk 0) 0).toInt = 0 ∧ (0 : Int) = (-6)) ∨ (((aIk 0) 0).toInt ≠ 0 ∧ (0 : Int) = 0)); omega), (by show p1.toInt = 1 → ((((aIk 0) 1).toInt = 0 ∧ (0 : Int) = (-6)) ∨ (((aIk 0) 1).toInt ≠ 0 ∧ (0 : Int) = 0)); omega), (by show p1.toInt = 2 → ((((aIk 0) 2).toInt = 0 ∧ (0 : Int) = (-6)) ∨ (((aIk 0) 2).toInt ≠ 0 ∧ (0 : Int) = 0)); omega)⟩, (va_up vO 0 (0 : Int32)), tO, mO, gO, az22, hz23, az24, pz25, jz26, az27, iz28, htO, hmO, hhz23, hpz25, hjz26, hiz28, by rw [ht]; exact hP⟩, hS.F ht⟩) hS.2.2 dX12_back_41
      · skip
        have zz29 : xz16.toInt = (0 : Int) := zi_eq.mp cz17
        refine lv_bipush (v := (-6)) hx hb dX12_back_29 (by decide) ?_
        rw [hQ]
        exact W.iret (v := (-6 : Int32)) hx hb hr (fun t ht hW => ⟨⟨(-6 : Int32), (), rfl, ⟨(by show (0 ≤ p1.toInt ∧ p1.toInt ≤ 2) ∨ (-6 : Int) = (-2); omega), (by show p1.toInt = 0 → ((((aIk 0) 0).toInt = 0 ∧ (-6 : Int) = (-6)) ∨ (((aIk 0) 0).toInt ≠ 0 ∧ (-6 : Int) = 0)); omega), (by show p1.toInt = 1 → ((((aIk 0) 1).toInt = 0 ∧ (-6 : Int) = (-6)) ∨ (((aIk 0) 1).toInt ≠ 0 ∧ (-6 : Int) = 0)); omega), (by show p1.toInt = 2 → ((((aIk 0) 2).toInt = 0 ∧ (-6 : Int) = (-6)) ∨ (((aIk 0) 2).toInt ≠ 0 ∧ (-6 : Int) = 0)); omega)⟩, (va_up vO 0 (0 : Int32)), tO, mO, gO, aLi, hHa, aBr, pCa, jWa, aFr, iAc, htO, hmO, hhHa, hpCa, hjWa, hiAc, by rw [ht]; exact hP⟩, hS.F ht⟩) hS.2.2 dX12_back_31
    · skip
      exact absurd cz15 (by decide)
theorem same9 {e0 e1 e2 p1 r r1 w0 w1 w2 : Int} (a0 : (0 ≤ p1 ∧ p1 ≤ 2) ∨ r = (-2)) (a1 : p1 = 0 → ((e0 = 0 ∧ r = (-6)) ∨ (e0 ≠ 0 ∧ r = 0))) (a2 : p1 = 1 → ((e1 = 0 ∧ r = (-6)) ∨ (e1 ≠ 0 ∧ r = 0))) (a3 : p1 = 2 → ((e2 = 0 ∧ r = (-6)) ∨ (e2 ≠ 0 ∧ r = 0))) (b0 : (0 ≤ p1 ∧ p1 ≤ 2) ∨ r1 = (-2)) (b1 : p1 = 0 → ((w0 = 0 ∧ r1 = (-6)) ∨ (w0 ≠ 0 ∧ r1 = 0))) (b2 : p1 = 1 → ((w1 = 0 ∧ r1 = (-6)) ∨ (w1 ≠ 0 ∧ r1 = 0))) (b3 : p1 = 2 → ((w2 = 0 ∧ r1 = (-6)) ∨ (w2 ≠ 0 ∧ r1 = 0))) (R0 : e0 = w0) (R1 : e1 = w1) (R2 : e2 = w2) : r = r1 := by
  have h1 : p1 < 0 ∨ 2 < p1 ∨ p1 = 0 ∨ p1 = 1 ∨ p1 = 2 := by clear a0 a1 a2 a3 b0 b1 b2 b3 R0 R1 R2; omega
  rcases h1 with h1 | h1 | h1 | h1 | h1
  · skip
    clear a1 a2 a3 b1 b2 b3 R0 R1 R2; omega
  · skip
    clear a1 a2 a3 b1 b2 b3 R0 R1 R2; omega
  · skip
    have x9 := a1 h1; have y9 := b1 h1; clear a0 a1 a2 a3 b0 b1 b2 b3 R1 R2; omega
  · skip
    have x9 := a2 h1; have y9 := b2 h1; clear a0 a1 a2 a3 b0 b1 b2 b3 R0 R2; omega
  · skip
    have x9 := a3 h1; have y9 := b3 h1; clear a0 a1 a2 a3 b0 b1 b2 b3 R0 R1; omega
