def wk_c_X12_does : List Cond := .code yX12_does cX12_does 5 none :: ([.fieldLink RX12 34 "SagMemoryModel" "has" "[I", .fieldLink RX12 49 "SagMemoryModel" "act" "[I"] ++ (wsX120 ++ []))
theorem wkg_c_X12_does : wk_c_X12_does.all goodWord = true := by decide +kernel
set_option maxHeartbeats 4000000 in
set_option maxRecDepth 100000 in
theorem c_X12_does (l : Launch) (dC : Nat → ClassId) (dI : Nat → Nat → Nat) (k : Nat → ClassId) (sz : Nat) (qO : Nat → Nat) (widthO : Nat) (manyO : Nat) (cellsO : Nat) (movedO : Nat) (tapeO : Nat) (linesO : Nat) (bridgeO : Nat) (cartO : Nat) (wardO : Nat) (frostAtO : Nat) (isKeptO : Nat) (loadNowO : Nat) (byNowO : Nat) (rowO : Nat) (memoryO : Nat) (whoseO : Nat) (deepNowO : Nat) (brokenByO : Nat) (brokenAtO : Nat) (goesByO : Nat) (comesToO : Nat) (sagMoreO : Nat) (creakOfO : Nat) (wipedByO : Nat) (deepAtO : Nat) (sagAtO : Nat) (loadAtO : Nat) (orderRowO : Nat) (oftenO : Nat) (lossOneO : Nat) (lossOtherO : Nat) (vO : Nat → Int32) (tO : Nat → Int32) (mO : Nat → Int32) (gO : Nat → Int64) (qHa : Nat → Nat) (hHa : Nat → Nat → Int32) (qAc : Nat → Nat) (iAc : Nat → Nat → Int32) (p1 : Int32) (p2 : Int32) (p3 : Int32) (htO : Rg 0 700 tO) (hmO : Rg (-1) 127 mO) (hhHa : Pa_h hHa) (hiAc : Pa_i iAc) (hp0 : ((hHa 0) 7).toInt ≤ 29) (hp1 : 0 ≤ p2.toInt ∧ p2.toInt ≤ 6) (hp2 : (-1) ≤ p3.toInt ∧ p3.toInt ≤ 2) : Met l yX12_does wk_c_X12_does ({ frames := 0, cells := 0, slots := 0, locals := 0 }) (va_Pc [.ref (qO 0), .int p1, .int p2, .int p3] (fun U => U.heap.size = sz ∧ va_P (dC, dI) vwCl (List.flatten [(wmHa qHa k hHa), (wmAc qAc k iAc)] ++ List.flatten [(wMO qO k widthO manyO cellsO movedO tapeO linesO (qHa 0) bridgeO cartO wardO frostAtO (qAc 0) isKeptO loadNowO byNowO rowO memoryO whoseO deepNowO brokenByO brokenAtO goesByO comesToO sagMoreO creakOfO wipedByO deepAtO sagAtO loadAtO orderRowO oftenO lossOneO lossOtherO vO tO mO gO)]) U.heap ∧ va_K (dC, dI) vwCl (tK k) U ∧ va_D (fun _ => True) (List.flatten [(wmHa qHa k hHa), (wmAc qAc k iAc)] ++ List.flatten [(wMO qO k widthO manyO cellsO movedO tapeO linesO (qHa 0) bridgeO cartO wardO frostAtO (qAc 0) isKeptO loadNowO byNowO rowO memoryO whoseO deepNowO brokenByO brokenAtO goesByO comesToO sagMoreO creakOfO wipedByO deepAtO sagAtO loadAtO orderRowO oftenO lossOneO lossOtherO vO tO mO gO)]))) (va_Qv (fun _ : Unit => True) (fun (_ : Unit) (t : State) => ∃ (hHa' : Nat → Nat → Int32) (iAc' : Nat → Nat → Int32), Pa_h hHa' ∧ Pa_i iAc' ∧ va_P (dC, dI) vwCl (List.flatten [(wmHa qHa k hHa'), (wmAc qAc k iAc')] ++ List.flatten [(wMO qO k widthO manyO cellsO movedO tapeO linesO (qHa 0) bridgeO cartO wardO frostAtO (qAc 0) isKeptO loadNowO byNowO rowO memoryO whoseO deepNowO brokenByO brokenAtO goesByO comesToO sagMoreO creakOfO wipedByO deepAtO sagAtO loadAtO orderRowO oftenO lossOneO lossOtherO vO tO mO gO)]) t.heap) (va_A (List.flatten [(wmHa qHa k hHa), (wmAc qAc k iAc)] ++ List.flatten [(wMO qO k widthO manyO cellsO movedO tapeO linesO (qHa 0) bridgeO cartO wardO frostAtO (qAc 0) isKeptO loadNowO byNowO rowO memoryO whoseO deepNowO brokenByO brokenAtO goesByO comesToO sagMoreO creakOfO wipedByO deepAtO sagAtO loadAtO orderRowO oftenO lossOneO lossOtherO vO tO mO gO)]) sz)) 0 0 (va_A (List.flatten [(wmHa qHa k hHa), (wmAc qAc k iAc)] ++ List.flatten [(wMO qO k widthO manyO cellsO movedO tapeO linesO (qHa 0) bridgeO cartO wardO frostAtO (qAc 0) isKeptO loadNowO byNowO rowO memoryO whoseO deepNowO brokenByO brokenAtO goesByO comesToO sagMoreO creakOfO wipedByO deepAtO sagAtO loadAtO orderRowO oftenO lossOneO lossOtherO vO tO mO gO)]) sz) := by
  refine Met.ofW (cc := cX12_does) (maxL := 5) (ret := none) (by decide) rfl ?_
  intro p e s m args below meth c s₁ B hml hv
  obtain ⟨rfl, hsz, hP, hK, hD0⟩ := hv
  have hx := B.exec
  have hb := B.bytes
  have hr := B.returns
  have hts := atoms_spec (ws := wk_c_X12_does) B.pre
  have hown : s.vm.findClass RX12 = some m.cls := findClass_of_methodNamed B.named
  have hlocks := B.notSynchronized
  subst hsz
  have hD := hD0.self (sz := s.heap.size)
  generalize hAe : va_A (List.flatten [(wmHa qHa k hHa), (wmAc qAc k iAc)] ++ List.flatten [(wMO qO k widthO manyO cellsO movedO tapeO linesO (qHa 0) bridgeO cartO wardO frostAtO (qAc 0) isKeptO loadNowO byNowO rowO memoryO whoseO deepNowO brokenByO brokenAtO goesByO comesToO sagMoreO creakOfO wipedByO deepAtO sagAtO loadAtO orderRowO oftenO lossOneO lossOtherO vO tO mO gO)]) s.heap.size = A at hD ⊢
  have hA : ∀ q : Nat, s.heap.size ≤ q → A q := fun q h => by rw [← hAe]; exact Or.inr h
  have hS : va_S A s.heap s.heap [] := va_S.rf
  have hP : va_P (dC, dI) vwCl (List.flatten [(wmHa qHa k hHa), (wmAc qAc k iAc)] ++ List.flatten [(wMO qO k widthO manyO cellsO movedO tapeO linesO (qHa 0) bridgeO cartO wardO frostAtO (qAc 0) isKeptO loadNowO byNowO rowO memoryO whoseO deepNowO brokenByO brokenAtO goesByO comesToO sagMoreO creakOfO wipedByO deepAtO sagAtO loadAtO orderRowO oftenO lossOneO lossOtherO vO tO mO gO)]) s.heap := hP
  have hl := lv_entry ([.ref (qO 0), .int p1, .int p2, .int p3]) (n := 5) (Nat.le_of_ble_eq_true rfl)
  rw [lg_entry_eq]
  generalize (lg_sl ([.ref (qO 0), .int p1, .int p2, .int p3]) ++ List.replicate (5 - (lg_sl ([.ref (qO 0), .int p1, .int p2, .int p3])).length) Slot.unset).toArray = ls at hl ⊢
  have hl : lv_has ls 5 [(0, .ref (qO 0)), (1, .int p1), (2, .int p2), (3, .int p3)] := hl
  refine w_gen (fun Q hQ => ?_)
  refine lv_iconst (v := 3) hx hb dX12_does_0 (by decide) ?_
  refine lv_aload_n hx hb dX12_does_1 rfl (lv_at hl 0 rfl) ?_
  refine va_get (D := (dC, dI)) (ci := 12) (v := .ref (qHa 0)) (C := RX12) (T := TX12) (N := 59) hx hb hts (fun w h => List.mem_cons_of_mem _ (List.mem_append_right _ (List.mem_append_left _ h))) hown hK hP 2 rfl rfl 17 (by decide) (hts (.fieldLink RX12 34 "SagMemoryModel" "has" "[I") (wl_mem 0 rfl)) (fun _ h9 => h9) rfl dX12_does_2 ?_
  refine lv_bipush (v := 7) hx hb dX12_does_5 (by decide) ?_
  refine va_iald hx hb hK hP 0 0 rfl rfl (by unfold vp_in; decide) dX12_does_7 ?_
  refine lv_topi (fun xz1 exz1 => ?_)
  have gxz1 : xz1.toInt = ((hHa 0) 7).toInt := by rw [exz1]; rfl
  have bxz1 : 0 ≤ xz1.toInt ∧ xz1.toInt ≤ 30 := by rw [exz1]; exact (hhHa 0).2.2.2.2 7 (by decide)
  refine lv_imul hx hb dX12_does_8 ?_
  refine lv_topi (fun xz2 exz2 => ?_)
  have fxz2 : xz2.toInt = (3 : Int) * xz1.toInt := by rw [exz2]; exact fb_mulI (x := (3 : Int32)) (y := xz1) (by show -2147483648 ≤ (3 : Int) * xz1.toInt; omega) (by show (3 : Int) * xz1.toInt < 2147483648; omega)
  refine lv_istore (lv' := [(4, .int xz2), (0, .ref (qO 0)), (1, .int p1), (2, .int p2), (3, .int p3)]) hx hb dX12_does_9 hl (by decide) rfl (fun ls hl => ?_)
  refine lv_aload_n hx hb dX12_does_11 rfl (lv_at hl 1 rfl) ?_
  refine va_get (D := (dC, dI)) (ci := 12) (v := .ref (qAc 0)) (C := RX12) (T := TX12) (N := 59) hx hb hts (fun w h => List.mem_cons_of_mem _ (List.mem_append_right _ (List.mem_append_left _ h))) hown hK hP 2 rfl rfl 22 (by decide) (hts (.fieldLink RX12 49 "SagMemoryModel" "act" "[I") (wl_mem 1 rfl)) (fun _ h9 => h9) rfl dX12_does_12 ?_
  refine lv_iload hx hb dX12_does_15 (lv_at hl 0 rfl) ?_
  refine lv_iload_n hx hb dX12_does_17 rfl (lv_at hl 2 rfl) ?_
  refine va_iast hx hb hK hP hD hS 1 0 rfl rfl (vp_in_iff.mpr ⟨by omega, by omega⟩) dX12_does_18 (fun H locs hP hD hS => ?_)
  obtain ⟨fz3, efz3, hP, hD⟩ : ∃ fz3 : Nat → Int32, fz3 = upd (iAc 0) xz2.toNatClampNeg p1 ∧ va_P (dC, dI) vwCl (List.flatten [(wmHa qHa k hHa), (wmAc qAc k (va_up iAc 0 fz3))] ++ List.flatten [(wMO qO k widthO manyO cellsO movedO tapeO linesO (qHa 0) bridgeO cartO wardO frostAtO (qAc 0) isKeptO loadNowO byNowO rowO memoryO whoseO deepNowO brokenByO brokenAtO goesByO comesToO sagMoreO creakOfO wipedByO deepAtO sagAtO loadAtO orderRowO oftenO lossOneO lossOtherO vO tO mO gO)]) H ∧ va_D A (List.flatten [(wmHa qHa k hHa), (wmAc qAc k (va_up iAc 0 fz3))] ++ List.flatten [(wMO qO k widthO manyO cellsO movedO tapeO linesO (qHa 0) bridgeO cartO wardO frostAtO (qAc 0) isKeptO loadNowO byNowO rowO memoryO whoseO deepNowO brokenByO brokenAtO goesByO comesToO sagMoreO creakOfO wipedByO deepAtO sagAtO loadAtO orderRowO oftenO lossOneO lossOtherO vO tO mO gO)]) := ⟨_, rfl, hP, hD⟩
  have hfz3 : Pd_i fz3 := by rw [efz3]; exact ⟨md_upd (hiAc 0).1 (by show 0 ≤ xz2.toInt; omega) (by show xz2.toInt % 3 = 1 → 0 ≤ p1.toInt ∧ p1.toInt ≤ 6; omega), md_upd (hiAc 0).2 (by show 0 ≤ xz2.toInt; omega) (by show xz2.toInt % 3 = 2 → (-1) ≤ p1.toInt ∧ p1.toInt ≤ 2; omega)⟩
  have kfz3 : fz3 xz2.toNatClampNeg = p1 := by rw [efz3]; exact pk_us
  refine lv_aload_n hx hb dX12_does_19 rfl (lv_at hl 1 rfl) ?_
  refine va_get (D := (dC, dI)) (ci := 12) (v := .ref (qAc 0)) (C := RX12) (T := TX12) (N := 59) hx hb hts (fun w h => List.mem_cons_of_mem _ (List.mem_append_right _ (List.mem_append_left _ h))) hown hK hP 2 rfl rfl 22 (by decide) (hts (.fieldLink RX12 49 "SagMemoryModel" "act" "[I") (wl_mem 1 rfl)) (fun _ h9 => h9) rfl dX12_does_20 ?_
  refine lv_iload hx hb dX12_does_23 (lv_at hl 0 rfl) ?_
  refine lv_iconst (v := 1) hx hb dX12_does_25 (by decide) ?_
  refine lv_iadd hx hb dX12_does_26 ?_
  refine lv_topi (fun xz4 exz4 => ?_)
  have fxz4 : xz4.toInt = xz2.toInt + (1 : Int) := by rw [exz4]; exact fb_addI (x := xz2) (y := (1 : Int32)) (by show -2147483648 ≤ xz2.toInt + (1 : Int); omega) (by show xz2.toInt + (1 : Int) < 2147483648; omega)
  refine lv_iload_n hx hb dX12_does_27 rfl (lv_at hl 3 rfl) ?_
  refine va_iast hx hb hK hP hD hS 1 0 rfl rfl (vp_in_iff.mpr ⟨by omega, by omega⟩) dX12_does_28 (fun H locs hP hD hS => ?_)
  obtain ⟨fz5, efz5, hP, hD⟩ : ∃ fz5 : Nat → Int32, fz5 = upd fz3 xz4.toNatClampNeg p2 ∧ va_P (dC, dI) vwCl (List.flatten [(wmHa qHa k hHa), (wmAc qAc k (va_up iAc 0 fz5))] ++ List.flatten [(wMO qO k widthO manyO cellsO movedO tapeO linesO (qHa 0) bridgeO cartO wardO frostAtO (qAc 0) isKeptO loadNowO byNowO rowO memoryO whoseO deepNowO brokenByO brokenAtO goesByO comesToO sagMoreO creakOfO wipedByO deepAtO sagAtO loadAtO orderRowO oftenO lossOneO lossOtherO vO tO mO gO)]) H ∧ va_D A (List.flatten [(wmHa qHa k hHa), (wmAc qAc k (va_up iAc 0 fz5))] ++ List.flatten [(wMO qO k widthO manyO cellsO movedO tapeO linesO (qHa 0) bridgeO cartO wardO frostAtO (qAc 0) isKeptO loadNowO byNowO rowO memoryO whoseO deepNowO brokenByO brokenAtO goesByO comesToO sagMoreO creakOfO wipedByO deepAtO sagAtO loadAtO orderRowO oftenO lossOneO lossOtherO vO tO mO gO)]) := ⟨_, rfl, hP, hD⟩
  have hfz5 : Pd_i fz5 := by rw [efz5]; exact ⟨md_upd hfz3.1 (by show 0 ≤ xz4.toInt; omega) (by show xz4.toInt % 3 = 1 → 0 ≤ p2.toInt ∧ p2.toInt ≤ 6; omega), md_upd hfz3.2 (by show 0 ≤ xz4.toInt; omega) (by show xz4.toInt % 3 = 2 → (-1) ≤ p2.toInt ∧ p2.toInt ≤ 2; omega)⟩
  have kfz5 : fz5 xz4.toNatClampNeg = p2 := by rw [efz5]; exact pk_us
  refine lv_aload_n hx hb dX12_does_29 rfl (lv_at hl 1 rfl) ?_
  refine va_get (D := (dC, dI)) (ci := 12) (v := .ref (qAc 0)) (C := RX12) (T := TX12) (N := 59) hx hb hts (fun w h => List.mem_cons_of_mem _ (List.mem_append_right _ (List.mem_append_left _ h))) hown hK hP 2 rfl rfl 22 (by decide) (hts (.fieldLink RX12 49 "SagMemoryModel" "act" "[I") (wl_mem 1 rfl)) (fun _ h9 => h9) rfl dX12_does_30 ?_
  refine lv_iload hx hb dX12_does_33 (lv_at hl 0 rfl) ?_
  refine lv_iconst (v := 2) hx hb dX12_does_35 (by decide) ?_
  refine lv_iadd hx hb dX12_does_36 ?_
  refine lv_topi (fun xz6 exz6 => ?_)
  have fxz6 : xz6.toInt = xz2.toInt + (2 : Int) := by rw [exz6]; exact fb_addI (x := xz2) (y := (2 : Int32)) (by show -2147483648 ≤ xz2.toInt + (2 : Int); omega) (by show xz2.toInt + (2 : Int) < 2147483648; omega)
  refine lv_iload_n hx hb dX12_does_37 rfl (lv_at hl 4 rfl) ?_
  refine va_iast hx hb hK hP hD hS 1 0 rfl rfl (vp_in_iff.mpr ⟨by omega, by omega⟩) dX12_does_38 (fun H locs hP hD hS => ?_)
  obtain ⟨fz7, efz7, hP, hD⟩ : ∃ fz7 : Nat → Int32, fz7 = upd fz5 xz6.toNatClampNeg p3 ∧ va_P (dC, dI) vwCl (List.flatten [(wmHa qHa k hHa), (wmAc qAc k (va_up iAc 0 fz7))] ++ List.flatten [(wMO qO k widthO manyO cellsO movedO tapeO linesO (qHa 0) bridgeO cartO wardO frostAtO (qAc 0) isKeptO loadNowO byNowO rowO memoryO whoseO deepNowO brokenByO brokenAtO goesByO comesToO sagMoreO creakOfO wipedByO deepAtO sagAtO loadAtO orderRowO oftenO lossOneO lossOtherO vO tO mO gO)]) H ∧ va_D A (List.flatten [(wmHa qHa k hHa), (wmAc qAc k (va_up iAc 0 fz7))] ++ List.flatten [(wMO qO k widthO manyO cellsO movedO tapeO linesO (qHa 0) bridgeO cartO wardO frostAtO (qAc 0) isKeptO loadNowO byNowO rowO memoryO whoseO deepNowO brokenByO brokenAtO goesByO comesToO sagMoreO creakOfO wipedByO deepAtO sagAtO loadAtO orderRowO oftenO lossOneO lossOtherO vO tO mO gO)]) := ⟨_, rfl, hP, hD⟩
  have hfz7 : Pd_i fz7 := by rw [efz7]; exact ⟨md_upd hfz5.1 (by show 0 ≤ xz6.toInt; omega) (by show xz6.toInt % 3 = 1 → 0 ≤ p3.toInt ∧ p3.toInt ≤ 6; omega), md_upd hfz5.2 (by show 0 ≤ xz6.toInt; omega) (by show xz6.toInt % 3 = 2 → (-1) ≤ p3.toInt ∧ p3.toInt ≤ 2; omega)⟩
  have kfz7 : fz7 xz6.toNatClampNeg = p3 := by rw [efz7]; exact pk_us
  refine lv_aload_n hx hb dX12_does_39 rfl (lv_at hl 1 rfl) ?_
  refine va_get (D := (dC, dI)) (ci := 12) (v := .ref (qHa 0)) (C := RX12) (T := TX12) (N := 59) hx hb hts (fun w h => List.mem_cons_of_mem _ (List.mem_append_right _ (List.mem_append_left _ h))) hown hK hP 2 rfl rfl 17 (by decide) (hts (.fieldLink RX12 34 "SagMemoryModel" "has" "[I") (wl_mem 0 rfl)) (fun _ h9 => h9) rfl dX12_does_40 ?_
  refine lv_bipush (v := 7) hx hb dX12_does_43 (by decide) ?_
  refine lv_dup2_11 hx hb dX12_does_45 rfl rfl ?_
  refine va_iald hx hb hK hP 0 0 rfl rfl (by unfold vp_in; decide) dX12_does_46 ?_
  refine lv_topi (fun xz8 exz8 => ?_)
  obtain rfl : xz1 = xz8 := (exz8.trans exz1.symm).symm
  refine lv_iconst (v := 1) hx hb dX12_does_47 (by decide) ?_
  refine lv_iadd hx hb dX12_does_48 ?_
  refine lv_topi (fun xz9 exz9 => ?_)
  have fxz9 : xz9.toInt = xz1.toInt + (1 : Int) := by rw [exz9]; exact fb_addI (x := xz1) (y := (1 : Int32)) (by show -2147483648 ≤ xz1.toInt + (1 : Int); omega) (by show xz1.toInt + (1 : Int) < 2147483648; omega)
  refine va_iast hx hb hK hP hD hS 0 0 rfl rfl (by unfold vp_in; decide) dX12_does_49 (fun H locs hP hD hS => ?_)
  obtain ⟨fz10, efz10, hP, hD⟩ : ∃ fz10 : Nat → Int32, fz10 = upd (hHa 0) (7 : Int32).toNatClampNeg xz9 ∧ va_P (dC, dI) vwCl (List.flatten [(wmHa qHa k (va_up hHa 0 fz10)), (wmAc qAc k (va_up iAc 0 fz7))] ++ List.flatten [(wMO qO k widthO manyO cellsO movedO tapeO linesO (qHa 0) bridgeO cartO wardO frostAtO (qAc 0) isKeptO loadNowO byNowO rowO memoryO whoseO deepNowO brokenByO brokenAtO goesByO comesToO sagMoreO creakOfO wipedByO deepAtO sagAtO loadAtO orderRowO oftenO lossOneO lossOtherO vO tO mO gO)]) H ∧ va_D A (List.flatten [(wmHa qHa k (va_up hHa 0 fz10)), (wmAc qAc k (va_up iAc 0 fz7))] ++ List.flatten [(wMO qO k widthO manyO cellsO movedO tapeO linesO (qHa 0) bridgeO cartO wardO frostAtO (qAc 0) isKeptO loadNowO byNowO rowO memoryO whoseO deepNowO brokenByO brokenAtO goesByO comesToO sagMoreO creakOfO wipedByO deepAtO sagAtO loadAtO orderRowO oftenO lossOneO lossOtherO vO tO mO gO)]) := ⟨_, rfl, hP, hD⟩
  have hfz10 : Pd_h fz10 := by rw [efz10]; exact ⟨md_upd (hhHa 0).1 (by show 0 ≤ (7 : Int); omega) (by show (7 : Int) % 8 = 3 → 0 ≤ xz9.toInt ∧ xz9.toInt ≤ 3; omega), md_upd (hhHa 0).2.1 (by show 0 ≤ (7 : Int); omega) (by show (7 : Int) % 8 = 4 → 0 ≤ xz9.toInt ∧ xz9.toInt ≤ 7; omega), md_upd (hhHa 0).2.2.1 (by show 0 ≤ (7 : Int); omega) (by show (7 : Int) % 8 = 5 → 0 ≤ xz9.toInt ∧ xz9.toInt ≤ 5; omega), md_upd (hhHa 0).2.2.2.1 (by show 0 ≤ (7 : Int); omega) (by show (7 : Int) % 8 = 6 → 0 ≤ xz9.toInt ∧ xz9.toInt ≤ 4; omega), md_upd (hhHa 0).2.2.2.2 (by show 0 ≤ (7 : Int); omega) (by show (7 : Int) % 8 = 7 → 0 ≤ xz9.toInt ∧ xz9.toInt ≤ 30; omega)⟩
  have kfz10 : fz10 (7 : Int32).toNatClampNeg = xz9 := by rw [efz10]; exact pk_us
  rw [hQ]
  exact W.vret hx hb hr (fun t ht hW => ⟨⟨(), rfl, trivial, (va_up hHa 0 fz10), (va_up iAc 0 fz7), (pa_up_h hhHa hfz10), (pa_up_i hiAc hfz7), by rw [ht]; exact hP⟩, hS.F ht⟩) hS.2.2 dX12_does_50
def wk_c_X12_send : List Cond := .code yX12_send cX12_send 3 (some .int) :: ([.fieldLink RX12 116 "SagMemoryModel" "thrown" "I", .methodLink RX12 289 yX12_isCart, .instanceMethod yX12_isCart, .selects RX12 yX12_isCart yX12_isCart, .initialized RX12, .methodLink RX12 292 yX12_isBridge, .instanceMethod yX12_isBridge, .selects RX12 yX12_isBridge yX12_isBridge, .fieldLink RX12 34 "SagMemoryModel" "has" "[I", .methodLink RX12 330 yX12_lays, .instanceMethod yX12_lays, .selects RX12 yX12_lays yX12_lays, .methodLink RX12 502 yX12_does, .instanceMethod yX12_does, .selects RX12 yX12_does yX12_does, .fieldLink RX12 59 "SagMemoryModel" "byNow" "[I"] ++ (wsX120 ++ (wk_c_X12_isCart ++ (wk_c_X12_isBridge ++ (wk_c_X12_lays ++ (wk_c_X12_does ++ []))))))
theorem wkg_c_X12_send : wk_c_X12_send.all goodWord = true := by decide +kernel
set_option maxHeartbeats 4000000 in
set_option maxRecDepth 100000 in
theorem c_X12_send (l : Launch) (dC : Nat → ClassId) (dI : Nat → Nat → Nat) (k : Nat → ClassId) (sz : Nat) (qO : Nat → Nat) (widthO : Nat) (manyO : Nat) (cellsO : Nat) (movedO : Nat) (tapeO : Nat) (linesO : Nat) (bridgeO : Nat) (wardO : Nat) (isKeptO : Nat) (memoryO : Nat) (whoseO : Nat) (deepNowO : Nat) (brokenByO : Nat) (brokenAtO : Nat) (goesByO : Nat) (comesToO : Nat) (sagMoreO : Nat) (creakOfO : Nat) (wipedByO : Nat) (deepAtO : Nat) (sagAtO : Nat) (loadAtO : Nat) (orderRowO : Nat) (oftenO : Nat) (lossOneO : Nat) (lossOtherO : Nat) (vO : Nat → Int32) (tO : Nat → Int32) (mO : Nat → Int32) (gO : Nat → Int64) (qHa : Nat → Nat) (hHa : Nat → Nat → Int32) (qFr : Nat → Nat) (aFr : Nat → Nat → Int32) (qCa : Nat → Nat) (pCa : Nat → Nat → Int32) (qAc : Nat → Nat) (iAc : Nat → Nat → Int32) (qLn : Nat → Nat) (aLn : Nat → Nat → Int32) (qBn : Nat → Nat) (yBn : Nat → Nat → Int32) (qRw : Nat → Nat) (rRw : Nat → Nat → Int32) (p1 : Int32) (p2 : Int32) (htO : Rg 0 700 tO) (hmO : Rg (-1) 127 mO) (hhHa : Pa_h hHa) (hpCa : Pa_p pCa) (hiAc : Pa_i iAc) (hyBn : RgA (-1) 2 yBn) (hrRw : RgA 0 6 rRw) : Met l yX12_send wk_c_X12_send ({ frames := 2, cells := 0, slots := 0, locals := 47 }) (va_Pc [.ref (qO 0), .int p1, .int p2] (fun U => U.heap.size = sz ∧ va_P (dC, dI) vwCl (List.flatten [(wMO qO k widthO manyO cellsO movedO tapeO linesO (qHa 0) bridgeO (qCa 0) wardO (qFr 0) (qAc 0) isKeptO (qLn 0) (qBn 0) (qRw 0) memoryO whoseO deepNowO brokenByO brokenAtO goesByO comesToO sagMoreO creakOfO wipedByO deepAtO sagAtO loadAtO orderRowO oftenO lossOneO lossOtherO vO tO mO gO), (wmHa qHa k hHa), (wmAc qAc k iAc), (wmLn qLn k aLn), (wmBn qBn k yBn), (wmRw qRw k rRw)] ++ List.flatten [(wmFr qFr k aFr), (wmCa qCa k pCa)]) U.heap ∧ va_K (dC, dI) vwCl (tK k) U ∧ va_D (fun _ => True) (List.flatten [(wMO qO k widthO manyO cellsO movedO tapeO linesO (qHa 0) bridgeO (qCa 0) wardO (qFr 0) (qAc 0) isKeptO (qLn 0) (qBn 0) (qRw 0) memoryO whoseO deepNowO brokenByO brokenAtO goesByO comesToO sagMoreO creakOfO wipedByO deepAtO sagAtO loadAtO orderRowO oftenO lossOneO lossOtherO vO tO mO gO), (wmHa qHa k hHa), (wmAc qAc k iAc), (wmLn qLn k aLn), (wmBn qBn k yBn), (wmRw qRw k rRw)] ++ List.flatten [(wmFr qFr k aFr), (wmCa qCa k pCa)]))) (va_Qi (fun (r : Int32) (_ : Unit) => True) (fun (_ : Unit) (t : State) => ∃ (vO' : Nat → Int32) (tO' : Nat → Int32) (mO' : Nat → Int32) (gO' : Nat → Int64) (hHa' : Nat → Nat → Int32) (iAc' : Nat → Nat → Int32) (aLn' : Nat → Nat → Int32) (yBn' : Nat → Nat → Int32) (rRw' : Nat → Nat → Int32), Rg 0 700 tO' ∧ Rg (-1) 127 mO' ∧ Pa_h hHa' ∧ Pa_i iAc' ∧ RgA (-1) 2 yBn' ∧ RgA 0 6 rRw' ∧ va_P (dC, dI) vwCl (List.flatten [(wMO qO k widthO manyO cellsO movedO tapeO linesO (qHa 0) bridgeO (qCa 0) wardO (qFr 0) (qAc 0) isKeptO (qLn 0) (qBn 0) (qRw 0) memoryO whoseO deepNowO brokenByO brokenAtO goesByO comesToO sagMoreO creakOfO wipedByO deepAtO sagAtO loadAtO orderRowO oftenO lossOneO lossOtherO vO' tO' mO' gO'), (wmHa qHa k hHa'), (wmAc qAc k iAc'), (wmLn qLn k aLn'), (wmBn qBn k yBn'), (wmRw qRw k rRw')] ++ List.flatten [(wmFr qFr k aFr), (wmCa qCa k pCa)]) t.heap) (va_A (List.flatten [(wMO qO k widthO manyO cellsO movedO tapeO linesO (qHa 0) bridgeO (qCa 0) wardO (qFr 0) (qAc 0) isKeptO (qLn 0) (qBn 0) (qRw 0) memoryO whoseO deepNowO brokenByO brokenAtO goesByO comesToO sagMoreO creakOfO wipedByO deepAtO sagAtO loadAtO orderRowO oftenO lossOneO lossOtherO vO tO mO gO), (wmHa qHa k hHa), (wmAc qAc k iAc), (wmLn qLn k aLn), (wmBn qBn k yBn), (wmRw qRw k rRw)] ++ List.flatten [(wmFr qFr k aFr), (wmCa qCa k pCa)]) sz)) 0 0 (va_A (List.flatten [(wMO qO k widthO manyO cellsO movedO tapeO linesO (qHa 0) bridgeO (qCa 0) wardO (qFr 0) (qAc 0) isKeptO (qLn 0) (qBn 0) (qRw 0) memoryO whoseO deepNowO brokenByO brokenAtO goesByO comesToO sagMoreO creakOfO wipedByO deepAtO sagAtO loadAtO orderRowO oftenO lossOneO lossOtherO vO tO mO gO), (wmHa qHa k hHa), (wmAc qAc k iAc), (wmLn qLn k aLn), (wmBn qBn k yBn), (wmRw qRw k rRw)] ++ List.flatten [(wmFr qFr k aFr), (wmCa qCa k pCa)]) sz) := by
  refine Met.ofW (cc := cX12_send) (maxL := 3) (ret := (some .int)) (by decide) rfl ?_
  intro p e s m args below meth c s₁ B hml hv
  obtain ⟨rfl, hsz, hP, hK, hD0⟩ := hv
  have hx := B.exec
  have hb := B.bytes
  have hr := B.returns
  have hts := atoms_spec (ws := wk_c_X12_send) B.pre
  have hown : s.vm.findClass RX12 = some m.cls := findClass_of_methodNamed B.named
  have hlocks := B.notSynchronized
  subst hsz
  have hD := hD0.self (sz := s.heap.size)
  generalize hAe : va_A (List.flatten [(wMO qO k widthO manyO cellsO movedO tapeO linesO (qHa 0) bridgeO (qCa 0) wardO (qFr 0) (qAc 0) isKeptO (qLn 0) (qBn 0) (qRw 0) memoryO whoseO deepNowO brokenByO brokenAtO goesByO comesToO sagMoreO creakOfO wipedByO deepAtO sagAtO loadAtO orderRowO oftenO lossOneO lossOtherO vO tO mO gO), (wmHa qHa k hHa), (wmAc qAc k iAc), (wmLn qLn k aLn), (wmBn qBn k yBn), (wmRw qRw k rRw)] ++ List.flatten [(wmFr qFr k aFr), (wmCa qCa k pCa)]) s.heap.size = A at hD ⊢
  have hA : ∀ q : Nat, s.heap.size ≤ q → A q := fun q h => by rw [← hAe]; exact Or.inr h
  have hS : va_S A s.heap s.heap [] := va_S.rf
  have hP : va_P (dC, dI) vwCl (List.flatten [(wMO qO k widthO manyO cellsO movedO tapeO linesO (qHa 0) bridgeO (qCa 0) wardO (qFr 0) (qAc 0) isKeptO (qLn 0) (qBn 0) (qRw 0) memoryO whoseO deepNowO brokenByO brokenAtO goesByO comesToO sagMoreO creakOfO wipedByO deepAtO sagAtO loadAtO orderRowO oftenO lossOneO lossOtherO vO tO mO gO), (wmHa qHa k hHa), (wmAc qAc k iAc), (wmLn qLn k aLn), (wmBn qBn k yBn), (wmRw qRw k rRw)] ++ List.flatten [(wmFr qFr k aFr), (wmCa qCa k pCa)]) s.heap := hP
  have hl := lv_entry ([.ref (qO 0), .int p1, .int p2]) (n := 3) (Nat.le_of_ble_eq_true rfl)
  rw [lg_entry_eq]
  generalize (lg_sl ([.ref (qO 0), .int p1, .int p2]) ++ List.replicate (3 - (lg_sl ([.ref (qO 0), .int p1, .int p2])).length) Slot.unset).toArray = ls at hl ⊢
  have hl : lv_has ls 3 [(0, .ref (qO 0)), (1, .int p1), (2, .int p2)] := hl
  refine w_gen (fun Q hQ => ?_)
  refine lv_aload_n hx hb dX12_send_0 rfl (lv_at hl 0 rfl) ?_
  refine lv_iconst (v := 0) hx hb dX12_send_1 (by decide) ?_
  refine va_put (D := (dC, dI)) (ci := 12) (v := .int 0) (ty := .int) (C := RX12) (T := TX12) (N := 59) hx hb hts (fun w h => List.mem_cons_of_mem _ (List.mem_append_right _ (List.mem_append_left _ h))) tyX12 tyX12_ok nmX12 hown hK hP hD hS 0 rfl rfl 0 (by decide) (hts (.fieldLink RX12 116 "SagMemoryModel" "thrown" "I") (wl_mem 0 rfl)) (fun _ h9 => h9) rfl (by decide +kernel) rfl rfl (Nat.le_of_ble_eq_true rfl) dX12_send_2 (fun H locs hP hD hS => ?_)
  have hP : va_P (dC, dI) vwCl (List.flatten [(wMO qO k widthO manyO cellsO movedO tapeO linesO (qHa 0) bridgeO (qCa 0) wardO (qFr 0) (qAc 0) isKeptO (qLn 0) (qBn 0) (qRw 0) memoryO whoseO deepNowO brokenByO brokenAtO goesByO comesToO sagMoreO creakOfO wipedByO deepAtO sagAtO loadAtO orderRowO oftenO lossOneO lossOtherO (va_up vO 0 (0 : Int32)) tO mO gO), (wmHa qHa k hHa), (wmAc qAc k iAc), (wmLn qLn k aLn), (wmBn qBn k yBn), (wmRw qRw k rRw)] ++ List.flatten [(wmFr qFr k aFr), (wmCa qCa k pCa)]) H := hP
  have hD : va_D A (List.flatten [(wMO qO k widthO manyO cellsO movedO tapeO linesO (qHa 0) bridgeO (qCa 0) wardO (qFr 0) (qAc 0) isKeptO (qLn 0) (qBn 0) (qRw 0) memoryO whoseO deepNowO brokenByO brokenAtO goesByO comesToO sagMoreO creakOfO wipedByO deepAtO sagAtO loadAtO orderRowO oftenO lossOneO lossOtherO (va_up vO 0 (0 : Int32)) tO mO gO), (wmHa qHa k hHa), (wmAc qAc k iAc), (wmLn qLn k aLn), (wmBn qBn k yBn), (wmRw qRw k rRw)] ++ List.flatten [(wmFr qFr k aFr), (wmCa qCa k pCa)]) := hD
  refine lv_aload_n hx hb dX12_send_5 rfl (lv_at hl 0 rfl) ?_
  refine lv_iload_n hx hb dX12_send_6 rfl (lv_at hl 1 rfl) ?_
  refine lv_i2l hx hb dX12_send_7 rfl ?_
  have hPc := hP.sub (ws' := (List.flatten [(wMO qO k widthO manyO cellsO movedO tapeO linesO (qHa 0) bridgeO (qCa 0) wardO (qFr 0) (qAc 0) isKeptO (qLn 0) (qBn 0) (qRw 0) memoryO whoseO deepNowO brokenByO brokenAtO goesByO comesToO sagMoreO creakOfO wipedByO deepAtO sagAtO loadAtO orderRowO oftenO lossOneO lossOtherO (va_up vO 0 (0 : Int32)) tO mO gO), (wmHa qHa k hHa)])) [0, 1] rfl
  refine vp_callSi (va_Run.run (va_runV (As := [.long p1.toInt64]) (rest := []) ⟨hx, hb, hml, hown, hts⟩ (c_X12_isCart l dC dI k qO widthO manyO cellsO movedO tapeO linesO bridgeO (qCa 0) wardO (qFr 0) (qAc 0) isKeptO (qLn 0) (qBn 0) (qRw 0) memoryO whoseO deepNowO brokenByO brokenAtO goesByO comesToO sagMoreO creakOfO wipedByO deepAtO sagAtO loadAtO orderRowO oftenO lossOneO lossOtherO (va_up vO 0 (0 : Int32)) tO mO gO qHa hHa p1.toInt64 htO hmO hhHa) (cwV 1 hts (gk_V (wl_mem 1 rfl) (wl_mem 2 rfl) (wl_mem 3 rfl) (wl_mem 4 rfl) (fun w h => List.mem_cons_of_mem _ (List.mem_append_right _ (List.mem_append_right _ (List.mem_append_left _ h)))) wkg_c_X12_isCart) rfl rfl rfl (by decide +kernel) ⟨Nat.le_of_ble_eq_true rfl, Nat.le_of_ble_eq_true rfl⟩) ⟨fun a U g mk q => by obtain ⟨q0, qP, qK⟩ := q; exact ⟨q0, qP, va_K.moved (u := U) (U := U.calling g mk a) (Vm.Alike.refl U.vm) qK⟩, va_recv hK hPc (ci := 12) (q0 := 0) rfl rfl, fun U hU hW => ⟨rfl, by rw [hU]; exact hPc, va_K.moved hW.alike hK⟩⟩ rfl rfl hl.1 rfl (lv_room (Nat.le_of_ble_eq_true rfl)) dX12_send_8 ⟨Nat.le_of_ble_eq_true rfl, Nat.le_of_ble_eq_true rfl⟩)) (fun rz2 gz1 => ?_)
  clear hPc
  obtain ⟨pz3, pz4⟩ := gz1
  have pz3 : rz2.toInt = 0 ∨ rz2.toInt = 1 := by first | exact pz3 | (simp only [Int32.toInt_toInt64] at pz3; exact pz3)
  have pz4 : rz2.toInt = 0 ∨ (0 ≤ p1.toInt ∧ p1.toInt ≤ 6) := by first | exact pz4 | (simp only [Int32.toInt_toInt64] at pz4; exact pz4)
  refine lv_if_eq (tgt := 28) hx hb dX12_send_11 (by decide) (fun cz5 => ?_) (fun cz5 => ?_)
  · skip
    have zz6 : rz2.toInt = (0 : Int) := zi_eq.mp cz5
    refine lv_bipush (v := (-2)) hx hb dX12_send_28 (by decide) ?_
    rw [hQ]
    exact W.iret (v := (-2 : Int32)) hx hb hr (fun t ht hW => ⟨⟨(-2 : Int32), (), rfl, trivial, (va_up vO 0 (0 : Int32)), tO, mO, gO, hHa, iAc, aLn, yBn, rRw, htO, hmO, hhHa, hiAc, hyBn, hrRw, by rw [ht]; exact hP⟩, hS.F ht⟩) hS.2.2 dX12_send_30
  · skip
    have zz7 : ¬ rz2.toInt = (0 : Int) := fun h9 => cz5 (zi_eq.mpr h9)
    refine lv_iload_n hx hb dX12_send_14 rfl (lv_at hl 2 rfl) ?_
    refine lv_iconst (v := (-1)) hx hb dX12_send_15 (by decide) ?_
    have ct31_kz18 : ∀ (H : Heap) (locs : List Loc) (ls : Array Slot), (-1) ≤ p2.toInt ∧ p2.toInt ≤ 2 → va_P (dC, dI) vwCl (List.flatten [(wMO qO k widthO manyO cellsO movedO tapeO linesO (qHa 0) bridgeO (qCa 0) wardO (qFr 0) (qAc 0) isKeptO (qLn 0) (qBn 0) (qRw 0) memoryO whoseO deepNowO brokenByO brokenAtO goesByO comesToO sagMoreO creakOfO wipedByO deepAtO sagAtO loadAtO orderRowO oftenO lossOneO lossOtherO (va_up vO 0 (0 : Int32)) tO mO gO), (wmHa qHa k hHa), (wmAc qAc k iAc), (wmLn qLn k aLn), (wmBn qBn k yBn), (wmRw qRw k rRw)] ++ List.flatten [(wmFr qFr k aFr), (wmCa qCa k pCa)]) H → va_D A (List.flatten [(wMO qO k widthO manyO cellsO movedO tapeO linesO (qHa 0) bridgeO (qCa 0) wardO (qFr 0) (qAc 0) isKeptO (qLn 0) (qBn 0) (qRw 0) memoryO whoseO deepNowO brokenByO brokenAtO goesByO comesToO sagMoreO creakOfO wipedByO deepAtO sagAtO loadAtO orderRowO oftenO lossOneO lossOtherO (va_up vO 0 (0 : Int32)) tO mO gO), (wmHa qHa k hHa), (wmAc qAc k iAc), (wmLn qLn k aLn), (wmBn qBn k yBn), (wmRw qRw k rRw)] ++ List.flatten [(wmFr qFr k aFr), (wmCa qCa k pCa)]) → va_S A s.heap H locs → lv_has ls 3 [(0, .ref (qO 0)), (1, .int p1), (2, .int p2)] → W p l e (headSpec wk_c_X12_send ({ frames := 2, cells := 0, slots := 0, locals := 47 })).room s m ([.ref (qO 0), .int p1, .int p2] : List Value).toArray below meth c H locs 0 0 Q (F0 m 31 ls []) := by
      intro H locs ls jz19 hP hD hS hl
      refine lv_aload_n hx hb dX12_send_31 rfl (lv_at hl 0 rfl) ?_
      refine va_get (D := (dC, dI)) (ci := 12) (v := .ref (qHa 0)) (C := RX12) (T := TX12) (N := 59) hx hb hts (fun w h => List.mem_cons_of_mem _ (List.mem_append_right _ (List.mem_append_left _ h))) hown hK hP 0 rfl rfl 17 (by decide) (hts (.fieldLink RX12 34 "SagMemoryModel" "has" "[I") (wl_mem 8 rfl)) (fun _ h9 => h9) rfl dX12_send_32 ?_
      refine lv_bipush (v := 7) hx hb dX12_send_35 (by decide) ?_
      refine va_iald hx hb hK hP 1 0 rfl rfl (by unfold vp_in; decide) dX12_send_37 ?_
      refine lv_topi (fun xz20 exz20 => ?_)
      have gxz20 : xz20.toInt = ((hHa 0) 7).toInt := by rw [exz20]; rfl
      have bxz20 : 0 ≤ xz20.toInt ∧ xz20.toInt ≤ 30 := by rw [exz20]; exact (hhHa 0).2.2.2.2 7 (by decide)
      refine lv_bipush (v := 30) hx hb dX12_send_38 (by decide) ?_
      refine lv_icmp_ne (tgt := 46) hx hb dX12_send_40 (by decide) (fun cz21 => ?_) (fun cz21 => ?_)
      · skip
        have zz22 : ¬ xz20.toInt = (30 : Int) := fun h9 => cz21 (zi_eq.mpr h9)
        refine lv_aload_n hx hb dX12_send_46 rfl (lv_at hl 0 rfl) ?_
        have hPc := hP.sub (ws' := (List.flatten [(wMO qO k widthO manyO cellsO movedO tapeO linesO (qHa 0) bridgeO (qCa 0) wardO (qFr 0) (qAc 0) isKeptO (qLn 0) (qBn 0) (qRw 0) memoryO whoseO deepNowO brokenByO brokenAtO goesByO comesToO sagMoreO creakOfO wipedByO deepAtO sagAtO loadAtO orderRowO oftenO lossOneO lossOtherO (va_up vO 0 (0 : Int32)) tO mO gO), (wmLn qLn k aLn), (wmBn qBn k yBn), (wmRw qRw k rRw)] ++ List.flatten [(wmHa qHa k hHa), (wmFr qFr k aFr), (wmCa qCa k pCa), (wmAc qAc k iAc)])) [0, 3, 4, 5, 1, 6, 7, 2] rfl
        have hC : [0, 3, 4, 5, 1, 6, 7, 2].map (fun i => (List.flatten [(wMO qO k widthO manyO cellsO movedO tapeO linesO (qHa 0) bridgeO (qCa 0) wardO (qFr 0) (qAc 0) isKeptO (qLn 0) (qBn 0) (qRw 0) memoryO whoseO deepNowO brokenByO brokenAtO goesByO comesToO sagMoreO creakOfO wipedByO deepAtO sagAtO loadAtO orderRowO oftenO lossOneO lossOtherO (va_up vO 0 (0 : Int32)) tO mO gO), (wmHa qHa k hHa), (wmAc qAc k iAc), (wmLn qLn k aLn), (wmBn qBn k yBn), (wmRw qRw k rRw)] ++ List.flatten [(wmFr qFr k aFr), (wmCa qCa k pCa)])[i]?) = (List.flatten [(wMO qO k widthO manyO cellsO movedO tapeO linesO (qHa 0) bridgeO (qCa 0) wardO (qFr 0) (qAc 0) isKeptO (qLn 0) (qBn 0) (qRw 0) memoryO whoseO deepNowO brokenByO brokenAtO goesByO comesToO sagMoreO creakOfO wipedByO deepAtO sagAtO loadAtO orderRowO oftenO lossOneO lossOtherO (va_up vO 0 (0 : Int32)) tO mO gO), (wmLn qLn k aLn), (wmBn qBn k yBn), (wmRw qRw k rRw)] ++ List.flatten [(wmHa qHa k hHa), (wmFr qFr k aFr), (wmCa qCa k pCa), (wmAc qAc k iAc)]).map some := rfl
        have hDc := hD.sub [0, 3, 4, 5, 1, 6, 7, 2] (by decide) hC
        have hFc := va_free hD hS hA [0, 3, 4, 5, 1, 6, 7, 2] hC
        refine va_callv (va_runV (As := []) (rest := []) ⟨hx, hb, hml, hown, hts⟩ (c_X12_lays l dC dI k H.size qO widthO manyO cellsO movedO tapeO linesO bridgeO wardO isKeptO memoryO whoseO deepNowO brokenByO brokenAtO goesByO comesToO sagMoreO creakOfO wipedByO deepAtO sagAtO loadAtO orderRowO oftenO lossOneO lossOtherO (va_up vO 0 (0 : Int32)) tO mO gO qHa hHa qFr aFr qCa pCa qAc iAc qLn aLn qBn yBn qRw rRw htO hmO hhHa hpCa hiAc hyBn hrRw) (cwV 0 hts (gk_V (wl_mem 9 rfl) (wl_mem 10 rfl) (wl_mem 11 rfl) (wl_mem 4 rfl) (fun w h => List.mem_cons_of_mem _ (List.mem_append_right _ (List.mem_append_right _ (List.mem_append_right _ (List.mem_append_right _ (List.mem_append_left _ h)))))) wkg_c_X12_lays) rfl rfl rfl (by decide +kernel) ⟨Nat.le_of_ble_eq_true rfl, Nat.le_of_ble_eq_true rfl⟩) ⟨fun a U g mk q => by obtain ⟨q0, q1, qP, qK, qD⟩ := q; exact ⟨q0, q1, qP, va_K.moved (u := U) (U := U.calling g mk a) (Vm.Alike.refl U.vm) qK, qD⟩, va_recv hK hPc (ci := 12) (q0 := 0) rfl rfl, fun U hU hW => ⟨rfl, by rw [hU], by rw [hU]; exact hPc, va_K.moved hW.alike hK, hDc.weaken (fun _ _ _ _ => trivial)⟩⟩ rfl rfl hl.1 rfl (lv_room (Nat.le_of_ble_eq_true rfl)) dX12_send_47 ⟨Nat.le_of_ble_eq_true rfl, Nat.le_of_ble_eq_true rfl⟩) hS (fun q _ h => hFc q h) hFc (fun u t H1 locs ht hvm gz23 hB hz1 hk1 hS => ?_)
        obtain ⟨vz25, tz26, mz27, gz28, az29, yz30, rz31, htz26, hmz27, hyz30, hrz31, hP1⟩ := hB
        rw [ht] at hP1
        obtain ⟨hP, hD⟩ := w_callR hP hD hk1 hP1 [0, 3, 4, 5] rfl rfl (wk_memC [1, 6, 7, 2] rfl) rfl [some 0, none, none, some 1, some 2, some 3] rfl rfl
        clear hPc hC hDc hFc hk1 hP1
        generalize H1 = H at hP hS ⊢
        have hP : va_P (dC, dI) vwCl (List.flatten [(wMO qO k widthO manyO cellsO movedO tapeO linesO (qHa 0) bridgeO (qCa 0) wardO (qFr 0) (qAc 0) isKeptO (qLn 0) (qBn 0) (qRw 0) memoryO whoseO deepNowO brokenByO brokenAtO goesByO comesToO sagMoreO creakOfO wipedByO deepAtO sagAtO loadAtO orderRowO oftenO lossOneO lossOtherO vz25 tz26 mz27 gz28), (wmHa qHa k hHa), (wmAc qAc k iAc), (wmLn qLn k az29), (wmBn qBn k yz30), (wmRw qRw k rz31)] ++ List.flatten [(wmFr qFr k aFr), (wmCa qCa k pCa)]) H := hP
        have hD : va_D A (List.flatten [(wMO qO k widthO manyO cellsO movedO tapeO linesO (qHa 0) bridgeO (qCa 0) wardO (qFr 0) (qAc 0) isKeptO (qLn 0) (qBn 0) (qRw 0) memoryO whoseO deepNowO brokenByO brokenAtO goesByO comesToO sagMoreO creakOfO wipedByO deepAtO sagAtO loadAtO orderRowO oftenO lossOneO lossOtherO vz25 tz26 mz27 gz28), (wmHa qHa k hHa), (wmAc qAc k iAc), (wmLn qLn k az29), (wmBn qBn k yz30), (wmRw qRw k rz31)] ++ List.flatten [(wmFr qFr k aFr), (wmCa qCa k pCa)]) := hD
        refine W.widen (k := 0) (n := 0) (Nat.le_refl 0) (Nat.le_refl 0) ?_
        refine lv_aload_n hx hb dX12_send_50 rfl (lv_at hl 0 rfl) ?_
        refine lv_iconst (v := 0) hx hb dX12_send_51 (by decide) ?_
        refine lv_iload_n hx hb dX12_send_52 rfl (lv_at hl 1 rfl) ?_
        refine lv_iload_n hx hb dX12_send_53 rfl (lv_at hl 2 rfl) ?_
        have hPc := hP.sub (ws' := (List.flatten [(wmHa qHa k hHa), (wmAc qAc k iAc)] ++ List.flatten [(wMO qO k widthO manyO cellsO movedO tapeO linesO (qHa 0) bridgeO (qCa 0) wardO (qFr 0) (qAc 0) isKeptO (qLn 0) (qBn 0) (qRw 0) memoryO whoseO deepNowO brokenByO brokenAtO goesByO comesToO sagMoreO creakOfO wipedByO deepAtO sagAtO loadAtO orderRowO oftenO lossOneO lossOtherO vz25 tz26 mz27 gz28)])) [1, 2, 0] rfl
        have hC : [1, 2, 0].map (fun i => (List.flatten [(wMO qO k widthO manyO cellsO movedO tapeO linesO (qHa 0) bridgeO (qCa 0) wardO (qFr 0) (qAc 0) isKeptO (qLn 0) (qBn 0) (qRw 0) memoryO whoseO deepNowO brokenByO brokenAtO goesByO comesToO sagMoreO creakOfO wipedByO deepAtO sagAtO loadAtO orderRowO oftenO lossOneO lossOtherO vz25 tz26 mz27 gz28), (wmHa qHa k hHa), (wmAc qAc k iAc), (wmLn qLn k az29), (wmBn qBn k yz30), (wmRw qRw k rz31)] ++ List.flatten [(wmFr qFr k aFr), (wmCa qCa k pCa)])[i]?) = (List.flatten [(wmHa qHa k hHa), (wmAc qAc k iAc)] ++ List.flatten [(wMO qO k widthO manyO cellsO movedO tapeO linesO (qHa 0) bridgeO (qCa 0) wardO (qFr 0) (qAc 0) isKeptO (qLn 0) (qBn 0) (qRw 0) memoryO whoseO deepNowO brokenByO brokenAtO goesByO comesToO sagMoreO creakOfO wipedByO deepAtO sagAtO loadAtO orderRowO oftenO lossOneO lossOtherO vz25 tz26 mz27 gz28)]).map some := rfl
        have hDc := hD.sub [1, 2, 0] (by decide) hC
        have hFc := va_free hD hS hA [1, 2, 0] hC
        refine va_callv (va_runV (As := [.int 0, .int p1, .int p2]) (rest := []) ⟨hx, hb, hml, hown, hts⟩ (c_X12_does l dC dI k H.size qO widthO manyO cellsO movedO tapeO linesO bridgeO (qCa 0) wardO (qFr 0) isKeptO (qLn 0) (qBn 0) (qRw 0) memoryO whoseO deepNowO brokenByO brokenAtO goesByO comesToO sagMoreO creakOfO wipedByO deepAtO sagAtO loadAtO orderRowO oftenO lossOneO lossOtherO vz25 tz26 mz27 gz28 qHa hHa qAc iAc (0 : Int32) p1 p2 htz26 hmz27 hhHa hiAc (by show ((hHa 0) 7).toInt ≤ 29; omega) (by show 0 ≤ p1.toInt ∧ p1.toInt ≤ 6; omega) (by show (-1) ≤ p2.toInt ∧ p2.toInt ≤ 2; omega)) (cwV 3 hts (gk_V (wl_mem 12 rfl) (wl_mem 13 rfl) (wl_mem 14 rfl) (wl_mem 4 rfl) (fun w h => List.mem_cons_of_mem _ (List.mem_append_right _ (List.mem_append_right _ (List.mem_append_right _ (List.mem_append_right _ (List.mem_append_right _ (List.mem_append_left _ h))))))) wkg_c_X12_does) rfl rfl rfl (by decide +kernel) ⟨Nat.le_of_ble_eq_true rfl, Nat.le_of_ble_eq_true rfl⟩) ⟨fun a U g mk q => by obtain ⟨q0, q1, qP, qK, qD⟩ := q; exact ⟨q0, q1, qP, va_K.moved (u := U) (U := U.calling g mk a) (Vm.Alike.refl U.vm) qK, qD⟩, va_recv hK hPc (ci := 12) (q0 := 2) rfl rfl, fun U hU hW => ⟨rfl, by rw [hU], by rw [hU]; exact hPc, va_K.moved hW.alike hK, hDc.weaken (fun _ _ _ _ => trivial)⟩⟩ rfl rfl hl.1 rfl (lv_room (Nat.le_of_ble_eq_true rfl)) dX12_send_54 ⟨Nat.le_of_ble_eq_true rfl, Nat.le_of_ble_eq_true rfl⟩) hS (fun q _ h => hFc q h) hFc (fun u t H1 locs ht hvm gz32 hB hz1 hk1 hS => ?_)
        obtain ⟨hz34, iz35, hhz34, hiz35, hP1⟩ := hB
        rw [ht] at hP1
        obtain ⟨hP, hD⟩ := w_callR hP hD hk1 hP1 [1, 2] rfl rfl (wk_memC [0] rfl) rfl [none, some 0, some 1, none, none, none] rfl rfl
        clear hPc hC hDc hFc hk1 hP1
        generalize H1 = H at hP hS ⊢
        have hP : va_P (dC, dI) vwCl (List.flatten [(wMO qO k widthO manyO cellsO movedO tapeO linesO (qHa 0) bridgeO (qCa 0) wardO (qFr 0) (qAc 0) isKeptO (qLn 0) (qBn 0) (qRw 0) memoryO whoseO deepNowO brokenByO brokenAtO goesByO comesToO sagMoreO creakOfO wipedByO deepAtO sagAtO loadAtO orderRowO oftenO lossOneO lossOtherO vz25 tz26 mz27 gz28), (wmHa qHa k hz34), (wmAc qAc k iz35), (wmLn qLn k az29), (wmBn qBn k yz30), (wmRw qRw k rz31)] ++ List.flatten [(wmFr qFr k aFr), (wmCa qCa k pCa)]) H := hP
        have hD : va_D A (List.flatten [(wMO qO k widthO manyO cellsO movedO tapeO linesO (qHa 0) bridgeO (qCa 0) wardO (qFr 0) (qAc 0) isKeptO (qLn 0) (qBn 0) (qRw 0) memoryO whoseO deepNowO brokenByO brokenAtO goesByO comesToO sagMoreO creakOfO wipedByO deepAtO sagAtO loadAtO orderRowO oftenO lossOneO lossOtherO vz25 tz26 mz27 gz28), (wmHa qHa k hz34), (wmAc qAc k iz35), (wmLn qLn k az29), (wmBn qBn k yz30), (wmRw qRw k rz31)] ++ List.flatten [(wmFr qFr k aFr), (wmCa qCa k pCa)]) := hD
        refine W.widen (k := 0) (n := 0) (Nat.le_refl 0) (Nat.le_refl 0) ?_
        refine lv_aload_n hx hb dX12_send_57 rfl (lv_at hl 0 rfl) ?_
        refine va_get (D := (dC, dI)) (ci := 12) (v := .ref (qBn 0)) (C := RX12) (T := TX12) (N := 59) hx hb hts (fun w h => List.mem_cons_of_mem _ (List.mem_append_right _ (List.mem_append_left _ h))) hown hK hP 0 rfl rfl 28 (by decide) (hts (.fieldLink RX12 59 "SagMemoryModel" "byNow" "[I") (wl_mem 15 rfl)) (fun _ h9 => h9) rfl dX12_send_58 ?_
        refine lv_iload_n hx hb dX12_send_61 rfl (lv_at hl 1 rfl) ?_
        refine va_iald hx hb hK hP 4 0 rfl rfl (vp_in_iff.mpr ⟨by omega, by omega⟩) dX12_send_62 ?_
        refine lv_topi (fun xz36 exz36 => ?_)
        have bxz36 : (-1) ≤ xz36.toInt ∧ xz36.toInt ≤ 2 := by rw [exz36]; exact (hyz30 0) _
        rw [hQ]
        exact W.iret (v := xz36) hx hb hr (fun t ht hW => ⟨⟨xz36, (), rfl, trivial, vz25, tz26, mz27, gz28, hz34, iz35, az29, yz30, rz31, htz26, hmz27, hhz34, hiz35, hyz30, hrz31, by rw [ht]; exact hP⟩, hS.F ht⟩) hS.2.2 dX12_send_63
      · skip
        have zz37 : xz20.toInt = (30 : Int) := zi_eq.mp cz21
        refine lv_bipush (v := (-5)) hx hb dX12_send_43 (by decide) ?_
        rw [hQ]
        exact W.iret (v := (-5 : Int32)) hx hb hr (fun t ht hW => ⟨⟨(-5 : Int32), (), rfl, trivial, (va_up vO 0 (0 : Int32)), tO, mO, gO, hHa, iAc, aLn, yBn, rRw, htO, hmO, hhHa, hiAc, hyBn, hrRw, by rw [ht]; exact hP⟩, hS.F ht⟩) hS.2.2 dX12_send_45
    refine lv_icmp_eq (tgt := 31) hx hb dX12_send_16 (by decide) (fun cz38 => ?_) (fun cz38 => ?_)
    · skip
      have zz39 : p2.toInt = (-1 : Int) := zi_eq.mp cz38
      exact ct31_kz18 H locs ls  (by show (-1) ≤ p2.toInt ∧ p2.toInt ≤ 2; omega) hP hD hS (lv_sub hl [0, 1, 2] rfl)
    · skip
      have zz40 : ¬ p2.toInt = (-1 : Int) := fun h9 => cz38 (zi_eq.mpr h9)
      refine lv_aload_n hx hb dX12_send_19 rfl (lv_at hl 0 rfl) ?_
      refine lv_iload_n hx hb dX12_send_20 rfl (lv_at hl 2 rfl) ?_
      refine lv_i2l hx hb dX12_send_21 rfl ?_
      have hPc := hP.sub (ws' := (List.flatten [(wMO qO k widthO manyO cellsO movedO tapeO linesO (qHa 0) bridgeO (qCa 0) wardO (qFr 0) (qAc 0) isKeptO (qLn 0) (qBn 0) (qRw 0) memoryO whoseO deepNowO brokenByO brokenAtO goesByO comesToO sagMoreO creakOfO wipedByO deepAtO sagAtO loadAtO orderRowO oftenO lossOneO lossOtherO (va_up vO 0 (0 : Int32)) tO mO gO), (wmHa qHa k hHa)])) [0, 1] rfl
      refine vp_callSi (va_Run.run (va_runV (As := [.long p2.toInt64]) (rest := []) ⟨hx, hb, hml, hown, hts⟩ (c_X12_isBridge l dC dI k qO widthO manyO cellsO movedO tapeO linesO bridgeO (qCa 0) wardO (qFr 0) (qAc 0) isKeptO (qLn 0) (qBn 0) (qRw 0) memoryO whoseO deepNowO brokenByO brokenAtO goesByO comesToO sagMoreO creakOfO wipedByO deepAtO sagAtO loadAtO orderRowO oftenO lossOneO lossOtherO (va_up vO 0 (0 : Int32)) tO mO gO qHa hHa p2.toInt64 htO hmO hhHa) (cwV 1 hts (gk_V (wl_mem 5 rfl) (wl_mem 6 rfl) (wl_mem 7 rfl) (wl_mem 4 rfl) (fun w h => List.mem_cons_of_mem _ (List.mem_append_right _ (List.mem_append_right _ (List.mem_append_right _ (List.mem_append_left _ h))))) wkg_c_X12_isBridge) rfl rfl rfl (by decide +kernel) ⟨Nat.le_of_ble_eq_true rfl, Nat.le_of_ble_eq_true rfl⟩) ⟨fun a U g mk q => by obtain ⟨q0, qP, qK⟩ := q; exact ⟨q0, qP, va_K.moved (u := U) (U := U.calling g mk a) (Vm.Alike.refl U.vm) qK⟩, va_recv hK hPc (ci := 12) (q0 := 0) rfl rfl, fun U hU hW => ⟨rfl, by rw [hU]; exact hPc, va_K.moved hW.alike hK⟩⟩ rfl rfl hl.1 rfl (lv_room (Nat.le_of_ble_eq_true rfl)) dX12_send_22 ⟨Nat.le_of_ble_eq_true rfl, Nat.le_of_ble_eq_true rfl⟩)) (fun rz42 gz41 => ?_)
      clear hPc
      obtain ⟨pz43, pz44⟩ := gz41
      have pz43 : rz42.toInt = 0 ∨ rz42.toInt = 1 := by first | exact pz43 | (simp only [Int32.toInt_toInt64] at pz43; exact pz43)
      have pz44 : rz42.toInt = 0 ∨ (0 ≤ p2.toInt ∧ p2.toInt ≤ 2) := by first | exact pz44 | (simp only [Int32.toInt_toInt64] at pz44; exact pz44)
      refine lv_if_ne (tgt := 31) hx hb dX12_send_25 (by decide) (fun cz45 => ?_) (fun cz45 => ?_)
      · skip
        have zz46 : ¬ rz42.toInt = (0 : Int) := fun h9 => cz45 (zi_eq.mpr h9)
        exact ct31_kz18 H locs ls  (by show (-1) ≤ p2.toInt ∧ p2.toInt ≤ 2; omega) hP hD hS (lv_sub hl [0, 1, 2] rfl)
      · skip
        have zz47 : rz42.toInt = (0 : Int) := zi_eq.mp cz45
        refine lv_bipush (v := (-2)) hx hb dX12_send_28 (by decide) ?_
        rw [hQ]
        exact W.iret (v := (-2 : Int32)) hx hb hr (fun t ht hW => ⟨⟨(-2 : Int32), (), rfl, trivial, (va_up vO 0 (0 : Int32)), tO, mO, gO, hHa, iAc, aLn, yBn, rRw, htO, hmO, hhHa, hiAc, hyBn, hrRw, by rw [ht]; exact hP⟩, hS.F ht⟩) hS.2.2 dX12_send_30
def wk_c_X12_freeze : List Cond := .code yX12_freeze cX12_freeze 3 (some .int) :: ([.fieldLink RX12 116 "SagMemoryModel" "thrown" "I", .methodLink RX12 289 yX12_isCart, .instanceMethod yX12_isCart, .selects RX12 yX12_isCart yX12_isCart, .initialized RX12, .methodLink RX12 342 yX12_isHalf, .static yX12_isHalf, .fieldLink RX12 34 "SagMemoryModel" "has" "[I", .methodLink RX12 330 yX12_lays, .instanceMethod yX12_lays, .selects RX12 yX12_lays yX12_lays, .methodLink RX12 502 yX12_does, .instanceMethod yX12_does, .selects RX12 yX12_does yX12_does, .fieldLink RX12 298 "SagMemoryModel" "frosts" "I", .methodLink RX12 307 yX12_isBit, .static yX12_isBit] ++ (wsX120 ++ (wk_c_X12_isCart ++ (wk_c_X12_isHalf ++ (wk_c_X12_lays ++ (wk_c_X12_does ++ (wk_c_X12_isBit ++ [])))))))
theorem wkg_c_X12_freeze : wk_c_X12_freeze.all goodWord = true := by decide +kernel
set_option maxHeartbeats 4000000 in
set_option maxRecDepth 100000 in
theorem c_X12_freeze (l : Launch) (dC : Nat → ClassId) (dI : Nat → Nat → Nat) (k : Nat → ClassId) (sz : Nat) (qO : Nat → Nat) (widthO : Nat) (manyO : Nat) (cellsO : Nat) (movedO : Nat) (tapeO : Nat) (linesO : Nat) (bridgeO : Nat) (wardO : Nat) (isKeptO : Nat) (memoryO : Nat) (whoseO : Nat) (deepNowO : Nat) (brokenByO : Nat) (brokenAtO : Nat) (goesByO : Nat) (comesToO : Nat) (sagMoreO : Nat) (creakOfO : Nat) (wipedByO : Nat) (deepAtO : Nat) (sagAtO : Nat) (loadAtO : Nat) (orderRowO : Nat) (oftenO : Nat) (lossOneO : Nat) (lossOtherO : Nat) (vO : Nat → Int32) (tO : Nat → Int32) (mO : Nat → Int32) (gO : Nat → Int64) (qHa : Nat → Nat) (hHa : Nat → Nat → Int32) (qFr : Nat → Nat) (aFr : Nat → Nat → Int32) (qCa : Nat → Nat) (pCa : Nat → Nat → Int32) (qAc : Nat → Nat) (iAc : Nat → Nat → Int32) (qLn : Nat → Nat) (aLn : Nat → Nat → Int32) (qBn : Nat → Nat) (yBn : Nat → Nat → Int32) (qRw : Nat → Nat) (rRw : Nat → Nat → Int32) (p1 : Int32) (p2 : Int32) (htO : Rg 0 700 tO) (hmO : Rg (-1) 127 mO) (hhHa : Pa_h hHa) (hpCa : Pa_p pCa) (hiAc : Pa_i iAc) (hyBn : RgA (-1) 2 yBn) (hrRw : RgA 0 6 rRw) : Met l yX12_freeze wk_c_X12_freeze ({ frames := 2, cells := 0, slots := 0, locals := 47 }) (va_Pc [.ref (qO 0), .int p1, .int p2] (fun U => U.heap.size = sz ∧ va_P (dC, dI) vwCl (List.flatten [(wMO qO k widthO manyO cellsO movedO tapeO linesO (qHa 0) bridgeO (qCa 0) wardO (qFr 0) (qAc 0) isKeptO (qLn 0) (qBn 0) (qRw 0) memoryO whoseO deepNowO brokenByO brokenAtO goesByO comesToO sagMoreO creakOfO wipedByO deepAtO sagAtO loadAtO orderRowO oftenO lossOneO lossOtherO vO tO mO gO), (wmHa qHa k hHa), (wmAc qAc k iAc), (wmLn qLn k aLn), (wmBn qBn k yBn), (wmRw qRw k rRw)] ++ List.flatten [(wmFr qFr k aFr), (wmCa qCa k pCa)]) U.heap ∧ va_K (dC, dI) vwCl (tK k) U ∧ va_D (fun _ => True) (List.flatten [(wMO qO k widthO manyO cellsO movedO tapeO linesO (qHa 0) bridgeO (qCa 0) wardO (qFr 0) (qAc 0) isKeptO (qLn 0) (qBn 0) (qRw 0) memoryO whoseO deepNowO brokenByO brokenAtO goesByO comesToO sagMoreO creakOfO wipedByO deepAtO sagAtO loadAtO orderRowO oftenO lossOneO lossOtherO vO tO mO gO), (wmHa qHa k hHa), (wmAc qAc k iAc), (wmLn qLn k aLn), (wmBn qBn k yBn), (wmRw qRw k rRw)] ++ List.flatten [(wmFr qFr k aFr), (wmCa qCa k pCa)]))) (va_Qi (fun (r : Int32) (_ : Unit) => True) (fun (_ : Unit) (t : State) => ∃ (vO' : Nat → Int32) (tO' : Nat → Int32) (mO' : Nat → Int32) (gO' : Nat → Int64) (hHa' : Nat → Nat → Int32) (iAc' : Nat → Nat → Int32) (aLn' : Nat → Nat → Int32) (yBn' : Nat → Nat → Int32) (rRw' : Nat → Nat → Int32), Rg 0 700 tO' ∧ Rg (-1) 127 mO' ∧ Pa_h hHa' ∧ Pa_i iAc' ∧ RgA (-1) 2 yBn' ∧ RgA 0 6 rRw' ∧ va_P (dC, dI) vwCl (List.flatten [(wMO qO k widthO manyO cellsO movedO tapeO linesO (qHa 0) bridgeO (qCa 0) wardO (qFr 0) (qAc 0) isKeptO (qLn 0) (qBn 0) (qRw 0) memoryO whoseO deepNowO brokenByO brokenAtO goesByO comesToO sagMoreO creakOfO wipedByO deepAtO sagAtO loadAtO orderRowO oftenO lossOneO lossOtherO vO' tO' mO' gO'), (wmHa qHa k hHa'), (wmAc qAc k iAc'), (wmLn qLn k aLn'), (wmBn qBn k yBn'), (wmRw qRw k rRw')] ++ List.flatten [(wmFr qFr k aFr), (wmCa qCa k pCa)]) t.heap) (va_A (List.flatten [(wMO qO k widthO manyO cellsO movedO tapeO linesO (qHa 0) bridgeO (qCa 0) wardO (qFr 0) (qAc 0) isKeptO (qLn 0) (qBn 0) (qRw 0) memoryO whoseO deepNowO brokenByO brokenAtO goesByO comesToO sagMoreO creakOfO wipedByO deepAtO sagAtO loadAtO orderRowO oftenO lossOneO lossOtherO vO tO mO gO), (wmHa qHa k hHa), (wmAc qAc k iAc), (wmLn qLn k aLn), (wmBn qBn k yBn), (wmRw qRw k rRw)] ++ List.flatten [(wmFr qFr k aFr), (wmCa qCa k pCa)]) sz)) 0 0 (va_A (List.flatten [(wMO qO k widthO manyO cellsO movedO tapeO linesO (qHa 0) bridgeO (qCa 0) wardO (qFr 0) (qAc 0) isKeptO (qLn 0) (qBn 0) (qRw 0) memoryO whoseO deepNowO brokenByO brokenAtO goesByO comesToO sagMoreO creakOfO wipedByO deepAtO sagAtO loadAtO orderRowO oftenO lossOneO lossOtherO vO tO mO gO), (wmHa qHa k hHa), (wmAc qAc k iAc), (wmLn qLn k aLn), (wmBn qBn k yBn), (wmRw qRw k rRw)] ++ List.flatten [(wmFr qFr k aFr), (wmCa qCa k pCa)]) sz) := by
  refine Met.ofW (cc := cX12_freeze) (maxL := 3) (ret := (some .int)) (by decide) rfl ?_
  intro p e s m args below meth c s₁ B hml hv
  obtain ⟨rfl, hsz, hP, hK, hD0⟩ := hv
  have hx := B.exec
  have hb := B.bytes
  have hr := B.returns
  have hts := atoms_spec (ws := wk_c_X12_freeze) B.pre
  have hown : s.vm.findClass RX12 = some m.cls := findClass_of_methodNamed B.named
  have hlocks := B.notSynchronized
  subst hsz
  have hD := hD0.self (sz := s.heap.size)
  generalize hAe : va_A (List.flatten [(wMO qO k widthO manyO cellsO movedO tapeO linesO (qHa 0) bridgeO (qCa 0) wardO (qFr 0) (qAc 0) isKeptO (qLn 0) (qBn 0) (qRw 0) memoryO whoseO deepNowO brokenByO brokenAtO goesByO comesToO sagMoreO creakOfO wipedByO deepAtO sagAtO loadAtO orderRowO oftenO lossOneO lossOtherO vO tO mO gO), (wmHa qHa k hHa), (wmAc qAc k iAc), (wmLn qLn k aLn), (wmBn qBn k yBn), (wmRw qRw k rRw)] ++ List.flatten [(wmFr qFr k aFr), (wmCa qCa k pCa)]) s.heap.size = A at hD ⊢
  have hA : ∀ q : Nat, s.heap.size ≤ q → A q := fun q h => by rw [← hAe]; exact Or.inr h
  have hS : va_S A s.heap s.heap [] := va_S.rf
  have hP : va_P (dC, dI) vwCl (List.flatten [(wMO qO k widthO manyO cellsO movedO tapeO linesO (qHa 0) bridgeO (qCa 0) wardO (qFr 0) (qAc 0) isKeptO (qLn 0) (qBn 0) (qRw 0) memoryO whoseO deepNowO brokenByO brokenAtO goesByO comesToO sagMoreO creakOfO wipedByO deepAtO sagAtO loadAtO orderRowO oftenO lossOneO lossOtherO vO tO mO gO), (wmHa qHa k hHa), (wmAc qAc k iAc), (wmLn qLn k aLn), (wmBn qBn k yBn), (wmRw qRw k rRw)] ++ List.flatten [(wmFr qFr k aFr), (wmCa qCa k pCa)]) s.heap := hP
  have hl := lv_entry ([.ref (qO 0), .int p1, .int p2]) (n := 3) (Nat.le_of_ble_eq_true rfl)
  rw [lg_entry_eq]
  generalize (lg_sl ([.ref (qO 0), .int p1, .int p2]) ++ List.replicate (3 - (lg_sl ([.ref (qO 0), .int p1, .int p2])).length) Slot.unset).toArray = ls at hl ⊢
  have hl : lv_has ls 3 [(0, .ref (qO 0)), (1, .int p1), (2, .int p2)] := hl
  refine w_gen (fun Q hQ => ?_)
  refine lv_aload_n hx hb dX12_freeze_0 rfl (lv_at hl 0 rfl) ?_
  refine lv_iconst (v := 0) hx hb dX12_freeze_1 (by decide) ?_
  refine va_put (D := (dC, dI)) (ci := 12) (v := .int 0) (ty := .int) (C := RX12) (T := TX12) (N := 59) hx hb hts (fun w h => List.mem_cons_of_mem _ (List.mem_append_right _ (List.mem_append_left _ h))) tyX12 tyX12_ok nmX12 hown hK hP hD hS 0 rfl rfl 0 (by decide) (hts (.fieldLink RX12 116 "SagMemoryModel" "thrown" "I") (wl_mem 0 rfl)) (fun _ h9 => h9) rfl (by decide +kernel) rfl rfl (Nat.le_of_ble_eq_true rfl) dX12_freeze_2 (fun H locs hP hD hS => ?_)
  have hP : va_P (dC, dI) vwCl (List.flatten [(wMO qO k widthO manyO cellsO movedO tapeO linesO (qHa 0) bridgeO (qCa 0) wardO (qFr 0) (qAc 0) isKeptO (qLn 0) (qBn 0) (qRw 0) memoryO whoseO deepNowO brokenByO brokenAtO goesByO comesToO sagMoreO creakOfO wipedByO deepAtO sagAtO loadAtO orderRowO oftenO lossOneO lossOtherO (va_up vO 0 (0 : Int32)) tO mO gO), (wmHa qHa k hHa), (wmAc qAc k iAc), (wmLn qLn k aLn), (wmBn qBn k yBn), (wmRw qRw k rRw)] ++ List.flatten [(wmFr qFr k aFr), (wmCa qCa k pCa)]) H := hP
  have hD : va_D A (List.flatten [(wMO qO k widthO manyO cellsO movedO tapeO linesO (qHa 0) bridgeO (qCa 0) wardO (qFr 0) (qAc 0) isKeptO (qLn 0) (qBn 0) (qRw 0) memoryO whoseO deepNowO brokenByO brokenAtO goesByO comesToO sagMoreO creakOfO wipedByO deepAtO sagAtO loadAtO orderRowO oftenO lossOneO lossOtherO (va_up vO 0 (0 : Int32)) tO mO gO), (wmHa qHa k hHa), (wmAc qAc k iAc), (wmLn qLn k aLn), (wmBn qBn k yBn), (wmRw qRw k rRw)] ++ List.flatten [(wmFr qFr k aFr), (wmCa qCa k pCa)]) := hD
  refine lv_aload_n hx hb dX12_freeze_5 rfl (lv_at hl 0 rfl) ?_
  refine lv_iload_n hx hb dX12_freeze_6 rfl (lv_at hl 1 rfl) ?_
  refine lv_i2l hx hb dX12_freeze_7 rfl ?_
  have hPc := hP.sub (ws' := (List.flatten [(wMO qO k widthO manyO cellsO movedO tapeO linesO (qHa 0) bridgeO (qCa 0) wardO (qFr 0) (qAc 0) isKeptO (qLn 0) (qBn 0) (qRw 0) memoryO whoseO deepNowO brokenByO brokenAtO goesByO comesToO sagMoreO creakOfO wipedByO deepAtO sagAtO loadAtO orderRowO oftenO lossOneO lossOtherO (va_up vO 0 (0 : Int32)) tO mO gO), (wmHa qHa k hHa)])) [0, 1] rfl
  refine vp_callSi (va_Run.run (va_runV (As := [.long p1.toInt64]) (rest := []) ⟨hx, hb, hml, hown, hts⟩ (c_X12_isCart l dC dI k qO widthO manyO cellsO movedO tapeO linesO bridgeO (qCa 0) wardO (qFr 0) (qAc 0) isKeptO (qLn 0) (qBn 0) (qRw 0) memoryO whoseO deepNowO brokenByO brokenAtO goesByO comesToO sagMoreO creakOfO wipedByO deepAtO sagAtO loadAtO orderRowO oftenO lossOneO lossOtherO (va_up vO 0 (0 : Int32)) tO mO gO qHa hHa p1.toInt64 htO hmO hhHa) (cwV 1 hts (gk_V (wl_mem 1 rfl) (wl_mem 2 rfl) (wl_mem 3 rfl) (wl_mem 4 rfl) (fun w h => List.mem_cons_of_mem _ (List.mem_append_right _ (List.mem_append_right _ (List.mem_append_left _ h)))) wkg_c_X12_isCart) rfl rfl rfl (by decide +kernel) ⟨Nat.le_of_ble_eq_true rfl, Nat.le_of_ble_eq_true rfl⟩) ⟨fun a U g mk q => by obtain ⟨q0, qP, qK⟩ := q; exact ⟨q0, qP, va_K.moved (u := U) (U := U.calling g mk a) (Vm.Alike.refl U.vm) qK⟩, va_recv hK hPc (ci := 12) (q0 := 0) rfl rfl, fun U hU hW => ⟨rfl, by rw [hU]; exact hPc, va_K.moved hW.alike hK⟩⟩ rfl rfl hl.1 rfl (lv_room (Nat.le_of_ble_eq_true rfl)) dX12_freeze_8 ⟨Nat.le_of_ble_eq_true rfl, Nat.le_of_ble_eq_true rfl⟩)) (fun rz2 gz1 => ?_)
  clear hPc
  obtain ⟨pz3, pz4⟩ := gz1
  have pz3 : rz2.toInt = 0 ∨ rz2.toInt = 1 := by first | exact pz3 | (simp only [Int32.toInt_toInt64] at pz3; exact pz3)
  have pz4 : rz2.toInt = 0 ∨ (0 ≤ p1.toInt ∧ p1.toInt ≤ 6) := by first | exact pz4 | (simp only [Int32.toInt_toInt64] at pz4; exact pz4)
  refine lv_if_eq (tgt := 21) hx hb dX12_freeze_11 (by decide) (fun cz5 => ?_) (fun cz5 => ?_)
  · skip
    have zz6 : rz2.toInt = (0 : Int) := zi_eq.mp cz5
    refine lv_bipush (v := (-2)) hx hb dX12_freeze_21 (by decide) ?_
    rw [hQ]
    exact W.iret (v := (-2 : Int32)) hx hb hr (fun t ht hW => ⟨⟨(-2 : Int32), (), rfl, trivial, (va_up vO 0 (0 : Int32)), tO, mO, gO, hHa, iAc, aLn, yBn, rRw, htO, hmO, hhHa, hiAc, hyBn, hrRw, by rw [ht]; exact hP⟩, hS.F ht⟩) hS.2.2 dX12_freeze_23
  · skip
    have zz7 : ¬ rz2.toInt = (0 : Int) := fun h9 => cz5 (zi_eq.mpr h9)
    refine lv_iload_n hx hb dX12_freeze_14 rfl (lv_at hl 2 rfl) ?_
    have hPc : va_P (dC, dI) vwCl (List.flatten ([] : List va_W)) H := fun k q h => by simp at h
    refine vp_callSi (va_Run.run (va_runS (As := [.int p2]) (rest := []) ⟨hx, hb, hml, hown, hts⟩ (c_X12_isHalf l dC dI k p2) (va_cwS 1 hts (gk_S (wl_mem 5 rfl) (wl_mem 6 rfl) (wl_mem 4 rfl) (fun w h => List.mem_cons_of_mem _ (List.mem_append_right _ (List.mem_append_right _ (List.mem_append_right _ (List.mem_append_left _ h))))) wkg_c_X12_isHalf) rfl rfl rfl (by decide +kernel) ⟨Nat.le_of_ble_eq_true rfl, Nat.le_of_ble_eq_true rfl⟩) ⟨fun a U g mk q => by obtain ⟨q0, qP, qK⟩ := q; exact ⟨q0, qP, va_K.moved (u := U) (U := U.calling g mk a) (Vm.Alike.refl U.vm) qK⟩, fun U hU hW => ⟨rfl, by rw [hU]; exact hPc, va_K.moved hW.alike hK⟩⟩ rfl rfl hl.1 rfl (lv_room (Nat.le_of_ble_eq_true rfl)) dX12_freeze_15 ⟨Nat.le_of_ble_eq_true rfl, Nat.le_of_ble_eq_true rfl⟩)) (fun rz9 gz8 => ?_)
    clear hPc
    rcases gz8 with ⟨er, cz10⟩ | ⟨er, cz11, cz12⟩ | ⟨er, cz13, cz14⟩
    · obtain rfl := er.symm
      have zz15 : p2.toInt < (0 : Int) := by have h9 := zi_ltL.mp cz10; simp only [Int32.toInt_toInt64] at h9; exact h9
      refine lv_if_ne (tgt := 24) hx hb dX12_freeze_18 (by decide) (fun cz16 => ?_) (fun cz16 => ?_)
      · skip
        exact absurd cz16 (by decide)
      · skip
        refine lv_bipush (v := (-2)) hx hb dX12_freeze_21 (by decide) ?_
        rw [hQ]
        exact W.iret (v := (-2 : Int32)) hx hb hr (fun t ht hW => ⟨⟨(-2 : Int32), (), rfl, trivial, (va_up vO 0 (0 : Int32)), tO, mO, gO, hHa, iAc, aLn, yBn, rRw, htO, hmO, hhHa, hiAc, hyBn, hrRw, by rw [ht]; exact hP⟩, hS.F ht⟩) hS.2.2 dX12_freeze_23
    · obtain rfl := er.symm
      have zz17 : ¬ p2.toInt < (0 : Int) := by intro h9; apply cz11; rw [zi_ltL]; simp only [Int32.toInt_toInt64]; exact h9
      have zz18 : (1 : Int) < p2.toInt := by have h9 := zi_ltL.mp cz12; simp only [Int32.toInt_toInt64] at h9; exact h9
      refine lv_if_ne (tgt := 24) hx hb dX12_freeze_18 (by decide) (fun cz19 => ?_) (fun cz19 => ?_)
      · skip
        exact absurd cz19 (by decide)
      · skip
        refine lv_bipush (v := (-2)) hx hb dX12_freeze_21 (by decide) ?_
        rw [hQ]
        exact W.iret (v := (-2 : Int32)) hx hb hr (fun t ht hW => ⟨⟨(-2 : Int32), (), rfl, trivial, (va_up vO 0 (0 : Int32)), tO, mO, gO, hHa, iAc, aLn, yBn, rRw, htO, hmO, hhHa, hiAc, hyBn, hrRw, by rw [ht]; exact hP⟩, hS.F ht⟩) hS.2.2 dX12_freeze_23
    · obtain rfl := er.symm
      have zz20 : ¬ p2.toInt < (0 : Int) := by intro h9; apply cz13; rw [zi_ltL]; simp only [Int32.toInt_toInt64]; exact h9
      have zz21 : ¬ (1 : Int) < p2.toInt := by intro h9; apply cz14; rw [zi_ltL]; simp only [Int32.toInt_toInt64]; exact h9
      refine lv_if_ne (tgt := 24) hx hb dX12_freeze_18 (by decide) (fun cz22 => ?_) (fun cz22 => ?_)
      · skip
        refine lv_aload_n hx hb dX12_freeze_24 rfl (lv_at hl 0 rfl) ?_
        refine va_get (D := (dC, dI)) (ci := 12) (v := .ref (qHa 0)) (C := RX12) (T := TX12) (N := 59) hx hb hts (fun w h => List.mem_cons_of_mem _ (List.mem_append_right _ (List.mem_append_left _ h))) hown hK hP 0 rfl rfl 17 (by decide) (hts (.fieldLink RX12 34 "SagMemoryModel" "has" "[I") (wl_mem 7 rfl)) (fun _ h9 => h9) rfl dX12_freeze_25 ?_
        refine lv_bipush (v := 7) hx hb dX12_freeze_28 (by decide) ?_
        refine va_iald hx hb hK hP 1 0 rfl rfl (by unfold vp_in; decide) dX12_freeze_30 ?_
        refine lv_topi (fun xz23 exz23 => ?_)
        have gxz23 : xz23.toInt = ((hHa 0) 7).toInt := by rw [exz23]; rfl
        have bxz23 : 0 ≤ xz23.toInt ∧ xz23.toInt ≤ 30 := by rw [exz23]; exact (hhHa 0).2.2.2.2 7 (by decide)
        refine lv_bipush (v := 30) hx hb dX12_freeze_31 (by decide) ?_
        refine lv_icmp_ne (tgt := 39) hx hb dX12_freeze_33 (by decide) (fun cz24 => ?_) (fun cz24 => ?_)
        · skip
          have zz25 : ¬ xz23.toInt = (30 : Int) := fun h9 => cz24 (zi_eq.mpr h9)
          refine lv_aload_n hx hb dX12_freeze_39 rfl (lv_at hl 0 rfl) ?_
          have hPc := hP.sub (ws' := (List.flatten [(wMO qO k widthO manyO cellsO movedO tapeO linesO (qHa 0) bridgeO (qCa 0) wardO (qFr 0) (qAc 0) isKeptO (qLn 0) (qBn 0) (qRw 0) memoryO whoseO deepNowO brokenByO brokenAtO goesByO comesToO sagMoreO creakOfO wipedByO deepAtO sagAtO loadAtO orderRowO oftenO lossOneO lossOtherO (va_up vO 0 (0 : Int32)) tO mO gO), (wmLn qLn k aLn), (wmBn qBn k yBn), (wmRw qRw k rRw)] ++ List.flatten [(wmHa qHa k hHa), (wmFr qFr k aFr), (wmCa qCa k pCa), (wmAc qAc k iAc)])) [0, 3, 4, 5, 1, 6, 7, 2] rfl
          have hC : [0, 3, 4, 5, 1, 6, 7, 2].map (fun i => (List.flatten [(wMO qO k widthO manyO cellsO movedO tapeO linesO (qHa 0) bridgeO (qCa 0) wardO (qFr 0) (qAc 0) isKeptO (qLn 0) (qBn 0) (qRw 0) memoryO whoseO deepNowO brokenByO brokenAtO goesByO comesToO sagMoreO creakOfO wipedByO deepAtO sagAtO loadAtO orderRowO oftenO lossOneO lossOtherO (va_up vO 0 (0 : Int32)) tO mO gO), (wmHa qHa k hHa), (wmAc qAc k iAc), (wmLn qLn k aLn), (wmBn qBn k yBn), (wmRw qRw k rRw)] ++ List.flatten [(wmFr qFr k aFr), (wmCa qCa k pCa)])[i]?) = (List.flatten [(wMO qO k widthO manyO cellsO movedO tapeO linesO (qHa 0) bridgeO (qCa 0) wardO (qFr 0) (qAc 0) isKeptO (qLn 0) (qBn 0) (qRw 0) memoryO whoseO deepNowO brokenByO brokenAtO goesByO comesToO sagMoreO creakOfO wipedByO deepAtO sagAtO loadAtO orderRowO oftenO lossOneO lossOtherO (va_up vO 0 (0 : Int32)) tO mO gO), (wmLn qLn k aLn), (wmBn qBn k yBn), (wmRw qRw k rRw)] ++ List.flatten [(wmHa qHa k hHa), (wmFr qFr k aFr), (wmCa qCa k pCa), (wmAc qAc k iAc)]).map some := rfl
          have hDc := hD.sub [0, 3, 4, 5, 1, 6, 7, 2] (by decide) hC
          have hFc := va_free hD hS hA [0, 3, 4, 5, 1, 6, 7, 2] hC
          refine va_callv (va_runV (As := []) (rest := []) ⟨hx, hb, hml, hown, hts⟩ (c_X12_lays l dC dI k H.size qO widthO manyO cellsO movedO tapeO linesO bridgeO wardO isKeptO memoryO whoseO deepNowO brokenByO brokenAtO goesByO comesToO sagMoreO creakOfO wipedByO deepAtO sagAtO loadAtO orderRowO oftenO lossOneO lossOtherO (va_up vO 0 (0 : Int32)) tO mO gO qHa hHa qFr aFr qCa pCa qAc iAc qLn aLn qBn yBn qRw rRw htO hmO hhHa hpCa hiAc hyBn hrRw) (cwV 0 hts (gk_V (wl_mem 8 rfl) (wl_mem 9 rfl) (wl_mem 10 rfl) (wl_mem 4 rfl) (fun w h => List.mem_cons_of_mem _ (List.mem_append_right _ (List.mem_append_right _ (List.mem_append_right _ (List.mem_append_right _ (List.mem_append_left _ h)))))) wkg_c_X12_lays) rfl rfl rfl (by decide +kernel) ⟨Nat.le_of_ble_eq_true rfl, Nat.le_of_ble_eq_true rfl⟩) ⟨fun a U g mk q => by obtain ⟨q0, q1, qP, qK, qD⟩ := q; exact ⟨q0, q1, qP, va_K.moved (u := U) (U := U.calling g mk a) (Vm.Alike.refl U.vm) qK, qD⟩, va_recv hK hPc (ci := 12) (q0 := 0) rfl rfl, fun U hU hW => ⟨rfl, by rw [hU], by rw [hU]; exact hPc, va_K.moved hW.alike hK, hDc.weaken (fun _ _ _ _ => trivial)⟩⟩ rfl rfl hl.1 rfl (lv_room (Nat.le_of_ble_eq_true rfl)) dX12_freeze_40 ⟨Nat.le_of_ble_eq_true rfl, Nat.le_of_ble_eq_true rfl⟩) hS (fun q _ h => hFc q h) hFc (fun u t H1 locs ht hvm gz26 hB hz1 hk1 hS => ?_)
          obtain ⟨vz28, tz29, mz30, gz31, az32, yz33, rz34, htz29, hmz30, hyz33, hrz34, hP1⟩ := hB
          rw [ht] at hP1
          obtain ⟨hP, hD⟩ := w_callR hP hD hk1 hP1 [0, 3, 4, 5] rfl rfl (wk_memC [1, 6, 7, 2] rfl) rfl [some 0, none, none, some 1, some 2, some 3] rfl rfl
          clear hPc hC hDc hFc hk1 hP1
          generalize H1 = H at hP hS ⊢
          have hP : va_P (dC, dI) vwCl (List.flatten [(wMO qO k widthO manyO cellsO movedO tapeO linesO (qHa 0) bridgeO (qCa 0) wardO (qFr 0) (qAc 0) isKeptO (qLn 0) (qBn 0) (qRw 0) memoryO whoseO deepNowO brokenByO brokenAtO goesByO comesToO sagMoreO creakOfO wipedByO deepAtO sagAtO loadAtO orderRowO oftenO lossOneO lossOtherO vz28 tz29 mz30 gz31), (wmHa qHa k hHa), (wmAc qAc k iAc), (wmLn qLn k az32), (wmBn qBn k yz33), (wmRw qRw k rz34)] ++ List.flatten [(wmFr qFr k aFr), (wmCa qCa k pCa)]) H := hP
          have hD : va_D A (List.flatten [(wMO qO k widthO manyO cellsO movedO tapeO linesO (qHa 0) bridgeO (qCa 0) wardO (qFr 0) (qAc 0) isKeptO (qLn 0) (qBn 0) (qRw 0) memoryO whoseO deepNowO brokenByO brokenAtO goesByO comesToO sagMoreO creakOfO wipedByO deepAtO sagAtO loadAtO orderRowO oftenO lossOneO lossOtherO vz28 tz29 mz30 gz31), (wmHa qHa k hHa), (wmAc qAc k iAc), (wmLn qLn k az32), (wmBn qBn k yz33), (wmRw qRw k rz34)] ++ List.flatten [(wmFr qFr k aFr), (wmCa qCa k pCa)]) := hD
          refine W.widen (k := 0) (n := 0) (Nat.le_refl 0) (Nat.le_refl 0) ?_
          refine lv_aload_n hx hb dX12_freeze_43 rfl (lv_at hl 0 rfl) ?_
          refine lv_iload_n hx hb dX12_freeze_44 rfl (lv_at hl 2 rfl) ?_
          refine lv_iconst (v := 1) hx hb dX12_freeze_45 (by decide) ?_
          refine lv_icmp_ne (tgt := 53) hx hb dX12_freeze_46 (by decide) (fun cz58 => ?_) (fun cz58 => ?_)
          · skip
            have zz59 : ¬ p2.toInt = (1 : Int) := fun h9 => cz58 (zi_eq.mpr h9)
            refine lv_iconst (v := 2) hx hb dX12_freeze_53 (by decide) ?_
            refine lv_iload_n hx hb dX12_freeze_54 rfl (lv_at hl 1 rfl) ?_
            refine lv_iconst (v := 0) hx hb dX12_freeze_55 (by decide) ?_
            have hPc := hP.sub (ws' := (List.flatten [(wmHa qHa k hHa), (wmAc qAc k iAc)] ++ List.flatten [(wMO qO k widthO manyO cellsO movedO tapeO linesO (qHa 0) bridgeO (qCa 0) wardO (qFr 0) (qAc 0) isKeptO (qLn 0) (qBn 0) (qRw 0) memoryO whoseO deepNowO brokenByO brokenAtO goesByO comesToO sagMoreO creakOfO wipedByO deepAtO sagAtO loadAtO orderRowO oftenO lossOneO lossOtherO vz28 tz29 mz30 gz31)])) [1, 2, 0] rfl
            have hC : [1, 2, 0].map (fun i => (List.flatten [(wMO qO k widthO manyO cellsO movedO tapeO linesO (qHa 0) bridgeO (qCa 0) wardO (qFr 0) (qAc 0) isKeptO (qLn 0) (qBn 0) (qRw 0) memoryO whoseO deepNowO brokenByO brokenAtO goesByO comesToO sagMoreO creakOfO wipedByO deepAtO sagAtO loadAtO orderRowO oftenO lossOneO lossOtherO vz28 tz29 mz30 gz31), (wmHa qHa k hHa), (wmAc qAc k iAc), (wmLn qLn k az32), (wmBn qBn k yz33), (wmRw qRw k rz34)] ++ List.flatten [(wmFr qFr k aFr), (wmCa qCa k pCa)])[i]?) = (List.flatten [(wmHa qHa k hHa), (wmAc qAc k iAc)] ++ List.flatten [(wMO qO k widthO manyO cellsO movedO tapeO linesO (qHa 0) bridgeO (qCa 0) wardO (qFr 0) (qAc 0) isKeptO (qLn 0) (qBn 0) (qRw 0) memoryO whoseO deepNowO brokenByO brokenAtO goesByO comesToO sagMoreO creakOfO wipedByO deepAtO sagAtO loadAtO orderRowO oftenO lossOneO lossOtherO vz28 tz29 mz30 gz31)]).map some := rfl
            have hDc := hD.sub [1, 2, 0] (by decide) hC
            have hFc := va_free hD hS hA [1, 2, 0] hC
            refine va_callv (va_runV (As := [.int 2, .int p1, .int 0]) (rest := []) ⟨hx, hb, hml, hown, hts⟩ (c_X12_does l dC dI k H.size qO widthO manyO cellsO movedO tapeO linesO bridgeO (qCa 0) wardO (qFr 0) isKeptO (qLn 0) (qBn 0) (qRw 0) memoryO whoseO deepNowO brokenByO brokenAtO goesByO comesToO sagMoreO creakOfO wipedByO deepAtO sagAtO loadAtO orderRowO oftenO lossOneO lossOtherO vz28 tz29 mz30 gz31 qHa hHa qAc iAc (2 : Int32) p1 (0 : Int32) htz29 hmz30 hhHa hiAc (by show ((hHa 0) 7).toInt ≤ 29; omega) (by show 0 ≤ p1.toInt ∧ p1.toInt ≤ 6; omega) (by show (-1) ≤ (0 : Int) ∧ (0 : Int) ≤ 2; omega)) (cwV 3 hts (gk_V (wl_mem 11 rfl) (wl_mem 12 rfl) (wl_mem 13 rfl) (wl_mem 4 rfl) (fun w h => List.mem_cons_of_mem _ (List.mem_append_right _ (List.mem_append_right _ (List.mem_append_right _ (List.mem_append_right _ (List.mem_append_right _ (List.mem_append_left _ h))))))) wkg_c_X12_does) rfl rfl rfl (by decide +kernel) ⟨Nat.le_of_ble_eq_true rfl, Nat.le_of_ble_eq_true rfl⟩) ⟨fun a U g mk q => by obtain ⟨q0, q1, qP, qK, qD⟩ := q; exact ⟨q0, q1, qP, va_K.moved (u := U) (U := U.calling g mk a) (Vm.Alike.refl U.vm) qK, qD⟩, va_recv hK hPc (ci := 12) (q0 := 2) rfl rfl, fun U hU hW => ⟨rfl, by rw [hU], by rw [hU]; exact hPc, va_K.moved hW.alike hK, hDc.weaken (fun _ _ _ _ => trivial)⟩⟩ rfl rfl hl.1 rfl (lv_room (Nat.le_of_ble_eq_true rfl)) dX12_freeze_56 ⟨Nat.le_of_ble_eq_true rfl, Nat.le_of_ble_eq_true rfl⟩) hS (fun q _ h => hFc q h) hFc (fun u t H1 locs ht hvm gz60 hB hz1 hk1 hS => ?_)
            obtain ⟨hz62, iz63, hhz62, hiz63, hP1⟩ := hB
            rw [ht] at hP1
            obtain ⟨hP, hD⟩ := w_callR hP hD hk1 hP1 [1, 2] rfl rfl (wk_memC [0] rfl) rfl [none, some 0, some 1, none, none, none] rfl rfl
            clear hPc hC hDc hFc hk1 hP1
            generalize H1 = H at hP hS ⊢
            have hP : va_P (dC, dI) vwCl (List.flatten [(wMO qO k widthO manyO cellsO movedO tapeO linesO (qHa 0) bridgeO (qCa 0) wardO (qFr 0) (qAc 0) isKeptO (qLn 0) (qBn 0) (qRw 0) memoryO whoseO deepNowO brokenByO brokenAtO goesByO comesToO sagMoreO creakOfO wipedByO deepAtO sagAtO loadAtO orderRowO oftenO lossOneO lossOtherO vz28 tz29 mz30 gz31), (wmHa qHa k hz62), (wmAc qAc k iz63), (wmLn qLn k az32), (wmBn qBn k yz33), (wmRw qRw k rz34)] ++ List.flatten [(wmFr qFr k aFr), (wmCa qCa k pCa)]) H := hP
            have hD : va_D A (List.flatten [(wMO qO k widthO manyO cellsO movedO tapeO linesO (qHa 0) bridgeO (qCa 0) wardO (qFr 0) (qAc 0) isKeptO (qLn 0) (qBn 0) (qRw 0) memoryO whoseO deepNowO brokenByO brokenAtO goesByO comesToO sagMoreO creakOfO wipedByO deepAtO sagAtO loadAtO orderRowO oftenO lossOneO lossOtherO vz28 tz29 mz30 gz31), (wmHa qHa k hz62), (wmAc qAc k iz63), (wmLn qLn k az32), (wmBn qBn k yz33), (wmRw qRw k rz34)] ++ List.flatten [(wmFr qFr k aFr), (wmCa qCa k pCa)]) := hD
            refine W.widen (k := 0) (n := 0) (Nat.le_refl 0) (Nat.le_refl 0) ?_
            refine lv_aload_n hx hb dX12_freeze_59 rfl (lv_at hl 0 rfl) ?_
            refine va_get (D := (dC, dI)) (ci := 12) (v := .int (vz28 9)) (C := RX12) (T := TX12) (N := 59) hx hb hts (fun w h => List.mem_cons_of_mem _ (List.mem_append_right _ (List.mem_append_left _ h))) hown hK hP 0 rfl rfl 25 (by decide) (hts (.fieldLink RX12 298 "SagMemoryModel" "frosts" "I") (wl_mem 14 rfl)) (fun _ h9 => h9) rfl dX12_freeze_60 ?_
            refine lv_iload_n hx hb dX12_freeze_63 rfl (lv_at hl 1 rfl) ?_
            have hPc : va_P (dC, dI) vwCl (List.flatten ([] : List va_W)) H := fun k q h => by simp at h
            refine vp_callSi (va_Run.run (va_runS (As := [.int (vz28 9), .int p1]) (rest := []) ⟨hx, hb, hml, hown, hts⟩ (c_X12_isBit l dC dI k (vz28 9) p1) (va_cwS 2 hts (gk_S (wl_mem 15 rfl) (wl_mem 16 rfl) (wl_mem 4 rfl) (fun w h => List.mem_cons_of_mem _ (List.mem_append_right _ (List.mem_append_right _ (List.mem_append_right _ (List.mem_append_right _ (List.mem_append_right _ (List.mem_append_right _ (List.mem_append_left _ h)))))))) wkg_c_X12_isBit) rfl rfl rfl (by decide +kernel) ⟨Nat.le_of_ble_eq_true rfl, Nat.le_of_ble_eq_true rfl⟩) ⟨fun a U g mk q => by obtain ⟨q0, qP, qK⟩ := q; exact ⟨q0, qP, va_K.moved (u := U) (U := U.calling g mk a) (Vm.Alike.refl U.vm) qK⟩, fun U hU hW => ⟨rfl, by rw [hU]; exact hPc, va_K.moved hW.alike hK⟩⟩ rfl rfl hl.1 rfl (lv_room (Nat.le_of_ble_eq_true rfl)) dX12_freeze_64 ⟨Nat.le_of_ble_eq_true rfl, Nat.le_of_ble_eq_true rfl⟩)) (fun rz65 gz64 => ?_)
            clear hPc
            have pz66 := gz64
            have pz66 : rz65.toInt = 0 ∨ rz65.toInt = 1 := pz66
            refine lv_if_eq (tgt := 74) hx hb dX12_freeze_67 (by decide) (fun cz67 => ?_) (fun cz67 => ?_)
            · skip
              have zz68 : rz65.toInt = (0 : Int) := zi_eq.mp cz67
              refine lv_iconst (v := 0) hx hb dX12_freeze_74 (by decide) ?_
              rw [hQ]
              exact W.iret (v := (0 : Int32)) hx hb hr (fun t ht hW => ⟨⟨(0 : Int32), (), rfl, trivial, vz28, tz29, mz30, gz31, hz62, iz63, az32, yz33, rz34, htz29, hmz30, hhz62, hiz63, hyz33, hrz34, by rw [ht]; exact hP⟩, hS.F ht⟩) hS.2.2 dX12_freeze_75
            · skip
              have zz69 : ¬ rz65.toInt = (0 : Int) := fun h9 => cz67 (zi_eq.mpr h9)
              refine lv_iconst (v := 1) hx hb dX12_freeze_70 (by decide) ?_
              refine lv_goto (tgt := 75) hx hb dX12_freeze_71 (by decide) ?_
              rw [hQ]
              exact W.iret (v := (1 : Int32)) hx hb hr (fun t ht hW => ⟨⟨(1 : Int32), (), rfl, trivial, vz28, tz29, mz30, gz31, hz62, iz63, az32, yz33, rz34, htz29, hmz30, hhz62, hiz63, hyz33, hrz34, by rw [ht]; exact hP⟩, hS.F ht⟩) hS.2.2 dX12_freeze_75
          · skip
            have zz70 : p2.toInt = (1 : Int) := zi_eq.mp cz58
            refine lv_iconst (v := 1) hx hb dX12_freeze_49 (by decide) ?_
            refine lv_goto (tgt := 54) hx hb dX12_freeze_50 (by decide) ?_
            refine lv_iload_n hx hb dX12_freeze_54 rfl (lv_at hl 1 rfl) ?_
            refine lv_iconst (v := 0) hx hb dX12_freeze_55 (by decide) ?_
            have hPc := hP.sub (ws' := (List.flatten [(wmHa qHa k hHa), (wmAc qAc k iAc)] ++ List.flatten [(wMO qO k widthO manyO cellsO movedO tapeO linesO (qHa 0) bridgeO (qCa 0) wardO (qFr 0) (qAc 0) isKeptO (qLn 0) (qBn 0) (qRw 0) memoryO whoseO deepNowO brokenByO brokenAtO goesByO comesToO sagMoreO creakOfO wipedByO deepAtO sagAtO loadAtO orderRowO oftenO lossOneO lossOtherO vz28 tz29 mz30 gz31)])) [1, 2, 0] rfl
            have hC : [1, 2, 0].map (fun i => (List.flatten [(wMO qO k widthO manyO cellsO movedO tapeO linesO (qHa 0) bridgeO (qCa 0) wardO (qFr 0) (qAc 0) isKeptO (qLn 0) (qBn 0) (qRw 0) memoryO whoseO deepNowO brokenByO brokenAtO goesByO comesToO sagMoreO creakOfO wipedByO deepAtO sagAtO loadAtO orderRowO oftenO lossOneO lossOtherO vz28 tz29 mz30 gz31), (wmHa qHa k hHa), (wmAc qAc k iAc), (wmLn qLn k az32), (wmBn qBn k yz33), (wmRw qRw k rz34)] ++ List.flatten [(wmFr qFr k aFr), (wmCa qCa k pCa)])[i]?) = (List.flatten [(wmHa qHa k hHa), (wmAc qAc k iAc)] ++ List.flatten [(wMO qO k widthO manyO cellsO movedO tapeO linesO (qHa 0) bridgeO (qCa 0) wardO (qFr 0) (qAc 0) isKeptO (qLn 0) (qBn 0) (qRw 0) memoryO whoseO deepNowO brokenByO brokenAtO goesByO comesToO sagMoreO creakOfO wipedByO deepAtO sagAtO loadAtO orderRowO oftenO lossOneO lossOtherO vz28 tz29 mz30 gz31)]).map some := rfl
            have hDc := hD.sub [1, 2, 0] (by decide) hC
            have hFc := va_free hD hS hA [1, 2, 0] hC
            refine va_callv (va_runV (As := [.int 1, .int p1, .int 0]) (rest := []) ⟨hx, hb, hml, hown, hts⟩ (c_X12_does l dC dI k H.size qO widthO manyO cellsO movedO tapeO linesO bridgeO (qCa 0) wardO (qFr 0) isKeptO (qLn 0) (qBn 0) (qRw 0) memoryO whoseO deepNowO brokenByO brokenAtO goesByO comesToO sagMoreO creakOfO wipedByO deepAtO sagAtO loadAtO orderRowO oftenO lossOneO lossOtherO vz28 tz29 mz30 gz31 qHa hHa qAc iAc (1 : Int32) p1 (0 : Int32) htz29 hmz30 hhHa hiAc (by show ((hHa 0) 7).toInt ≤ 29; omega) (by show 0 ≤ p1.toInt ∧ p1.toInt ≤ 6; omega) (by show (-1) ≤ (0 : Int) ∧ (0 : Int) ≤ 2; omega)) (cwV 3 hts (gk_V (wl_mem 11 rfl) (wl_mem 12 rfl) (wl_mem 13 rfl) (wl_mem 4 rfl) (fun w h => List.mem_cons_of_mem _ (List.mem_append_right _ (List.mem_append_right _ (List.mem_append_right _ (List.mem_append_right _ (List.mem_append_right _ (List.mem_append_left _ h))))))) wkg_c_X12_does) rfl rfl rfl (by decide +kernel) ⟨Nat.le_of_ble_eq_true rfl, Nat.le_of_ble_eq_true rfl⟩) ⟨fun a U g mk q => by obtain ⟨q0, q1, qP, qK, qD⟩ := q; exact ⟨q0, q1, qP, va_K.moved (u := U) (U := U.calling g mk a) (Vm.Alike.refl U.vm) qK, qD⟩, va_recv hK hPc (ci := 12) (q0 := 2) rfl rfl, fun U hU hW => ⟨rfl, by rw [hU], by rw [hU]; exact hPc, va_K.moved hW.alike hK, hDc.weaken (fun _ _ _ _ => trivial)⟩⟩ rfl rfl hl.1 rfl (lv_room (Nat.le_of_ble_eq_true rfl)) dX12_freeze_56 ⟨Nat.le_of_ble_eq_true rfl, Nat.le_of_ble_eq_true rfl⟩) hS (fun q _ h => hFc q h) hFc (fun u t H1 locs ht hvm gz71 hB hz1 hk1 hS => ?_)
            obtain ⟨hz73, iz74, hhz73, hiz74, hP1⟩ := hB
            rw [ht] at hP1
            obtain ⟨hP, hD⟩ := w_callR hP hD hk1 hP1 [1, 2] rfl rfl (wk_memC [0] rfl) rfl [none, some 0, some 1, none, none, none] rfl rfl
            clear hPc hC hDc hFc hk1 hP1
            generalize H1 = H at hP hS ⊢
            have hP : va_P (dC, dI) vwCl (List.flatten [(wMO qO k widthO manyO cellsO movedO tapeO linesO (qHa 0) bridgeO (qCa 0) wardO (qFr 0) (qAc 0) isKeptO (qLn 0) (qBn 0) (qRw 0) memoryO whoseO deepNowO brokenByO brokenAtO goesByO comesToO sagMoreO creakOfO wipedByO deepAtO sagAtO loadAtO orderRowO oftenO lossOneO lossOtherO vz28 tz29 mz30 gz31), (wmHa qHa k hz73), (wmAc qAc k iz74), (wmLn qLn k az32), (wmBn qBn k yz33), (wmRw qRw k rz34)] ++ List.flatten [(wmFr qFr k aFr), (wmCa qCa k pCa)]) H := hP
            have hD : va_D A (List.flatten [(wMO qO k widthO manyO cellsO movedO tapeO linesO (qHa 0) bridgeO (qCa 0) wardO (qFr 0) (qAc 0) isKeptO (qLn 0) (qBn 0) (qRw 0) memoryO whoseO deepNowO brokenByO brokenAtO goesByO comesToO sagMoreO creakOfO wipedByO deepAtO sagAtO loadAtO orderRowO oftenO lossOneO lossOtherO vz28 tz29 mz30 gz31), (wmHa qHa k hz73), (wmAc qAc k iz74), (wmLn qLn k az32), (wmBn qBn k yz33), (wmRw qRw k rz34)] ++ List.flatten [(wmFr qFr k aFr), (wmCa qCa k pCa)]) := hD
            refine W.widen (k := 0) (n := 0) (Nat.le_refl 0) (Nat.le_refl 0) ?_
            refine lv_aload_n hx hb dX12_freeze_59 rfl (lv_at hl 0 rfl) ?_
            refine va_get (D := (dC, dI)) (ci := 12) (v := .int (vz28 9)) (C := RX12) (T := TX12) (N := 59) hx hb hts (fun w h => List.mem_cons_of_mem _ (List.mem_append_right _ (List.mem_append_left _ h))) hown hK hP 0 rfl rfl 25 (by decide) (hts (.fieldLink RX12 298 "SagMemoryModel" "frosts" "I") (wl_mem 14 rfl)) (fun _ h9 => h9) rfl dX12_freeze_60 ?_
            refine lv_iload_n hx hb dX12_freeze_63 rfl (lv_at hl 1 rfl) ?_
            have hPc : va_P (dC, dI) vwCl (List.flatten ([] : List va_W)) H := fun k q h => by simp at h
            refine vp_callSi (va_Run.run (va_runS (As := [.int (vz28 9), .int p1]) (rest := []) ⟨hx, hb, hml, hown, hts⟩ (c_X12_isBit l dC dI k (vz28 9) p1) (va_cwS 2 hts (gk_S (wl_mem 15 rfl) (wl_mem 16 rfl) (wl_mem 4 rfl) (fun w h => List.mem_cons_of_mem _ (List.mem_append_right _ (List.mem_append_right _ (List.mem_append_right _ (List.mem_append_right _ (List.mem_append_right _ (List.mem_append_right _ (List.mem_append_left _ h)))))))) wkg_c_X12_isBit) rfl rfl rfl (by decide +kernel) ⟨Nat.le_of_ble_eq_true rfl, Nat.le_of_ble_eq_true rfl⟩) ⟨fun a U g mk q => by obtain ⟨q0, qP, qK⟩ := q; exact ⟨q0, qP, va_K.moved (u := U) (U := U.calling g mk a) (Vm.Alike.refl U.vm) qK⟩, fun U hU hW => ⟨rfl, by rw [hU]; exact hPc, va_K.moved hW.alike hK⟩⟩ rfl rfl hl.1 rfl (lv_room (Nat.le_of_ble_eq_true rfl)) dX12_freeze_64 ⟨Nat.le_of_ble_eq_true rfl, Nat.le_of_ble_eq_true rfl⟩)) (fun rz76 gz75 => ?_)
            clear hPc
            have pz77 := gz75
            have pz77 : rz76.toInt = 0 ∨ rz76.toInt = 1 := pz77
            refine lv_if_eq (tgt := 74) hx hb dX12_freeze_67 (by decide) (fun cz78 => ?_) (fun cz78 => ?_)
            · skip
              have zz79 : rz76.toInt = (0 : Int) := zi_eq.mp cz78
              refine lv_iconst (v := 0) hx hb dX12_freeze_74 (by decide) ?_
              rw [hQ]
              exact W.iret (v := (0 : Int32)) hx hb hr (fun t ht hW => ⟨⟨(0 : Int32), (), rfl, trivial, vz28, tz29, mz30, gz31, hz73, iz74, az32, yz33, rz34, htz29, hmz30, hhz73, hiz74, hyz33, hrz34, by rw [ht]; exact hP⟩, hS.F ht⟩) hS.2.2 dX12_freeze_75
            · skip
              have zz80 : ¬ rz76.toInt = (0 : Int) := fun h9 => cz78 (zi_eq.mpr h9)
              refine lv_iconst (v := 1) hx hb dX12_freeze_70 (by decide) ?_
              refine lv_goto (tgt := 75) hx hb dX12_freeze_71 (by decide) ?_
              rw [hQ]
              exact W.iret (v := (1 : Int32)) hx hb hr (fun t ht hW => ⟨⟨(1 : Int32), (), rfl, trivial, vz28, tz29, mz30, gz31, hz73, iz74, az32, yz33, rz34, htz29, hmz30, hhz73, hiz74, hyz33, hrz34, by rw [ht]; exact hP⟩, hS.F ht⟩) hS.2.2 dX12_freeze_75
        · skip
          have zz81 : xz23.toInt = (30 : Int) := zi_eq.mp cz24
          refine lv_bipush (v := (-5)) hx hb dX12_freeze_36 (by decide) ?_
          rw [hQ]
          exact W.iret (v := (-5 : Int32)) hx hb hr (fun t ht hW => ⟨⟨(-5 : Int32), (), rfl, trivial, (va_up vO 0 (0 : Int32)), tO, mO, gO, hHa, iAc, aLn, yBn, rRw, htO, hmO, hhHa, hiAc, hyBn, hrRw, by rw [ht]; exact hP⟩, hS.F ht⟩) hS.2.2 dX12_freeze_38
      · skip
        exact absurd cz22 (by decide)
def wk_c_X12_undo : List Cond := .code yX12_undo cX12_undo 1 (some .int) :: ([.fieldLink RX12 116 "SagMemoryModel" "thrown" "I", .methodLink RX12 350 yX12_isValley, .instanceMethod yX12_isValley, .selects RX12 yX12_isValley yX12_isValley, .initialized RX12, .fieldLink RX12 34 "SagMemoryModel" "has" "[I"] ++ (wsX120 ++ (wk_c_X12_isValley ++ [])))
theorem wkg_c_X12_undo : wk_c_X12_undo.all goodWord = true := by decide +kernel
set_option maxHeartbeats 4000000 in
set_option maxRecDepth 100000 in
theorem c_X12_undo (l : Launch) (dC : Nat → ClassId) (dI : Nat → Nat → Nat) (k : Nat → ClassId) (sz : Nat) (qO : Nat → Nat) (widthO : Nat) (manyO : Nat) (cellsO : Nat) (movedO : Nat) (tapeO : Nat) (bridgeO : Nat) (cartO : Nat) (wardO : Nat) (frostAtO : Nat) (actO : Nat) (isKeptO : Nat) (loadNowO : Nat) (byNowO : Nat) (rowO : Nat) (memoryO : Nat) (whoseO : Nat) (deepNowO : Nat) (brokenByO : Nat) (brokenAtO : Nat) (goesByO : Nat) (comesToO : Nat) (sagMoreO : Nat) (creakOfO : Nat) (wipedByO : Nat) (deepAtO : Nat) (sagAtO : Nat) (loadAtO : Nat) (orderRowO : Nat) (oftenO : Nat) (lossOneO : Nat) (lossOtherO : Nat) (vO : Nat → Int32) (tO : Nat → Int32) (mO : Nat → Int32) (gO : Nat → Int64) (qLi : Nat → Nat) (aLi : Nat → Nat → Int32) (qHa : Nat → Nat) (hHa : Nat → Nat → Int32) (htO : Rg 0 700 tO) (hmO : Rg (-1) 127 mO) (hhHa : Pa_h hHa) : Met l yX12_undo wk_c_X12_undo ({ frames := 1, cells := 0, slots := 0, locals := 20 }) (va_Pc [.ref (qO 0)] (fun U => U.heap.size = sz ∧ va_P (dC, dI) vwCl (List.flatten [(wMO qO k widthO manyO cellsO movedO tapeO (qLi 0) (qHa 0) bridgeO cartO wardO frostAtO actO isKeptO loadNowO byNowO rowO memoryO whoseO deepNowO brokenByO brokenAtO goesByO comesToO sagMoreO creakOfO wipedByO deepAtO sagAtO loadAtO orderRowO oftenO lossOneO lossOtherO vO tO mO gO), (wmHa qHa k hHa)] ++ List.flatten [(wmLi qLi k aLi)]) U.heap ∧ va_K (dC, dI) vwCl (tK k) U ∧ va_D (fun _ => True) (List.flatten [(wMO qO k widthO manyO cellsO movedO tapeO (qLi 0) (qHa 0) bridgeO cartO wardO frostAtO actO isKeptO loadNowO byNowO rowO memoryO whoseO deepNowO brokenByO brokenAtO goesByO comesToO sagMoreO creakOfO wipedByO deepAtO sagAtO loadAtO orderRowO oftenO lossOneO lossOtherO vO tO mO gO), (wmHa qHa k hHa)] ++ List.flatten [(wmLi qLi k aLi)]))) (va_Qi (fun (r : Int32) (_ : Unit) => True) (fun (_ : Unit) (t : State) => ∃ (vO' : Nat → Int32) (tO' : Nat → Int32) (mO' : Nat → Int32) (gO' : Nat → Int64) (hHa' : Nat → Nat → Int32), Rg 0 700 tO' ∧ Rg (-1) 127 mO' ∧ Pa_h hHa' ∧ va_P (dC, dI) vwCl (List.flatten [(wMO qO k widthO manyO cellsO movedO tapeO (qLi 0) (qHa 0) bridgeO cartO wardO frostAtO actO isKeptO loadNowO byNowO rowO memoryO whoseO deepNowO brokenByO brokenAtO goesByO comesToO sagMoreO creakOfO wipedByO deepAtO sagAtO loadAtO orderRowO oftenO lossOneO lossOtherO vO' tO' mO' gO'), (wmHa qHa k hHa')] ++ List.flatten [(wmLi qLi k aLi)]) t.heap) (va_A (List.flatten [(wMO qO k widthO manyO cellsO movedO tapeO (qLi 0) (qHa 0) bridgeO cartO wardO frostAtO actO isKeptO loadNowO byNowO rowO memoryO whoseO deepNowO brokenByO brokenAtO goesByO comesToO sagMoreO creakOfO wipedByO deepAtO sagAtO loadAtO orderRowO oftenO lossOneO lossOtherO vO tO mO gO), (wmHa qHa k hHa)] ++ List.flatten [(wmLi qLi k aLi)]) sz)) 0 0 (va_A (List.flatten [(wMO qO k widthO manyO cellsO movedO tapeO (qLi 0) (qHa 0) bridgeO cartO wardO frostAtO actO isKeptO loadNowO byNowO rowO memoryO whoseO deepNowO brokenByO brokenAtO goesByO comesToO sagMoreO creakOfO wipedByO deepAtO sagAtO loadAtO orderRowO oftenO lossOneO lossOtherO vO tO mO gO), (wmHa qHa k hHa)] ++ List.flatten [(wmLi qLi k aLi)]) sz) := by
  refine Met.ofW (cc := cX12_undo) (maxL := 1) (ret := (some .int)) (by decide) rfl ?_
  intro p e s m args below meth c s₁ B hml hv
  obtain ⟨rfl, hsz, hP, hK, hD0⟩ := hv
  have hx := B.exec
  have hb := B.bytes
  have hr := B.returns
  have hts := atoms_spec (ws := wk_c_X12_undo) B.pre
  have hown : s.vm.findClass RX12 = some m.cls := findClass_of_methodNamed B.named
  have hlocks := B.notSynchronized
  subst hsz
  have hD := hD0.self (sz := s.heap.size)
  generalize hAe : va_A (List.flatten [(wMO qO k widthO manyO cellsO movedO tapeO (qLi 0) (qHa 0) bridgeO cartO wardO frostAtO actO isKeptO loadNowO byNowO rowO memoryO whoseO deepNowO brokenByO brokenAtO goesByO comesToO sagMoreO creakOfO wipedByO deepAtO sagAtO loadAtO orderRowO oftenO lossOneO lossOtherO vO tO mO gO), (wmHa qHa k hHa)] ++ List.flatten [(wmLi qLi k aLi)]) s.heap.size = A at hD ⊢
  have hA : ∀ q : Nat, s.heap.size ≤ q → A q := fun q h => by rw [← hAe]; exact Or.inr h
  have hS : va_S A s.heap s.heap [] := va_S.rf
  have hP : va_P (dC, dI) vwCl (List.flatten [(wMO qO k widthO manyO cellsO movedO tapeO (qLi 0) (qHa 0) bridgeO cartO wardO frostAtO actO isKeptO loadNowO byNowO rowO memoryO whoseO deepNowO brokenByO brokenAtO goesByO comesToO sagMoreO creakOfO wipedByO deepAtO sagAtO loadAtO orderRowO oftenO lossOneO lossOtherO vO tO mO gO), (wmHa qHa k hHa)] ++ List.flatten [(wmLi qLi k aLi)]) s.heap := hP
  have hl := lv_entry ([.ref (qO 0)]) (n := 1) (Nat.le_of_ble_eq_true rfl)
  rw [lg_entry_eq]
  generalize (lg_sl ([.ref (qO 0)]) ++ List.replicate (1 - (lg_sl ([.ref (qO 0)])).length) Slot.unset).toArray = ls at hl ⊢
  have hl : lv_has ls 1 [(0, .ref (qO 0))] := hl
  refine w_gen (fun Q hQ => ?_)
  refine lv_aload_n hx hb dX12_undo_0 rfl (lv_at hl 0 rfl) ?_
  refine lv_iconst (v := 0) hx hb dX12_undo_1 (by decide) ?_
  refine va_put (D := (dC, dI)) (ci := 12) (v := .int 0) (ty := .int) (C := RX12) (T := TX12) (N := 59) hx hb hts (fun w h => List.mem_cons_of_mem _ (List.mem_append_right _ (List.mem_append_left _ h))) tyX12 tyX12_ok nmX12 hown hK hP hD hS 0 rfl rfl 0 (by decide) (hts (.fieldLink RX12 116 "SagMemoryModel" "thrown" "I") (wl_mem 0 rfl)) (fun _ h9 => h9) rfl (by decide +kernel) rfl rfl (Nat.le_of_ble_eq_true rfl) dX12_undo_2 (fun H locs hP hD hS => ?_)
  have hP : va_P (dC, dI) vwCl (List.flatten [(wMO qO k widthO manyO cellsO movedO tapeO (qLi 0) (qHa 0) bridgeO cartO wardO frostAtO actO isKeptO loadNowO byNowO rowO memoryO whoseO deepNowO brokenByO brokenAtO goesByO comesToO sagMoreO creakOfO wipedByO deepAtO sagAtO loadAtO orderRowO oftenO lossOneO lossOtherO (va_up vO 0 (0 : Int32)) tO mO gO), (wmHa qHa k hHa)] ++ List.flatten [(wmLi qLi k aLi)]) H := hP
  have hD : va_D A (List.flatten [(wMO qO k widthO manyO cellsO movedO tapeO (qLi 0) (qHa 0) bridgeO cartO wardO frostAtO actO isKeptO loadNowO byNowO rowO memoryO whoseO deepNowO brokenByO brokenAtO goesByO comesToO sagMoreO creakOfO wipedByO deepAtO sagAtO loadAtO orderRowO oftenO lossOneO lossOtherO (va_up vO 0 (0 : Int32)) tO mO gO), (wmHa qHa k hHa)] ++ List.flatten [(wmLi qLi k aLi)]) := hD
  refine lv_aload_n hx hb dX12_undo_5 rfl (lv_at hl 0 rfl) ?_
  have hPc := hP.sub (ws' := (List.flatten [(wMO qO k widthO manyO cellsO movedO tapeO (qLi 0) (qHa 0) bridgeO cartO wardO frostAtO actO isKeptO loadNowO byNowO rowO memoryO whoseO deepNowO brokenByO brokenAtO goesByO comesToO sagMoreO creakOfO wipedByO deepAtO sagAtO loadAtO orderRowO oftenO lossOneO lossOtherO (va_up vO 0 (0 : Int32)) tO mO gO), (wmLi qLi k aLi)])) [0, 2] rfl
  refine vp_callSi (va_Run.run (va_runV (As := []) (rest := []) ⟨hx, hb, hml, hown, hts⟩ (c_X12_isValley l dC dI k qO widthO manyO cellsO movedO tapeO (qHa 0) bridgeO cartO wardO frostAtO actO isKeptO loadNowO byNowO rowO memoryO whoseO deepNowO brokenByO brokenAtO goesByO comesToO sagMoreO creakOfO wipedByO deepAtO sagAtO loadAtO orderRowO oftenO lossOneO lossOtherO (va_up vO 0 (0 : Int32)) tO mO gO qLi aLi htO hmO) (cwV 0 hts (gk_V (wl_mem 1 rfl) (wl_mem 2 rfl) (wl_mem 3 rfl) (wl_mem 4 rfl) (fun w h => List.mem_cons_of_mem _ (List.mem_append_right _ (List.mem_append_right _ (List.mem_append_left _ h)))) wkg_c_X12_isValley) rfl rfl rfl (by decide +kernel) ⟨Nat.le_of_ble_eq_true rfl, Nat.le_of_ble_eq_true rfl⟩) ⟨fun a U g mk q => by obtain ⟨q0, qP, qK⟩ := q; exact ⟨q0, qP, va_K.moved (u := U) (U := U.calling g mk a) (Vm.Alike.refl U.vm) qK⟩, va_recv hK hPc (ci := 12) (q0 := 0) rfl rfl, fun U hU hW => ⟨rfl, by rw [hU]; exact hPc, va_K.moved hW.alike hK⟩⟩ rfl rfl hl.1 rfl (lv_room (Nat.le_of_ble_eq_true rfl)) dX12_undo_6 ⟨Nat.le_of_ble_eq_true rfl, Nat.le_of_ble_eq_true rfl⟩)) (fun rz2 gz1 => ?_)
  clear hPc
  have pz3 := gz1
  have pz3 : rz2.toInt = 0 ∨ rz2.toInt = 1 := pz3
  refine lv_if_ne (tgt := 15) hx hb dX12_undo_9 (by decide) (fun cz4 => ?_) (fun cz4 => ?_)
  · skip
    have zz5 : ¬ rz2.toInt = (0 : Int) := fun h9 => cz4 (zi_eq.mpr h9)
    refine lv_aload_n hx hb dX12_undo_15 rfl (lv_at hl 0 rfl) ?_
    refine va_get (D := (dC, dI)) (ci := 12) (v := .ref (qHa 0)) (C := RX12) (T := TX12) (N := 59) hx hb hts (fun w h => List.mem_cons_of_mem _ (List.mem_append_right _ (List.mem_append_left _ h))) hown hK hP 0 rfl rfl 17 (by decide) (hts (.fieldLink RX12 34 "SagMemoryModel" "has" "[I") (wl_mem 5 rfl)) (fun _ h9 => h9) rfl dX12_undo_16 ?_
    refine lv_bipush (v := 7) hx hb dX12_undo_19 (by decide) ?_
    refine va_iald hx hb hK hP 1 0 rfl rfl (by unfold vp_in; decide) dX12_undo_21 ?_
    refine lv_topi (fun xz6 exz6 => ?_)
    have gxz6 : xz6.toInt = ((hHa 0) 7).toInt := by rw [exz6]; rfl
    have bxz6 : 0 ≤ xz6.toInt ∧ xz6.toInt ≤ 30 := by rw [exz6]; exact (hhHa 0).2.2.2.2 7 (by decide)
    refine lv_if_ne (tgt := 28) hx hb dX12_undo_22 (by decide) (fun cz7 => ?_) (fun cz7 => ?_)
    · skip
      have zz8 : ¬ xz6.toInt = (0 : Int) := fun h9 => cz7 (zi_eq.mpr h9)
      refine lv_aload_n hx hb dX12_undo_28 rfl (lv_at hl 0 rfl) ?_
      refine va_get (D := (dC, dI)) (ci := 12) (v := .ref (qHa 0)) (C := RX12) (T := TX12) (N := 59) hx hb hts (fun w h => List.mem_cons_of_mem _ (List.mem_append_right _ (List.mem_append_left _ h))) hown hK hP 0 rfl rfl 17 (by decide) (hts (.fieldLink RX12 34 "SagMemoryModel" "has" "[I") (wl_mem 5 rfl)) (fun _ h9 => h9) rfl dX12_undo_29 ?_
      refine lv_bipush (v := 7) hx hb dX12_undo_32 (by decide) ?_
      refine lv_dup2_11 hx hb dX12_undo_34 rfl rfl ?_
      refine va_iald hx hb hK hP 1 0 rfl rfl (by unfold vp_in; decide) dX12_undo_35 ?_
      refine lv_topi (fun xz9 exz9 => ?_)
      obtain rfl : xz6 = xz9 := (exz9.trans exz6.symm).symm
      refine lv_iconst (v := 1) hx hb dX12_undo_36 (by decide) ?_
      refine lv_isub hx hb dX12_undo_37 ?_
      refine lv_topi (fun xz10 exz10 => ?_)
      have fxz10 : xz10.toInt = xz6.toInt - (1 : Int) := by rw [exz10]; exact fb_subI (x := xz6) (y := (1 : Int32)) (by show -2147483648 ≤ xz6.toInt - (1 : Int); omega) (by show xz6.toInt - (1 : Int) < 2147483648; omega)
      refine va_iast hx hb hK hP hD hS 1 0 rfl rfl (by unfold vp_in; decide) dX12_undo_38 (fun H locs hP hD hS => ?_)
      obtain ⟨fz11, efz11, hP, hD⟩ : ∃ fz11 : Nat → Int32, fz11 = upd (hHa 0) (7 : Int32).toNatClampNeg xz10 ∧ va_P (dC, dI) vwCl (List.flatten [(wMO qO k widthO manyO cellsO movedO tapeO (qLi 0) (qHa 0) bridgeO cartO wardO frostAtO actO isKeptO loadNowO byNowO rowO memoryO whoseO deepNowO brokenByO brokenAtO goesByO comesToO sagMoreO creakOfO wipedByO deepAtO sagAtO loadAtO orderRowO oftenO lossOneO lossOtherO (va_up vO 0 (0 : Int32)) tO mO gO), (wmHa qHa k (va_up hHa 0 fz11))] ++ List.flatten [(wmLi qLi k aLi)]) H ∧ va_D A (List.flatten [(wMO qO k widthO manyO cellsO movedO tapeO (qLi 0) (qHa 0) bridgeO cartO wardO frostAtO actO isKeptO loadNowO byNowO rowO memoryO whoseO deepNowO brokenByO brokenAtO goesByO comesToO sagMoreO creakOfO wipedByO deepAtO sagAtO loadAtO orderRowO oftenO lossOneO lossOtherO (va_up vO 0 (0 : Int32)) tO mO gO), (wmHa qHa k (va_up hHa 0 fz11))] ++ List.flatten [(wmLi qLi k aLi)]) := ⟨_, rfl, hP, hD⟩
      have hfz11 : Pd_h fz11 := by rw [efz11]; exact ⟨md_upd (hhHa 0).1 (by show 0 ≤ (7 : Int); omega) (by show (7 : Int) % 8 = 3 → 0 ≤ xz10.toInt ∧ xz10.toInt ≤ 3; omega), md_upd (hhHa 0).2.1 (by show 0 ≤ (7 : Int); omega) (by show (7 : Int) % 8 = 4 → 0 ≤ xz10.toInt ∧ xz10.toInt ≤ 7; omega), md_upd (hhHa 0).2.2.1 (by show 0 ≤ (7 : Int); omega) (by show (7 : Int) % 8 = 5 → 0 ≤ xz10.toInt ∧ xz10.toInt ≤ 5; omega), md_upd (hhHa 0).2.2.2.1 (by show 0 ≤ (7 : Int); omega) (by show (7 : Int) % 8 = 6 → 0 ≤ xz10.toInt ∧ xz10.toInt ≤ 4; omega), md_upd (hhHa 0).2.2.2.2 (by show 0 ≤ (7 : Int); omega) (by show (7 : Int) % 8 = 7 → 0 ≤ xz10.toInt ∧ xz10.toInt ≤ 30; omega)⟩
      have kfz11 : fz11 (7 : Int32).toNatClampNeg = xz10 := by rw [efz11]; exact pk_us
      refine lv_aload_n hx hb dX12_undo_39 rfl (lv_at hl 0 rfl) ?_
      refine va_get (D := (dC, dI)) (ci := 12) (v := .ref (qHa 0)) (C := RX12) (T := TX12) (N := 59) hx hb hts (fun w h => List.mem_cons_of_mem _ (List.mem_append_right _ (List.mem_append_left _ h))) hown hK hP 0 rfl rfl 17 (by decide) (hts (.fieldLink RX12 34 "SagMemoryModel" "has" "[I") (wl_mem 5 rfl)) (fun _ h9 => h9) rfl dX12_undo_40 ?_
      refine lv_bipush (v := 7) hx hb dX12_undo_43 (by decide) ?_
      refine va_iald hx hb hK hP 1 0 rfl rfl (by unfold vp_in; decide) dX12_undo_45 ?_
      refine lv_topi (fun xz12 exz12 => ?_)
      obtain rfl : xz10 = xz12 := (exz12.trans kfz11).symm
      rw [hQ]
      exact W.iret (v := xz10) hx hb hr (fun t ht hW => ⟨⟨xz10, (), rfl, trivial, (va_up vO 0 (0 : Int32)), tO, mO, gO, (va_up hHa 0 fz11), htO, hmO, (pa_up_h hhHa hfz11), by rw [ht]; exact hP⟩, hS.F ht⟩) hS.2.2 dX12_undo_46
    · skip
      have zz13 : xz6.toInt = (0 : Int) := zi_eq.mp cz7
      refine lv_bipush (v := (-5)) hx hb dX12_undo_25 (by decide) ?_
      rw [hQ]
      exact W.iret (v := (-5 : Int32)) hx hb hr (fun t ht hW => ⟨⟨(-5 : Int32), (), rfl, trivial, (va_up vO 0 (0 : Int32)), tO, mO, gO, hHa, htO, hmO, hhHa, by rw [ht]; exact hP⟩, hS.F ht⟩) hS.2.2 dX12_undo_27
  · skip
    have zz14 : rz2.toInt = (0 : Int) := zi_eq.mp cz4
    refine lv_bipush (v := (-2)) hx hb dX12_undo_12 (by decide) ?_
    rw [hQ]
    exact W.iret (v := (-2 : Int32)) hx hb hr (fun t ht hW => ⟨⟨(-2 : Int32), (), rfl, trivial, (va_up vO 0 (0 : Int32)), tO, mO, gO, hHa, htO, hmO, hhHa, by rw [ht]; exact hP⟩, hS.F ht⟩) hS.2.2 dX12_undo_14
def wk_c_X12_anew : List Cond := .code yX12_anew cX12_anew 2 (some .int) :: ([.fieldLink RX12 116 "SagMemoryModel" "thrown" "I", .methodLink RX12 350 yX12_isValley, .instanceMethod yX12_isValley, .selects RX12 yX12_isValley yX12_isValley, .initialized RX12, .fieldLink RX12 34 "SagMemoryModel" "has" "[I"] ++ (wsX120 ++ (wk_c_X12_isValley ++ [])))
theorem wkg_c_X12_anew : wk_c_X12_anew.all goodWord = true := by decide +kernel
set_option maxHeartbeats 4000000 in
set_option maxRecDepth 100000 in
theorem c_X12_anew (l : Launch) (dC : Nat → ClassId) (dI : Nat → Nat → Nat) (k : Nat → ClassId) (sz : Nat) (qO : Nat → Nat) (widthO : Nat) (manyO : Nat) (cellsO : Nat) (movedO : Nat) (tapeO : Nat) (bridgeO : Nat) (cartO : Nat) (wardO : Nat) (frostAtO : Nat) (actO : Nat) (isKeptO : Nat) (loadNowO : Nat) (byNowO : Nat) (rowO : Nat) (memoryO : Nat) (whoseO : Nat) (deepNowO : Nat) (brokenByO : Nat) (brokenAtO : Nat) (goesByO : Nat) (comesToO : Nat) (sagMoreO : Nat) (creakOfO : Nat) (wipedByO : Nat) (deepAtO : Nat) (sagAtO : Nat) (loadAtO : Nat) (orderRowO : Nat) (oftenO : Nat) (lossOneO : Nat) (lossOtherO : Nat) (vO : Nat → Int32) (tO : Nat → Int32) (mO : Nat → Int32) (gO : Nat → Int64) (qLi : Nat → Nat) (aLi : Nat → Nat → Int32) (qHa : Nat → Nat) (hHa : Nat → Nat → Int32) (htO : Rg 0 700 tO) (hmO : Rg (-1) 127 mO) (hhHa : Pa_h hHa) : Met l yX12_anew wk_c_X12_anew ({ frames := 1, cells := 0, slots := 0, locals := 20 }) (va_Pc [.ref (qO 0)] (fun U => U.heap.size = sz ∧ va_P (dC, dI) vwCl (List.flatten [(wMO qO k widthO manyO cellsO movedO tapeO (qLi 0) (qHa 0) bridgeO cartO wardO frostAtO actO isKeptO loadNowO byNowO rowO memoryO whoseO deepNowO brokenByO brokenAtO goesByO comesToO sagMoreO creakOfO wipedByO deepAtO sagAtO loadAtO orderRowO oftenO lossOneO lossOtherO vO tO mO gO), (wmHa qHa k hHa)] ++ List.flatten [(wmLi qLi k aLi)]) U.heap ∧ va_K (dC, dI) vwCl (tK k) U ∧ va_D (fun _ => True) (List.flatten [(wMO qO k widthO manyO cellsO movedO tapeO (qLi 0) (qHa 0) bridgeO cartO wardO frostAtO actO isKeptO loadNowO byNowO rowO memoryO whoseO deepNowO brokenByO brokenAtO goesByO comesToO sagMoreO creakOfO wipedByO deepAtO sagAtO loadAtO orderRowO oftenO lossOneO lossOtherO vO tO mO gO), (wmHa qHa k hHa)] ++ List.flatten [(wmLi qLi k aLi)]))) (va_Qi (fun (r : Int32) (_ : Unit) => True) (fun (_ : Unit) (t : State) => ∃ (vO' : Nat → Int32) (tO' : Nat → Int32) (mO' : Nat → Int32) (gO' : Nat → Int64) (hHa' : Nat → Nat → Int32), Rg 0 700 tO' ∧ Rg (-1) 127 mO' ∧ Pa_h hHa' ∧ va_P (dC, dI) vwCl (List.flatten [(wMO qO k widthO manyO cellsO movedO tapeO (qLi 0) (qHa 0) bridgeO cartO wardO frostAtO actO isKeptO loadNowO byNowO rowO memoryO whoseO deepNowO brokenByO brokenAtO goesByO comesToO sagMoreO creakOfO wipedByO deepAtO sagAtO loadAtO orderRowO oftenO lossOneO lossOtherO vO' tO' mO' gO'), (wmHa qHa k hHa')] ++ List.flatten [(wmLi qLi k aLi)]) t.heap) (va_A (List.flatten [(wMO qO k widthO manyO cellsO movedO tapeO (qLi 0) (qHa 0) bridgeO cartO wardO frostAtO actO isKeptO loadNowO byNowO rowO memoryO whoseO deepNowO brokenByO brokenAtO goesByO comesToO sagMoreO creakOfO wipedByO deepAtO sagAtO loadAtO orderRowO oftenO lossOneO lossOtherO vO tO mO gO), (wmHa qHa k hHa)] ++ List.flatten [(wmLi qLi k aLi)]) sz)) 0 0 (va_A (List.flatten [(wMO qO k widthO manyO cellsO movedO tapeO (qLi 0) (qHa 0) bridgeO cartO wardO frostAtO actO isKeptO loadNowO byNowO rowO memoryO whoseO deepNowO brokenByO brokenAtO goesByO comesToO sagMoreO creakOfO wipedByO deepAtO sagAtO loadAtO orderRowO oftenO lossOneO lossOtherO vO tO mO gO), (wmHa qHa k hHa)] ++ List.flatten [(wmLi qLi k aLi)]) sz) := by
  refine Met.ofW (cc := cX12_anew) (maxL := 2) (ret := (some .int)) (by decide) rfl ?_
  intro p e s m args below meth c s₁ B hml hv
  obtain ⟨rfl, hsz, hP, hK, hD0⟩ := hv
  have hx := B.exec
  have hb := B.bytes
  have hr := B.returns
  have hts := atoms_spec (ws := wk_c_X12_anew) B.pre
  have hown : s.vm.findClass RX12 = some m.cls := findClass_of_methodNamed B.named
  have hlocks := B.notSynchronized
  subst hsz
  have hD := hD0.self (sz := s.heap.size)
  generalize hAe : va_A (List.flatten [(wMO qO k widthO manyO cellsO movedO tapeO (qLi 0) (qHa 0) bridgeO cartO wardO frostAtO actO isKeptO loadNowO byNowO rowO memoryO whoseO deepNowO brokenByO brokenAtO goesByO comesToO sagMoreO creakOfO wipedByO deepAtO sagAtO loadAtO orderRowO oftenO lossOneO lossOtherO vO tO mO gO), (wmHa qHa k hHa)] ++ List.flatten [(wmLi qLi k aLi)]) s.heap.size = A at hD ⊢
  have hA : ∀ q : Nat, s.heap.size ≤ q → A q := fun q h => by rw [← hAe]; exact Or.inr h
  have hS : va_S A s.heap s.heap [] := va_S.rf
  have hP : va_P (dC, dI) vwCl (List.flatten [(wMO qO k widthO manyO cellsO movedO tapeO (qLi 0) (qHa 0) bridgeO cartO wardO frostAtO actO isKeptO loadNowO byNowO rowO memoryO whoseO deepNowO brokenByO brokenAtO goesByO comesToO sagMoreO creakOfO wipedByO deepAtO sagAtO loadAtO orderRowO oftenO lossOneO lossOtherO vO tO mO gO), (wmHa qHa k hHa)] ++ List.flatten [(wmLi qLi k aLi)]) s.heap := hP
  have hl := lv_entry ([.ref (qO 0)]) (n := 2) (Nat.le_of_ble_eq_true rfl)
  rw [lg_entry_eq]
  generalize (lg_sl ([.ref (qO 0)]) ++ List.replicate (2 - (lg_sl ([.ref (qO 0)])).length) Slot.unset).toArray = ls at hl ⊢
  have hl : lv_has ls 2 [(0, .ref (qO 0))] := hl
  refine w_gen (fun Q hQ => ?_)
  refine lv_aload_n hx hb dX12_anew_0 rfl (lv_at hl 0 rfl) ?_
  refine lv_iconst (v := 0) hx hb dX12_anew_1 (by decide) ?_
  refine va_put (D := (dC, dI)) (ci := 12) (v := .int 0) (ty := .int) (C := RX12) (T := TX12) (N := 59) hx hb hts (fun w h => List.mem_cons_of_mem _ (List.mem_append_right _ (List.mem_append_left _ h))) tyX12 tyX12_ok nmX12 hown hK hP hD hS 0 rfl rfl 0 (by decide) (hts (.fieldLink RX12 116 "SagMemoryModel" "thrown" "I") (wl_mem 0 rfl)) (fun _ h9 => h9) rfl (by decide +kernel) rfl rfl (Nat.le_of_ble_eq_true rfl) dX12_anew_2 (fun H locs hP hD hS => ?_)
  have hP : va_P (dC, dI) vwCl (List.flatten [(wMO qO k widthO manyO cellsO movedO tapeO (qLi 0) (qHa 0) bridgeO cartO wardO frostAtO actO isKeptO loadNowO byNowO rowO memoryO whoseO deepNowO brokenByO brokenAtO goesByO comesToO sagMoreO creakOfO wipedByO deepAtO sagAtO loadAtO orderRowO oftenO lossOneO lossOtherO (va_up vO 0 (0 : Int32)) tO mO gO), (wmHa qHa k hHa)] ++ List.flatten [(wmLi qLi k aLi)]) H := hP
  have hD : va_D A (List.flatten [(wMO qO k widthO manyO cellsO movedO tapeO (qLi 0) (qHa 0) bridgeO cartO wardO frostAtO actO isKeptO loadNowO byNowO rowO memoryO whoseO deepNowO brokenByO brokenAtO goesByO comesToO sagMoreO creakOfO wipedByO deepAtO sagAtO loadAtO orderRowO oftenO lossOneO lossOtherO (va_up vO 0 (0 : Int32)) tO mO gO), (wmHa qHa k hHa)] ++ List.flatten [(wmLi qLi k aLi)]) := hD
  refine lv_aload_n hx hb dX12_anew_5 rfl (lv_at hl 0 rfl) ?_
  have hPc := hP.sub (ws' := (List.flatten [(wMO qO k widthO manyO cellsO movedO tapeO (qLi 0) (qHa 0) bridgeO cartO wardO frostAtO actO isKeptO loadNowO byNowO rowO memoryO whoseO deepNowO brokenByO brokenAtO goesByO comesToO sagMoreO creakOfO wipedByO deepAtO sagAtO loadAtO orderRowO oftenO lossOneO lossOtherO (va_up vO 0 (0 : Int32)) tO mO gO), (wmLi qLi k aLi)])) [0, 2] rfl
  refine vp_callSi (va_Run.run (va_runV (As := []) (rest := []) ⟨hx, hb, hml, hown, hts⟩ (c_X12_isValley l dC dI k qO widthO manyO cellsO movedO tapeO (qHa 0) bridgeO cartO wardO frostAtO actO isKeptO loadNowO byNowO rowO memoryO whoseO deepNowO brokenByO brokenAtO goesByO comesToO sagMoreO creakOfO wipedByO deepAtO sagAtO loadAtO orderRowO oftenO lossOneO lossOtherO (va_up vO 0 (0 : Int32)) tO mO gO qLi aLi htO hmO) (cwV 0 hts (gk_V (wl_mem 1 rfl) (wl_mem 2 rfl) (wl_mem 3 rfl) (wl_mem 4 rfl) (fun w h => List.mem_cons_of_mem _ (List.mem_append_right _ (List.mem_append_right _ (List.mem_append_left _ h)))) wkg_c_X12_isValley) rfl rfl rfl (by decide +kernel) ⟨Nat.le_of_ble_eq_true rfl, Nat.le_of_ble_eq_true rfl⟩) ⟨fun a U g mk q => by obtain ⟨q0, qP, qK⟩ := q; exact ⟨q0, qP, va_K.moved (u := U) (U := U.calling g mk a) (Vm.Alike.refl U.vm) qK⟩, va_recv hK hPc (ci := 12) (q0 := 0) rfl rfl, fun U hU hW => ⟨rfl, by rw [hU]; exact hPc, va_K.moved hW.alike hK⟩⟩ rfl rfl hl.1 rfl (lv_room (Nat.le_of_ble_eq_true rfl)) dX12_anew_6 ⟨Nat.le_of_ble_eq_true rfl, Nat.le_of_ble_eq_true rfl⟩)) (fun rz2 gz1 => ?_)
  clear hPc
  have pz3 := gz1
  have pz3 : rz2.toInt = 0 ∨ rz2.toInt = 1 := pz3
  refine lv_if_ne (tgt := 15) hx hb dX12_anew_9 (by decide) (fun cz4 => ?_) (fun cz4 => ?_)
  · skip
    have zz5 : ¬ rz2.toInt = (0 : Int) := fun h9 => cz4 (zi_eq.mpr h9)
    refine lv_aload_n hx hb dX12_anew_15 rfl (lv_at hl 0 rfl) ?_
    refine va_get (D := (dC, dI)) (ci := 12) (v := .ref (qHa 0)) (C := RX12) (T := TX12) (N := 59) hx hb hts (fun w h => List.mem_cons_of_mem _ (List.mem_append_right _ (List.mem_append_left _ h))) hown hK hP 0 rfl rfl 17 (by decide) (hts (.fieldLink RX12 34 "SagMemoryModel" "has" "[I") (wl_mem 5 rfl)) (fun _ h9 => h9) rfl dX12_anew_16 ?_
    refine lv_bipush (v := 7) hx hb dX12_anew_19 (by decide) ?_
    refine va_iald hx hb hK hP 1 0 rfl rfl (by unfold vp_in; decide) dX12_anew_21 ?_
    refine lv_topi (fun xz6 exz6 => ?_)
    have gxz6 : xz6.toInt = ((hHa 0) 7).toInt := by rw [exz6]; rfl
    have bxz6 : 0 ≤ xz6.toInt ∧ xz6.toInt ≤ 30 := by rw [exz6]; exact (hhHa 0).2.2.2.2 7 (by decide)
    refine lv_istore_n (lv' := [(1, .int xz6), (0, .ref (qO 0))]) hx hb dX12_anew_22 rfl hl (by decide) rfl (fun ls hl => ?_)
    refine lv_aload_n hx hb dX12_anew_23 rfl (lv_at hl 1 rfl) ?_
    refine va_get (D := (dC, dI)) (ci := 12) (v := .ref (qHa 0)) (C := RX12) (T := TX12) (N := 59) hx hb hts (fun w h => List.mem_cons_of_mem _ (List.mem_append_right _ (List.mem_append_left _ h))) hown hK hP 0 rfl rfl 17 (by decide) (hts (.fieldLink RX12 34 "SagMemoryModel" "has" "[I") (wl_mem 5 rfl)) (fun _ h9 => h9) rfl dX12_anew_24 ?_
    refine lv_bipush (v := 7) hx hb dX12_anew_27 (by decide) ?_
    refine lv_iconst (v := 0) hx hb dX12_anew_29 (by decide) ?_
    refine va_iast hx hb hK hP hD hS 1 0 rfl rfl (by unfold vp_in; decide) dX12_anew_30 (fun H locs hP hD hS => ?_)
    obtain ⟨fz7, efz7, hP, hD⟩ : ∃ fz7 : Nat → Int32, fz7 = upd (hHa 0) (7 : Int32).toNatClampNeg (0 : Int32) ∧ va_P (dC, dI) vwCl (List.flatten [(wMO qO k widthO manyO cellsO movedO tapeO (qLi 0) (qHa 0) bridgeO cartO wardO frostAtO actO isKeptO loadNowO byNowO rowO memoryO whoseO deepNowO brokenByO brokenAtO goesByO comesToO sagMoreO creakOfO wipedByO deepAtO sagAtO loadAtO orderRowO oftenO lossOneO lossOtherO (va_up vO 0 (0 : Int32)) tO mO gO), (wmHa qHa k (va_up hHa 0 fz7))] ++ List.flatten [(wmLi qLi k aLi)]) H ∧ va_D A (List.flatten [(wMO qO k widthO manyO cellsO movedO tapeO (qLi 0) (qHa 0) bridgeO cartO wardO frostAtO actO isKeptO loadNowO byNowO rowO memoryO whoseO deepNowO brokenByO brokenAtO goesByO comesToO sagMoreO creakOfO wipedByO deepAtO sagAtO loadAtO orderRowO oftenO lossOneO lossOtherO (va_up vO 0 (0 : Int32)) tO mO gO), (wmHa qHa k (va_up hHa 0 fz7))] ++ List.flatten [(wmLi qLi k aLi)]) := ⟨_, rfl, hP, hD⟩
    have hfz7 : Pd_h fz7 := by rw [efz7]; exact ⟨md_upd (hhHa 0).1 (by show 0 ≤ (7 : Int); omega) (by show (7 : Int) % 8 = 3 → 0 ≤ (0 : Int) ∧ (0 : Int) ≤ 3; omega), md_upd (hhHa 0).2.1 (by show 0 ≤ (7 : Int); omega) (by show (7 : Int) % 8 = 4 → 0 ≤ (0 : Int) ∧ (0 : Int) ≤ 7; omega), md_upd (hhHa 0).2.2.1 (by show 0 ≤ (7 : Int); omega) (by show (7 : Int) % 8 = 5 → 0 ≤ (0 : Int) ∧ (0 : Int) ≤ 5; omega), md_upd (hhHa 0).2.2.2.1 (by show 0 ≤ (7 : Int); omega) (by show (7 : Int) % 8 = 6 → 0 ≤ (0 : Int) ∧ (0 : Int) ≤ 4; omega), md_upd (hhHa 0).2.2.2.2 (by show 0 ≤ (7 : Int); omega) (by show (7 : Int) % 8 = 7 → 0 ≤ (0 : Int) ∧ (0 : Int) ≤ 30; omega)⟩
    have kfz7 : fz7 (7 : Int32).toNatClampNeg = (0 : Int32) := by rw [efz7]; exact pk_us
    refine lv_iload_n hx hb dX12_anew_31 rfl (lv_at hl 0 rfl) ?_
    rw [hQ]
    exact W.iret (v := xz6) hx hb hr (fun t ht hW => ⟨⟨xz6, (), rfl, trivial, (va_up vO 0 (0 : Int32)), tO, mO, gO, (va_up hHa 0 fz7), htO, hmO, (pa_up_h hhHa hfz7), by rw [ht]; exact hP⟩, hS.F ht⟩) hS.2.2 dX12_anew_32
  · skip
    have zz8 : rz2.toInt = (0 : Int) := zi_eq.mp cz4
    refine lv_bipush (v := (-2)) hx hb dX12_anew_12 (by decide) ?_
    rw [hQ]
    exact W.iret (v := (-2 : Int32)) hx hb hr (fun t ht hW => ⟨⟨(-2 : Int32), (), rfl, trivial, (va_up vO 0 (0 : Int32)), tO, mO, gO, hHa, htO, hmO, hhHa, by rw [ht]; exact hP⟩, hS.F ht⟩) hS.2.2 dX12_anew_14
def wk_c_X12_rate : List Cond := .code yX12_rate cX12_rate 4 (some .int) :: ([.fieldLink RX12 116 "SagMemoryModel" "thrown" "I", .methodLink RX12 292 yX12_isBridge, .instanceMethod yX12_isBridge, .selects RX12 yX12_isBridge yX12_isBridge, .initialized RX12, .constantLong RX12 506 (300), .methodLink RX12 121 yX12_in, .static yX12_in, .fieldLink RX12 34 "SagMemoryModel" "has" "[I", .fieldLink RX12 37 "SagMemoryModel" "bridge" "[I"] ++ (wsX120 ++ (wk_c_X12_isBridge ++ (wk_c_X12_in ++ []))))
theorem wkg_c_X12_rate : wk_c_X12_rate.all goodWord = true := by decide +kernel
set_option maxHeartbeats 4000000 in
set_option maxRecDepth 100000 in
theorem c_X12_rate (l : Launch) (dC : Nat → ClassId) (dI : Nat → Nat → Nat) (k : Nat → ClassId) (sz : Nat) (qO : Nat → Nat) (widthO : Nat) (manyO : Nat) (cellsO : Nat) (movedO : Nat) (tapeO : Nat) (linesO : Nat) (cartO : Nat) (wardO : Nat) (frostAtO : Nat) (actO : Nat) (isKeptO : Nat) (loadNowO : Nat) (byNowO : Nat) (rowO : Nat) (memoryO : Nat) (whoseO : Nat) (deepNowO : Nat) (brokenByO : Nat) (brokenAtO : Nat) (goesByO : Nat) (comesToO : Nat) (sagMoreO : Nat) (creakOfO : Nat) (wipedByO : Nat) (deepAtO : Nat) (sagAtO : Nat) (loadAtO : Nat) (orderRowO : Nat) (oftenO : Nat) (lossOneO : Nat) (lossOtherO : Nat) (vO : Nat → Int32) (tO : Nat → Int32) (mO : Nat → Int32) (gO : Nat → Int64) (qHa : Nat → Nat) (hHa : Nat → Nat → Int32) (qBr : Nat → Nat) (aBr : Nat → Nat → Int32) (p1 : Int32) (p2 : Int32) (htO : Rg 0 700 tO) (hmO : Rg (-1) 127 mO) (hhHa : Pa_h hHa) : Met l yX12_rate wk_c_X12_rate ({ frames := 2, cells := 0, slots := 0, locals := 47 }) (va_Pc [.ref (qO 0), .int p1, .int p2] (fun U => U.heap.size = sz ∧ va_P (dC, dI) vwCl (List.flatten [(wMO qO k widthO manyO cellsO movedO tapeO linesO (qHa 0) (qBr 0) cartO wardO frostAtO actO isKeptO loadNowO byNowO rowO memoryO whoseO deepNowO brokenByO brokenAtO goesByO comesToO sagMoreO creakOfO wipedByO deepAtO sagAtO loadAtO orderRowO oftenO lossOneO lossOtherO vO tO mO gO), (wmBr qBr k aBr)] ++ List.flatten [(wmHa qHa k hHa)]) U.heap ∧ va_K (dC, dI) vwCl (tK k) U ∧ va_D (fun _ => True) (List.flatten [(wMO qO k widthO manyO cellsO movedO tapeO linesO (qHa 0) (qBr 0) cartO wardO frostAtO actO isKeptO loadNowO byNowO rowO memoryO whoseO deepNowO brokenByO brokenAtO goesByO comesToO sagMoreO creakOfO wipedByO deepAtO sagAtO loadAtO orderRowO oftenO lossOneO lossOtherO vO tO mO gO), (wmBr qBr k aBr)] ++ List.flatten [(wmHa qHa k hHa)]))) (va_Qi (fun (r : Int32) (_ : Unit) => True) (fun (_ : Unit) (t : State) => ∃ (vO' : Nat → Int32) (tO' : Nat → Int32) (mO' : Nat → Int32) (gO' : Nat → Int64) (aBr' : Nat → Nat → Int32), Rg 0 700 tO' ∧ Rg (-1) 127 mO' ∧ va_P (dC, dI) vwCl (List.flatten [(wMO qO k widthO manyO cellsO movedO tapeO linesO (qHa 0) (qBr 0) cartO wardO frostAtO actO isKeptO loadNowO byNowO rowO memoryO whoseO deepNowO brokenByO brokenAtO goesByO comesToO sagMoreO creakOfO wipedByO deepAtO sagAtO loadAtO orderRowO oftenO lossOneO lossOtherO vO' tO' mO' gO'), (wmBr qBr k aBr')] ++ List.flatten [(wmHa qHa k hHa)]) t.heap) (va_A (List.flatten [(wMO qO k widthO manyO cellsO movedO tapeO linesO (qHa 0) (qBr 0) cartO wardO frostAtO actO isKeptO loadNowO byNowO rowO memoryO whoseO deepNowO brokenByO brokenAtO goesByO comesToO sagMoreO creakOfO wipedByO deepAtO sagAtO loadAtO orderRowO oftenO lossOneO lossOtherO vO tO mO gO), (wmBr qBr k aBr)] ++ List.flatten [(wmHa qHa k hHa)]) sz)) 0 0 (va_A (List.flatten [(wMO qO k widthO manyO cellsO movedO tapeO linesO (qHa 0) (qBr 0) cartO wardO frostAtO actO isKeptO loadNowO byNowO rowO memoryO whoseO deepNowO brokenByO brokenAtO goesByO comesToO sagMoreO creakOfO wipedByO deepAtO sagAtO loadAtO orderRowO oftenO lossOneO lossOtherO vO tO mO gO), (wmBr qBr k aBr)] ++ List.flatten [(wmHa qHa k hHa)]) sz) := by
  refine Met.ofW (cc := cX12_rate) (maxL := 4) (ret := (some .int)) (by decide) rfl ?_
  intro p e s m args below meth c s₁ B hml hv
  obtain ⟨rfl, hsz, hP, hK, hD0⟩ := hv
  have hx := B.exec
  have hb := B.bytes
  have hr := B.returns
  have hts := atoms_spec (ws := wk_c_X12_rate) B.pre
  have hown : s.vm.findClass RX12 = some m.cls := findClass_of_methodNamed B.named
  have hlocks := B.notSynchronized
  subst hsz
  have hD := hD0.self (sz := s.heap.size)
  generalize hAe : va_A (List.flatten [(wMO qO k widthO manyO cellsO movedO tapeO linesO (qHa 0) (qBr 0) cartO wardO frostAtO actO isKeptO loadNowO byNowO rowO memoryO whoseO deepNowO brokenByO brokenAtO goesByO comesToO sagMoreO creakOfO wipedByO deepAtO sagAtO loadAtO orderRowO oftenO lossOneO lossOtherO vO tO mO gO), (wmBr qBr k aBr)] ++ List.flatten [(wmHa qHa k hHa)]) s.heap.size = A at hD ⊢
  have hA : ∀ q : Nat, s.heap.size ≤ q → A q := fun q h => by rw [← hAe]; exact Or.inr h
  have hS : va_S A s.heap s.heap [] := va_S.rf
  have hP : va_P (dC, dI) vwCl (List.flatten [(wMO qO k widthO manyO cellsO movedO tapeO linesO (qHa 0) (qBr 0) cartO wardO frostAtO actO isKeptO loadNowO byNowO rowO memoryO whoseO deepNowO brokenByO brokenAtO goesByO comesToO sagMoreO creakOfO wipedByO deepAtO sagAtO loadAtO orderRowO oftenO lossOneO lossOtherO vO tO mO gO), (wmBr qBr k aBr)] ++ List.flatten [(wmHa qHa k hHa)]) s.heap := hP
  have hl := lv_entry ([.ref (qO 0), .int p1, .int p2]) (n := 4) (Nat.le_of_ble_eq_true rfl)
  rw [lg_entry_eq]
  generalize (lg_sl ([.ref (qO 0), .int p1, .int p2]) ++ List.replicate (4 - (lg_sl ([.ref (qO 0), .int p1, .int p2])).length) Slot.unset).toArray = ls at hl ⊢
  have hl : lv_has ls 4 [(0, .ref (qO 0)), (1, .int p1), (2, .int p2)] := hl
  refine w_gen (fun Q hQ => ?_)
  refine lv_aload_n hx hb dX12_rate_0 rfl (lv_at hl 0 rfl) ?_
  refine lv_iconst (v := 0) hx hb dX12_rate_1 (by decide) ?_
  refine va_put (D := (dC, dI)) (ci := 12) (v := .int 0) (ty := .int) (C := RX12) (T := TX12) (N := 59) hx hb hts (fun w h => List.mem_cons_of_mem _ (List.mem_append_right _ (List.mem_append_left _ h))) tyX12 tyX12_ok nmX12 hown hK hP hD hS 0 rfl rfl 0 (by decide) (hts (.fieldLink RX12 116 "SagMemoryModel" "thrown" "I") (wl_mem 0 rfl)) (fun _ h9 => h9) rfl (by decide +kernel) rfl rfl (Nat.le_of_ble_eq_true rfl) dX12_rate_2 (fun H locs hP hD hS => ?_)
  have hP : va_P (dC, dI) vwCl (List.flatten [(wMO qO k widthO manyO cellsO movedO tapeO linesO (qHa 0) (qBr 0) cartO wardO frostAtO actO isKeptO loadNowO byNowO rowO memoryO whoseO deepNowO brokenByO brokenAtO goesByO comesToO sagMoreO creakOfO wipedByO deepAtO sagAtO loadAtO orderRowO oftenO lossOneO lossOtherO (va_up vO 0 (0 : Int32)) tO mO gO), (wmBr qBr k aBr)] ++ List.flatten [(wmHa qHa k hHa)]) H := hP
  have hD : va_D A (List.flatten [(wMO qO k widthO manyO cellsO movedO tapeO linesO (qHa 0) (qBr 0) cartO wardO frostAtO actO isKeptO loadNowO byNowO rowO memoryO whoseO deepNowO brokenByO brokenAtO goesByO comesToO sagMoreO creakOfO wipedByO deepAtO sagAtO loadAtO orderRowO oftenO lossOneO lossOtherO (va_up vO 0 (0 : Int32)) tO mO gO), (wmBr qBr k aBr)] ++ List.flatten [(wmHa qHa k hHa)]) := hD
  refine lv_aload_n hx hb dX12_rate_5 rfl (lv_at hl 0 rfl) ?_
  refine lv_iload_n hx hb dX12_rate_6 rfl (lv_at hl 1 rfl) ?_
  refine lv_i2l hx hb dX12_rate_7 rfl ?_
  have hPc := hP.sub (ws' := (List.flatten [(wMO qO k widthO manyO cellsO movedO tapeO linesO (qHa 0) (qBr 0) cartO wardO frostAtO actO isKeptO loadNowO byNowO rowO memoryO whoseO deepNowO brokenByO brokenAtO goesByO comesToO sagMoreO creakOfO wipedByO deepAtO sagAtO loadAtO orderRowO oftenO lossOneO lossOtherO (va_up vO 0 (0 : Int32)) tO mO gO), (wmHa qHa k hHa)])) [0, 2] rfl
  refine vp_callSi (va_Run.run (va_runV (As := [.long p1.toInt64]) (rest := []) ⟨hx, hb, hml, hown, hts⟩ (c_X12_isBridge l dC dI k qO widthO manyO cellsO movedO tapeO linesO (qBr 0) cartO wardO frostAtO actO isKeptO loadNowO byNowO rowO memoryO whoseO deepNowO brokenByO brokenAtO goesByO comesToO sagMoreO creakOfO wipedByO deepAtO sagAtO loadAtO orderRowO oftenO lossOneO lossOtherO (va_up vO 0 (0 : Int32)) tO mO gO qHa hHa p1.toInt64 htO hmO hhHa) (cwV 1 hts (gk_V (wl_mem 1 rfl) (wl_mem 2 rfl) (wl_mem 3 rfl) (wl_mem 4 rfl) (fun w h => List.mem_cons_of_mem _ (List.mem_append_right _ (List.mem_append_right _ (List.mem_append_left _ h)))) wkg_c_X12_isBridge) rfl rfl rfl (by decide +kernel) ⟨Nat.le_of_ble_eq_true rfl, Nat.le_of_ble_eq_true rfl⟩) ⟨fun a U g mk q => by obtain ⟨q0, qP, qK⟩ := q; exact ⟨q0, qP, va_K.moved (u := U) (U := U.calling g mk a) (Vm.Alike.refl U.vm) qK⟩, va_recv hK hPc (ci := 12) (q0 := 0) rfl rfl, fun U hU hW => ⟨rfl, by rw [hU]; exact hPc, va_K.moved hW.alike hK⟩⟩ rfl rfl hl.1 rfl (lv_room (Nat.le_of_ble_eq_true rfl)) dX12_rate_8 ⟨Nat.le_of_ble_eq_true rfl, Nat.le_of_ble_eq_true rfl⟩)) (fun rz2 gz1 => ?_)
  clear hPc
  obtain ⟨pz3, pz4⟩ := gz1
  have pz3 : rz2.toInt = 0 ∨ rz2.toInt = 1 := by first | exact pz3 | (simp only [Int32.toInt_toInt64] at pz3; exact pz3)
  have pz4 : rz2.toInt = 0 ∨ (0 ≤ p1.toInt ∧ p1.toInt ≤ 2) := by first | exact pz4 | (simp only [Int32.toInt_toInt64] at pz4; exact pz4)
  refine lv_if_eq (tgt := 26) hx hb dX12_rate_11 (by decide) (fun cz5 => ?_) (fun cz5 => ?_)
  · skip
    have zz6 : rz2.toInt = (0 : Int) := zi_eq.mp cz5
    refine lv_bipush (v := (-2)) hx hb dX12_rate_26 (by decide) ?_
    rw [hQ]
    exact W.iret (v := (-2 : Int32)) hx hb hr (fun t ht hW => ⟨⟨(-2 : Int32), (), rfl, trivial, (va_up vO 0 (0 : Int32)), tO, mO, gO, aBr, htO, hmO, by rw [ht]; exact hP⟩, hS.F ht⟩) hS.2.2 dX12_rate_28
  · skip
    have zz7 : ¬ rz2.toInt = (0 : Int) := fun h9 => cz5 (zi_eq.mpr h9)
    refine lv_iload_n hx hb dX12_rate_14 rfl (lv_at hl 2 rfl) ?_
    refine lv_i2l hx hb dX12_rate_15 rfl ?_
    refine lv_lconst (v := 1) hx hb dX12_rate_16 (by decide) ?_
    refine lv_ldc2 (v := 300) hx hb hown (hts (.constantLong RX12 506 (300)) (wl_mem 5 rfl)) dX12_rate_17 ?_
    have hPc : va_P (dC, dI) vwCl (List.flatten ([] : List va_W)) H := fun k q h => by simp at h
    refine vp_callSi (va_Run.run (va_runS (As := [.long p2.toInt64, .long 1, .long 300]) (rest := []) ⟨hx, hb, hml, hown, hts⟩ (c_X12_in l dC dI k p2.toInt64 (1 : Int64) (300 : Int64)) (va_cwS 3 hts (gk_S (wl_mem 6 rfl) (wl_mem 7 rfl) (wl_mem 4 rfl) (fun w h => List.mem_cons_of_mem _ (List.mem_append_right _ (List.mem_append_right _ (List.mem_append_right _ (List.mem_append_left _ h))))) wkg_c_X12_in) rfl rfl rfl (by decide +kernel) ⟨Nat.le_of_ble_eq_true rfl, Nat.le_of_ble_eq_true rfl⟩) ⟨fun a U g mk q => by obtain ⟨q0, qP, qK⟩ := q; exact ⟨q0, qP, va_K.moved (u := U) (U := U.calling g mk a) (Vm.Alike.refl U.vm) qK⟩, fun U hU hW => ⟨rfl, by rw [hU]; exact hPc, va_K.moved hW.alike hK⟩⟩ rfl rfl hl.1 rfl (lv_room (Nat.le_of_ble_eq_true rfl)) dX12_rate_20 ⟨Nat.le_of_ble_eq_true rfl, Nat.le_of_ble_eq_true rfl⟩)) (fun rz9 gz8 => ?_)
    clear hPc
    rcases gz8 with ⟨er, cz10⟩ | ⟨er, cz11, cz12⟩ | ⟨er, cz13, cz14⟩
    · obtain rfl := er.symm
      have zz15 : p2.toInt < (1 : Int) := by have h9 := zi_ltL.mp cz10; simp only [Int32.toInt_toInt64] at h9; exact h9
      refine lv_if_ne (tgt := 29) hx hb dX12_rate_23 (by decide) (fun cz16 => ?_) (fun cz16 => ?_)
      · skip
        exact absurd cz16 (by decide)
      · skip
        refine lv_bipush (v := (-2)) hx hb dX12_rate_26 (by decide) ?_
        rw [hQ]
        exact W.iret (v := (-2 : Int32)) hx hb hr (fun t ht hW => ⟨⟨(-2 : Int32), (), rfl, trivial, (va_up vO 0 (0 : Int32)), tO, mO, gO, aBr, htO, hmO, by rw [ht]; exact hP⟩, hS.F ht⟩) hS.2.2 dX12_rate_28
    · obtain rfl := er.symm
      have zz17 : ¬ p2.toInt < (1 : Int) := by intro h9; apply cz11; rw [zi_ltL]; simp only [Int32.toInt_toInt64]; exact h9
      have zz18 : (300 : Int) < p2.toInt := by have h9 := zi_ltL.mp cz12; simp only [Int32.toInt_toInt64] at h9; exact h9
      refine lv_if_ne (tgt := 29) hx hb dX12_rate_23 (by decide) (fun cz19 => ?_) (fun cz19 => ?_)
      · skip
        exact absurd cz19 (by decide)
      · skip
        refine lv_bipush (v := (-2)) hx hb dX12_rate_26 (by decide) ?_
        rw [hQ]
        exact W.iret (v := (-2 : Int32)) hx hb hr (fun t ht hW => ⟨⟨(-2 : Int32), (), rfl, trivial, (va_up vO 0 (0 : Int32)), tO, mO, gO, aBr, htO, hmO, by rw [ht]; exact hP⟩, hS.F ht⟩) hS.2.2 dX12_rate_28
    · obtain rfl := er.symm
      have zz20 : ¬ p2.toInt < (1 : Int) := by intro h9; apply cz13; rw [zi_ltL]; simp only [Int32.toInt_toInt64]; exact h9
      have zz21 : ¬ (300 : Int) < p2.toInt := by intro h9; apply cz14; rw [zi_ltL]; simp only [Int32.toInt_toInt64]; exact h9
      refine lv_if_ne (tgt := 29) hx hb dX12_rate_23 (by decide) (fun cz22 => ?_) (fun cz22 => ?_)
      · skip
        refine lv_aload_n hx hb dX12_rate_29 rfl (lv_at hl 0 rfl) ?_
        refine va_get (D := (dC, dI)) (ci := 12) (v := .ref (qHa 0)) (C := RX12) (T := TX12) (N := 59) hx hb hts (fun w h => List.mem_cons_of_mem _ (List.mem_append_right _ (List.mem_append_left _ h))) hown hK hP 0 rfl rfl 17 (by decide) (hts (.fieldLink RX12 34 "SagMemoryModel" "has" "[I") (wl_mem 8 rfl)) (fun _ h9 => h9) rfl dX12_rate_30 ?_
        refine lv_bipush (v := 7) hx hb dX12_rate_33 (by decide) ?_
        refine va_iald hx hb hK hP 2 0 rfl rfl (by unfold vp_in; decide) dX12_rate_35 ?_
        refine lv_topi (fun xz23 exz23 => ?_)
        have gxz23 : xz23.toInt = ((hHa 0) 7).toInt := by rw [exz23]; rfl
        have bxz23 : 0 ≤ xz23.toInt ∧ xz23.toInt ≤ 30 := by rw [exz23]; exact (hhHa 0).2.2.2.2 7 (by decide)
        refine lv_if_le (tgt := 42) hx hb dX12_rate_36 (by decide) (fun cz24 => ?_) (fun cz24 => ?_)
        · skip
          have zz25 : xz23.toInt ≤ (0 : Int) := zi_le.mp cz24
          refine lv_aload_n hx hb dX12_rate_42 rfl (lv_at hl 0 rfl) ?_
          refine va_get (D := (dC, dI)) (ci := 12) (v := .ref (qBr 0)) (C := RX12) (T := TX12) (N := 59) hx hb hts (fun w h => List.mem_cons_of_mem _ (List.mem_append_right _ (List.mem_append_left _ h))) hown hK hP 0 rfl rfl 18 (by decide) (hts (.fieldLink RX12 37 "SagMemoryModel" "bridge" "[I") (wl_mem 9 rfl)) (fun _ h9 => h9) rfl dX12_rate_43 ?_
          refine lv_iconst (v := 2) hx hb dX12_rate_46 (by decide) ?_
          refine lv_iload_n hx hb dX12_rate_47 rfl (lv_at hl 1 rfl) ?_
          refine lv_imul hx hb dX12_rate_48 ?_
          refine lv_topi (fun xz26 exz26 => ?_)
          have fxz26 : xz26.toInt = (2 : Int) * p1.toInt := by rw [exz26]; exact fb_mulI (x := (2 : Int32)) (y := p1) (by show -2147483648 ≤ (2 : Int) * p1.toInt; omega) (by show (2 : Int) * p1.toInt < 2147483648; omega)
          refine va_iald hx hb hK hP 1 0 rfl rfl (vp_in_iff.mpr ⟨by omega, by omega⟩) dX12_rate_49 ?_
          refine lv_topi (fun xz27 exz27 => ?_)
          refine lv_istore_n (lv' := [(3, .int xz27), (0, .ref (qO 0)), (1, .int p1), (2, .int p2)]) hx hb dX12_rate_50 rfl hl (by decide) rfl (fun ls hl => ?_)
          refine lv_aload_n hx hb dX12_rate_51 rfl (lv_at hl 1 rfl) ?_
          refine va_get (D := (dC, dI)) (ci := 12) (v := .ref (qBr 0)) (C := RX12) (T := TX12) (N := 59) hx hb hts (fun w h => List.mem_cons_of_mem _ (List.mem_append_right _ (List.mem_append_left _ h))) hown hK hP 0 rfl rfl 18 (by decide) (hts (.fieldLink RX12 37 "SagMemoryModel" "bridge" "[I") (wl_mem 9 rfl)) (fun _ h9 => h9) rfl dX12_rate_52 ?_
          refine lv_iconst (v := 2) hx hb dX12_rate_55 (by decide) ?_
          refine lv_iload_n hx hb dX12_rate_56 rfl (lv_at hl 2 rfl) ?_
          refine lv_imul hx hb dX12_rate_57 ?_
          refine lv_topi (fun xz28 exz28 => ?_)
          have fxz28 : xz28.toInt = (2 : Int) * p1.toInt := by rw [exz28]; exact fb_mulI (x := (2 : Int32)) (y := p1) (by show -2147483648 ≤ (2 : Int) * p1.toInt; omega) (by show (2 : Int) * p1.toInt < 2147483648; omega)
          refine lv_iload_n hx hb dX12_rate_58 rfl (lv_at hl 3 rfl) ?_
          refine va_iast hx hb hK hP hD hS 1 0 rfl rfl (vp_in_iff.mpr ⟨by omega, by omega⟩) dX12_rate_59 (fun H locs hP hD hS => ?_)
          obtain ⟨fz29, efz29, hP, hD⟩ : ∃ fz29 : Nat → Int32, fz29 = upd (aBr 0) xz28.toNatClampNeg p2 ∧ va_P (dC, dI) vwCl (List.flatten [(wMO qO k widthO manyO cellsO movedO tapeO linesO (qHa 0) (qBr 0) cartO wardO frostAtO actO isKeptO loadNowO byNowO rowO memoryO whoseO deepNowO brokenByO brokenAtO goesByO comesToO sagMoreO creakOfO wipedByO deepAtO sagAtO loadAtO orderRowO oftenO lossOneO lossOtherO (va_up vO 0 (0 : Int32)) tO mO gO), (wmBr qBr k (va_up aBr 0 fz29))] ++ List.flatten [(wmHa qHa k hHa)]) H ∧ va_D A (List.flatten [(wMO qO k widthO manyO cellsO movedO tapeO linesO (qHa 0) (qBr 0) cartO wardO frostAtO actO isKeptO loadNowO byNowO rowO memoryO whoseO deepNowO brokenByO brokenAtO goesByO comesToO sagMoreO creakOfO wipedByO deepAtO sagAtO loadAtO orderRowO oftenO lossOneO lossOtherO (va_up vO 0 (0 : Int32)) tO mO gO), (wmBr qBr k (va_up aBr 0 fz29))] ++ List.flatten [(wmHa qHa k hHa)]) := ⟨_, rfl, hP, hD⟩
          have kfz29 : fz29 xz28.toNatClampNeg = p2 := by rw [efz29]; exact pk_us
          refine lv_iload_n hx hb dX12_rate_60 rfl (lv_at hl 0 rfl) ?_
          rw [hQ]
          exact W.iret (v := xz27) hx hb hr (fun t ht hW => ⟨⟨xz27, (), rfl, trivial, (va_up vO 0 (0 : Int32)), tO, mO, gO, (va_up aBr 0 fz29), htO, hmO, by rw [ht]; exact hP⟩, hS.F ht⟩) hS.2.2 dX12_rate_61
        · skip
          have zz30 : ¬ xz23.toInt ≤ (0 : Int) := fun h9 => cz24 (zi_le.mpr h9)
          refine lv_bipush (v := (-5)) hx hb dX12_rate_39 (by decide) ?_
          rw [hQ]
          exact W.iret (v := (-5 : Int32)) hx hb hr (fun t ht hW => ⟨⟨(-5 : Int32), (), rfl, trivial, (va_up vO 0 (0 : Int32)), tO, mO, gO, aBr, htO, hmO, by rw [ht]; exact hP⟩, hS.F ht⟩) hS.2.2 dX12_rate_41
      · skip
        exact absurd cz22 (by decide)
def wk_c_X12_count : List Cond := .code yX12_count cX12_count 4 (some .int) :: ([.fieldLink RX12 116 "SagMemoryModel" "thrown" "I", .constantLong RX12 508 (7), .methodLink RX12 121 yX12_in, .static yX12_in, .initialized RX12, .fieldLink RX12 31 "SagMemoryModel" "lines" "[I", .fieldLink RX12 133 "SagMemoryModel" "taped" "I", .fieldLink RX12 7 "SagMemoryModel" "width" "[I", .fieldLink RX12 34 "SagMemoryModel" "has" "[I"] ++ (wsX120 ++ (wk_c_X12_in ++ [])))
theorem wkg_c_X12_count : wk_c_X12_count.all goodWord = true := by decide +kernel
set_option maxHeartbeats 4000000 in
set_option maxRecDepth 100000 in
theorem c_X12_count (l : Launch) (dC : Nat → ClassId) (dI : Nat → Nat → Nat) (k : Nat → ClassId) (sz : Nat) (qO : Nat → Nat) (manyO : Nat) (cellsO : Nat) (movedO : Nat) (tapeO : Nat) (bridgeO : Nat) (cartO : Nat) (wardO : Nat) (frostAtO : Nat) (actO : Nat) (isKeptO : Nat) (loadNowO : Nat) (byNowO : Nat) (rowO : Nat) (memoryO : Nat) (whoseO : Nat) (deepNowO : Nat) (brokenByO : Nat) (brokenAtO : Nat) (goesByO : Nat) (comesToO : Nat) (sagMoreO : Nat) (creakOfO : Nat) (wipedByO : Nat) (deepAtO : Nat) (sagAtO : Nat) (loadAtO : Nat) (orderRowO : Nat) (oftenO : Nat) (lossOneO : Nat) (lossOtherO : Nat) (vO : Nat → Int32) (tO : Nat → Int32) (mO : Nat → Int32) (gO : Nat → Int64) (qHa : Nat → Nat) (hHa : Nat → Nat → Int32) (qLi : Nat → Nat) (aLi : Nat → Nat → Int32) (qWi : Nat → Nat) (aWi : Nat → Nat → Int32) (p1 : Int32) (htO : Rg 0 700 tO) (hmO : Rg (-1) 127 mO) (hhHa : Pa_h hHa) : Met l yX12_count wk_c_X12_count ({ frames := 1, cells := 0, slots := 0, locals := 25 }) (va_Pc [.ref (qO 0), .int p1] (fun U => U.heap.size = sz ∧ va_P (dC, dI) vwCl (List.flatten [(wMO qO k (qWi 0) manyO cellsO movedO tapeO (qLi 0) (qHa 0) bridgeO cartO wardO frostAtO actO isKeptO loadNowO byNowO rowO memoryO whoseO deepNowO brokenByO brokenAtO goesByO comesToO sagMoreO creakOfO wipedByO deepAtO sagAtO loadAtO orderRowO oftenO lossOneO lossOtherO vO tO mO gO)] ++ List.flatten [(wmHa qHa k hHa), (wmLi qLi k aLi), (wmWi qWi k aWi)]) U.heap ∧ va_K (dC, dI) vwCl (tK k) U ∧ va_D (fun _ => True) (List.flatten [(wMO qO k (qWi 0) manyO cellsO movedO tapeO (qLi 0) (qHa 0) bridgeO cartO wardO frostAtO actO isKeptO loadNowO byNowO rowO memoryO whoseO deepNowO brokenByO brokenAtO goesByO comesToO sagMoreO creakOfO wipedByO deepAtO sagAtO loadAtO orderRowO oftenO lossOneO lossOtherO vO tO mO gO)] ++ List.flatten [(wmHa qHa k hHa), (wmLi qLi k aLi), (wmWi qWi k aWi)]))) (va_Qi (fun (r : Int32) (_ : Unit) => True) (fun (_ : Unit) (t : State) => ∃ (vO' : Nat → Int32) (tO' : Nat → Int32) (mO' : Nat → Int32) (gO' : Nat → Int64), Rg 0 700 tO' ∧ Rg (-1) 127 mO' ∧ va_P (dC, dI) vwCl (List.flatten [(wMO qO k (qWi 0) manyO cellsO movedO tapeO (qLi 0) (qHa 0) bridgeO cartO wardO frostAtO actO isKeptO loadNowO byNowO rowO memoryO whoseO deepNowO brokenByO brokenAtO goesByO comesToO sagMoreO creakOfO wipedByO deepAtO sagAtO loadAtO orderRowO oftenO lossOneO lossOtherO vO' tO' mO' gO')] ++ List.flatten [(wmHa qHa k hHa), (wmLi qLi k aLi), (wmWi qWi k aWi)]) t.heap) (va_A (List.flatten [(wMO qO k (qWi 0) manyO cellsO movedO tapeO (qLi 0) (qHa 0) bridgeO cartO wardO frostAtO actO isKeptO loadNowO byNowO rowO memoryO whoseO deepNowO brokenByO brokenAtO goesByO comesToO sagMoreO creakOfO wipedByO deepAtO sagAtO loadAtO orderRowO oftenO lossOneO lossOtherO vO tO mO gO)] ++ List.flatten [(wmHa qHa k hHa), (wmLi qLi k aLi), (wmWi qWi k aWi)]) sz)) 0 0 (va_A (List.flatten [(wMO qO k (qWi 0) manyO cellsO movedO tapeO (qLi 0) (qHa 0) bridgeO cartO wardO frostAtO actO isKeptO loadNowO byNowO rowO memoryO whoseO deepNowO brokenByO brokenAtO goesByO comesToO sagMoreO creakOfO wipedByO deepAtO sagAtO loadAtO orderRowO oftenO lossOneO lossOtherO vO tO mO gO)] ++ List.flatten [(wmHa qHa k hHa), (wmLi qLi k aLi), (wmWi qWi k aWi)]) sz) := by
  refine Met.ofW (cc := cX12_count) (maxL := 4) (ret := (some .int)) (by decide) rfl ?_
  intro p e s m args below meth c s₁ B hml hv
  obtain ⟨rfl, hsz, hP, hK, hD0⟩ := hv
  have hx := B.exec
  have hb := B.bytes
  have hr := B.returns
  have hts := atoms_spec (ws := wk_c_X12_count) B.pre
  have hown : s.vm.findClass RX12 = some m.cls := findClass_of_methodNamed B.named
  have hlocks := B.notSynchronized
  subst hsz
  have hD := hD0.self (sz := s.heap.size)
  generalize hAe : va_A (List.flatten [(wMO qO k (qWi 0) manyO cellsO movedO tapeO (qLi 0) (qHa 0) bridgeO cartO wardO frostAtO actO isKeptO loadNowO byNowO rowO memoryO whoseO deepNowO brokenByO brokenAtO goesByO comesToO sagMoreO creakOfO wipedByO deepAtO sagAtO loadAtO orderRowO oftenO lossOneO lossOtherO vO tO mO gO)] ++ List.flatten [(wmHa qHa k hHa), (wmLi qLi k aLi), (wmWi qWi k aWi)]) s.heap.size = A at hD ⊢
  have hA : ∀ q : Nat, s.heap.size ≤ q → A q := fun q h => by rw [← hAe]; exact Or.inr h
  have hS : va_S A s.heap s.heap [] := va_S.rf
  have hP : va_P (dC, dI) vwCl (List.flatten [(wMO qO k (qWi 0) manyO cellsO movedO tapeO (qLi 0) (qHa 0) bridgeO cartO wardO frostAtO actO isKeptO loadNowO byNowO rowO memoryO whoseO deepNowO brokenByO brokenAtO goesByO comesToO sagMoreO creakOfO wipedByO deepAtO sagAtO loadAtO orderRowO oftenO lossOneO lossOtherO vO tO mO gO)] ++ List.flatten [(wmHa qHa k hHa), (wmLi qLi k aLi), (wmWi qWi k aWi)]) s.heap := hP
  have hl := lv_entry ([.ref (qO 0), .int p1]) (n := 4) (Nat.le_of_ble_eq_true rfl)
  rw [lg_entry_eq]
  generalize (lg_sl ([.ref (qO 0), .int p1]) ++ List.replicate (4 - (lg_sl ([.ref (qO 0), .int p1])).length) Slot.unset).toArray = ls at hl ⊢
  have hl : lv_has ls 4 [(0, .ref (qO 0)), (1, .int p1)] := hl
  refine w_gen (fun Q hQ => ?_)
  refine lv_aload_n hx hb dX12_count_0 rfl (lv_at hl 0 rfl) ?_
  refine lv_iconst (v := 0) hx hb dX12_count_1 (by decide) ?_
  refine va_put (D := (dC, dI)) (ci := 12) (v := .int 0) (ty := .int) (C := RX12) (T := TX12) (N := 59) hx hb hts (fun w h => List.mem_cons_of_mem _ (List.mem_append_right _ (List.mem_append_left _ h))) tyX12 tyX12_ok nmX12 hown hK hP hD hS 0 rfl rfl 0 (by decide) (hts (.fieldLink RX12 116 "SagMemoryModel" "thrown" "I") (wl_mem 0 rfl)) (fun _ h9 => h9) rfl (by decide +kernel) rfl rfl (Nat.le_of_ble_eq_true rfl) dX12_count_2 (fun H locs hP hD hS => ?_)
  have hP : va_P (dC, dI) vwCl (List.flatten [(wMO qO k (qWi 0) manyO cellsO movedO tapeO (qLi 0) (qHa 0) bridgeO cartO wardO frostAtO actO isKeptO loadNowO byNowO rowO memoryO whoseO deepNowO brokenByO brokenAtO goesByO comesToO sagMoreO creakOfO wipedByO deepAtO sagAtO loadAtO orderRowO oftenO lossOneO lossOtherO (va_up vO 0 (0 : Int32)) tO mO gO)] ++ List.flatten [(wmHa qHa k hHa), (wmLi qLi k aLi), (wmWi qWi k aWi)]) H := hP
  have hD : va_D A (List.flatten [(wMO qO k (qWi 0) manyO cellsO movedO tapeO (qLi 0) (qHa 0) bridgeO cartO wardO frostAtO actO isKeptO loadNowO byNowO rowO memoryO whoseO deepNowO brokenByO brokenAtO goesByO comesToO sagMoreO creakOfO wipedByO deepAtO sagAtO loadAtO orderRowO oftenO lossOneO lossOtherO (va_up vO 0 (0 : Int32)) tO mO gO)] ++ List.flatten [(wmHa qHa k hHa), (wmLi qLi k aLi), (wmWi qWi k aWi)]) := hD
  refine lv_iload_n hx hb dX12_count_5 rfl (lv_at hl 1 rfl) ?_
  refine lv_i2l hx hb dX12_count_6 rfl ?_
  refine lv_lconst (v := 0) hx hb dX12_count_7 (by decide) ?_
  refine lv_ldc2 (v := 7) hx hb hown (hts (.constantLong RX12 508 (7)) (wl_mem 1 rfl)) dX12_count_8 ?_
  have hPc : va_P (dC, dI) vwCl (List.flatten ([] : List va_W)) H := fun k q h => by simp at h
  refine vp_callSi (va_Run.run (va_runS (As := [.long p1.toInt64, .long 0, .long 7]) (rest := []) ⟨hx, hb, hml, hown, hts⟩ (c_X12_in l dC dI k p1.toInt64 (0 : Int64) (7 : Int64)) (va_cwS 3 hts (gk_S (wl_mem 2 rfl) (wl_mem 3 rfl) (wl_mem 4 rfl) (fun w h => List.mem_cons_of_mem _ (List.mem_append_right _ (List.mem_append_right _ (List.mem_append_left _ h)))) wkg_c_X12_in) rfl rfl rfl (by decide +kernel) ⟨Nat.le_of_ble_eq_true rfl, Nat.le_of_ble_eq_true rfl⟩) ⟨fun a U g mk q => by obtain ⟨q0, qP, qK⟩ := q; exact ⟨q0, qP, va_K.moved (u := U) (U := U.calling g mk a) (Vm.Alike.refl U.vm) qK⟩, fun U hU hW => ⟨rfl, by rw [hU]; exact hPc, va_K.moved hW.alike hK⟩⟩ rfl rfl hl.1 rfl (lv_room (Nat.le_of_ble_eq_true rfl)) dX12_count_11 ⟨Nat.le_of_ble_eq_true rfl, Nat.le_of_ble_eq_true rfl⟩)) (fun rz2 gz1 => ?_)
  clear hPc
  rcases gz1 with ⟨er, cz3⟩ | ⟨er, cz4, cz5⟩ | ⟨er, cz6, cz7⟩
  · obtain rfl := er.symm
    have zz8 : p1.toInt < (0 : Int) := by have h9 := zi_ltL.mp cz3; simp only [Int32.toInt_toInt64] at h9; exact h9
    refine lv_if_eq (tgt := 24) hx hb dX12_count_14 (by decide) (fun cz9 => ?_) (fun cz9 => ?_)
    · skip
      refine lv_iconst (v := 0) hx hb dX12_count_24 (by decide) ?_
      refine lv_istore_n (lv' := [(2, .int 0), (0, .ref (qO 0)), (1, .int p1)]) hx hb dX12_count_25 rfl hl (by decide) rfl (fun ls hl => ?_)
      refine lv_iload_n hx hb dX12_count_26 rfl (lv_at hl 2 rfl) ?_
      by_cases cz10 : p1 = 8
      · skip
        have zz11 : p1.toInt = (8 : Int) := zi_eq.mp cz10
        omega
      · skip
        have zz12 : ¬ p1.toInt = (8 : Int) := fun h9 => cz10 (zi_eq.mpr h9)
        by_cases cz13 : p1 = 9
        · skip
          have zz14 : p1.toInt = (9 : Int) := zi_eq.mp cz13
          omega
        · skip
          have zz15 : ¬ p1.toInt = (9 : Int) := fun h9 => cz13 (zi_eq.mpr h9)
          by_cases cz16 : p1 = 10
          · skip
            have zz17 : p1.toInt = (10 : Int) := zi_eq.mp cz16
            omega
          · skip
            have zz18 : ¬ p1.toInt = (10 : Int) := fun h9 => cz16 (zi_eq.mpr h9)
            refine lv_tableOut (tgt := 97) hx hb dX12_count_27 (by omega) (by decide) ?_
            refine lv_iconst (v := (-1)) hx hb dX12_count_97 (by decide) ?_
            rw [hQ]
            exact W.iret (v := (-1 : Int32)) hx hb hr (fun t ht hW => ⟨⟨(-1 : Int32), (), rfl, trivial, (va_up vO 0 (0 : Int32)), tO, mO, gO, htO, hmO, by rw [ht]; exact hP⟩, hS.F ht⟩) hS.2.2 dX12_count_98
    · skip
      exact absurd cz9 (by decide)
  · obtain rfl := er.symm
    have zz19 : ¬ p1.toInt < (0 : Int) := by intro h9; apply cz4; rw [zi_ltL]; simp only [Int32.toInt_toInt64]; exact h9
    have zz20 : (7 : Int) < p1.toInt := by have h9 := zi_ltL.mp cz5; simp only [Int32.toInt_toInt64] at h9; exact h9
    refine lv_if_eq (tgt := 24) hx hb dX12_count_14 (by decide) (fun cz21 => ?_) (fun cz21 => ?_)
    · skip
      refine lv_iconst (v := 0) hx hb dX12_count_24 (by decide) ?_
      refine lv_istore_n (lv' := [(2, .int 0), (0, .ref (qO 0)), (1, .int p1)]) hx hb dX12_count_25 rfl hl (by decide) rfl (fun ls hl => ?_)
      refine lv_iload_n hx hb dX12_count_26 rfl (lv_at hl 2 rfl) ?_
      by_cases cz22 : p1 = 8
      · skip
        have zz23 : p1.toInt = (8 : Int) := zi_eq.mp cz22
        refine lv_tableIn (off := 25) (tgt := 52) hx hb dX12_count_27 (by rw [cz22]; decide) (by rw [cz22]; decide) (by rw [cz22]; rfl) (by decide) ?_
        refine lv_aload_n hx hb dX12_count_52 rfl (lv_at hl 1 rfl) ?_
        refine va_get (D := (dC, dI)) (ci := 12) (v := .ref (qLi 0)) (C := RX12) (T := TX12) (N := 59) hx hb hts (fun w h => List.mem_cons_of_mem _ (List.mem_append_right _ (List.mem_append_left _ h))) hown hK hP 0 rfl rfl 16 (by decide) (hts (.fieldLink RX12 31 "SagMemoryModel" "lines" "[I") (wl_mem 5 rfl)) (fun _ h9 => h9) rfl dX12_count_53 ?_
        refine lv_iconst (v := 0) hx hb dX12_count_56 (by decide) ?_
        refine va_iald hx hb hK hP 2 0 rfl rfl (by unfold vp_in; decide) dX12_count_57 ?_
        refine lv_topi (fun xz24 exz24 => ?_)
        rw [hQ]
        exact W.iret (v := xz24) hx hb hr (fun t ht hW => ⟨⟨xz24, (), rfl, trivial, (va_up vO 0 (0 : Int32)), tO, mO, gO, htO, hmO, by rw [ht]; exact hP⟩, hS.F ht⟩) hS.2.2 dX12_count_58
      · skip
        have zz25 : ¬ p1.toInt = (8 : Int) := fun h9 => cz22 (zi_eq.mpr h9)
        by_cases cz26 : p1 = 9
        · skip
          have zz27 : p1.toInt = (9 : Int) := zi_eq.mp cz26
          refine lv_tableIn (off := 32) (tgt := 59) hx hb dX12_count_27 (by rw [cz26]; decide) (by rw [cz26]; decide) (by rw [cz26]; rfl) (by decide) ?_
          refine lv_aload_n hx hb dX12_count_59 rfl (lv_at hl 1 rfl) ?_
          refine va_get (D := (dC, dI)) (ci := 12) (v := .int (tO 0)) (C := RX12) (T := TX12) (N := 59) hx hb hts (fun w h => List.mem_cons_of_mem _ (List.mem_append_right _ (List.mem_append_left _ h))) hown hK hP 0 rfl rfl 6 (by decide) (hts (.fieldLink RX12 133 "SagMemoryModel" "taped" "I") (wl_mem 6 rfl)) (fun _ h9 => h9) rfl dX12_count_60 ?_
          have bz28 := htO 0
          rw [hQ]
          exact W.iret (v := (tO 0)) hx hb hr (fun t ht hW => ⟨⟨(tO 0), (), rfl, trivial, (va_up vO 0 (0 : Int32)), tO, mO, gO, htO, hmO, by rw [ht]; exact hP⟩, hS.F ht⟩) hS.2.2 dX12_count_63
        · skip
          have zz29 : ¬ p1.toInt = (9 : Int) := fun h9 => cz26 (zi_eq.mpr h9)
          by_cases cz30 : p1 = 10
          · skip
            have zz31 : p1.toInt = (10 : Int) := zi_eq.mp cz30
            refine lv_tableIn (off := 37) (tgt := 64) hx hb dX12_count_27 (by rw [cz30]; decide) (by rw [cz30]; decide) (by rw [cz30]; rfl) (by decide) ?_
            refine lv_iconst (v := 0) hx hb dX12_count_64 (by decide) ?_
            refine lv_istore_n (lv' := [(3, .int 0), (2, .int 0), (0, .ref (qO 0)), (1, .int p1)]) hx hb dX12_count_65 rfl hl (by decide) rfl (fun ls hl => ?_)
            have lp66_kz62 : ∀ (n9_66 : Nat) (H : Heap) (locs : List Loc) (ls : Array Slot) (xz60 : Int32) (xz61 : Int32), (2147483647 - xz61.toInt).toNat < n9_66 → 0 ≤ xz61.toInt → va_P (dC, dI) vwCl (List.flatten [(wMO qO k (qWi 0) manyO cellsO movedO tapeO (qLi 0) (qHa 0) bridgeO cartO wardO frostAtO actO isKeptO loadNowO byNowO rowO memoryO whoseO deepNowO brokenByO brokenAtO goesByO comesToO sagMoreO creakOfO wipedByO deepAtO sagAtO loadAtO orderRowO oftenO lossOneO lossOtherO (va_up vO 0 (0 : Int32)) tO mO gO)] ++ List.flatten [(wmHa qHa k hHa), (wmLi qLi k aLi), (wmWi qWi k aWi)]) H → va_D A (List.flatten [(wMO qO k (qWi 0) manyO cellsO movedO tapeO (qLi 0) (qHa 0) bridgeO cartO wardO frostAtO actO isKeptO loadNowO byNowO rowO memoryO whoseO deepNowO brokenByO brokenAtO goesByO comesToO sagMoreO creakOfO wipedByO deepAtO sagAtO loadAtO orderRowO oftenO lossOneO lossOtherO (va_up vO 0 (0 : Int32)) tO mO gO)] ++ List.flatten [(wmHa qHa k hHa), (wmLi qLi k aLi), (wmWi qWi k aWi)]) → va_S A s.heap H locs → lv_has ls 4 [(0, .ref (qO 0)), (2, .int xz60), (3, .int xz61)] → W p l e (headSpec wk_c_X12_count ({ frames := 1, cells := 0, slots := 0, locals := 25 })).room s m ([.ref (qO 0), .int p1] : List Value).toArray below meth c H locs 0 0 Q (F0 m 66 ls []) := by
              intro n9_66
              induction n9_66 with
              | zero => intro H locs ls xz60 xz61 hm; exact absurd hm (Nat.not_lt_zero _)
              | succ n9_66 ih66 =>
                intro H locs ls xz60 xz61 hm66 jz63 hP hD hS hl
                refine lv_iload_n hx hb dX12_count_66 rfl (lv_at hl 2 rfl) ?_
                refine lv_iconst (v := 4) hx hb dX12_count_67 (by decide) ?_
                refine lv_icmp_ge (tgt := 95) hx hb dX12_count_68 (by decide) (fun cz64 => ?_) (fun cz64 => ?_)
                · skip
                  have bz65 := fb_rng xz61
                  have zz66 : (4 : Int) ≤ xz61.toInt := zi_le.mp cz64
                  refine lv_iload_n hx hb dX12_count_95 rfl (lv_at hl 1 rfl) ?_
                  rw [hQ]
                  exact W.iret (v := xz60) hx hb hr (fun t ht hW => ⟨⟨xz60, (), rfl, trivial, (va_up vO 0 (0 : Int32)), tO, mO, gO, htO, hmO, by rw [ht]; exact hP⟩, hS.F ht⟩) hS.2.2 dX12_count_96
                · skip
                  have bz67 := fb_rng xz61
                  have zz68 : ¬ (4 : Int) ≤ xz61.toInt := fun h9 => cz64 (zi_le.mpr h9)
                  refine lv_iload_n hx hb dX12_count_71 rfl (lv_at hl 1 rfl) ?_
                  refine lv_aload_n hx hb dX12_count_72 rfl (lv_at hl 0 rfl) ?_
                  refine va_get (D := (dC, dI)) (ci := 12) (v := .ref (qWi 0)) (C := RX12) (T := TX12) (N := 59) hx hb hts (fun w h => List.mem_cons_of_mem _ (List.mem_append_right _ (List.mem_append_left _ h))) hown hK hP 0 rfl rfl 1 (by decide) (hts (.fieldLink RX12 7 "SagMemoryModel" "width" "[I") (wl_mem 7 rfl)) (fun _ h9 => h9) rfl dX12_count_73 ?_
                  refine lv_iload_n hx hb dX12_count_76 rfl (lv_at hl 2 rfl) ?_
                  refine va_iald hx hb hK hP 3 0 rfl rfl (vp_in_iff.mpr ⟨by omega, by omega⟩) dX12_count_77 ?_
                  refine lv_topi (fun xz69 exz69 => ?_)
                  refine lv_iconst (v := (-1)) hx hb dX12_count_78 (by decide) ?_
                  refine lv_icmp_ne (tgt := 86) hx hb dX12_count_79 (by decide) (fun cz78 => ?_) (fun cz78 => ?_)
                  · skip
                    have zz79 : ¬ xz69.toInt = (-1 : Int) := fun h9 => cz78 (zi_eq.mpr h9)
                    refine lv_iconst (v := 1) hx hb dX12_count_86 (by decide) ?_
                    refine lv_iadd hx hb dX12_count_87 ?_
                    refine lv_topi (fun xz80 exz80 => ?_)
                    refine lv_istore_n (lv' := [(2, .int xz80), (0, .ref (qO 0)), (3, .int xz61)]) hx hb dX12_count_88 rfl hl (by decide) rfl (fun ls hl => ?_)
                    obtain ⟨xz81, exz81⟩ : ∃ y : Int32, y = xz61 + Int32.ofInt (1) := ⟨_, rfl⟩
                    have fxz81 : xz81.toInt = xz61.toInt + (1) := by rw [exz81]; exact fb_addI (y := Int32.ofInt (1)) (by show -2147483648 ≤ xz61.toInt + (1); omega) (by show xz61.toInt + (1) < 2147483648; omega)
                    refine lv_iinc (v := xz81) (lv' := [(3, .int xz81), (2, .int xz80), (0, .ref (qO 0))]) hx hb dX12_count_89 hl (k := 2) rfl exz81.symm (by decide) rfl (fun ls hl => ?_)
                    refine lv_goto (tgt := 66) hx hb dX12_count_92 (by decide) ?_
                    exact ih66 H locs ls xz80 xz81 (by show (2147483647 - xz81.toInt).toNat < n9_66; omega) (by show 0 ≤ xz81.toInt; omega) hP hD hS (lv_sub hl [2, 1, 0] rfl)
                  · skip
                    have zz82 : xz69.toInt = (-1 : Int) := zi_eq.mp cz78
                    refine lv_iconst (v := 0) hx hb dX12_count_82 (by decide) ?_
                    refine lv_goto (tgt := 87) hx hb dX12_count_83 (by decide) ?_
                    refine lv_iadd hx hb dX12_count_87 ?_
                    have bz83 := fb_rng xz60
                    refine lv_topi (fun xz84 exz84 => ?_)
                    have fxz84 : xz84.toInt = xz60.toInt + (0 : Int) := by rw [exz84]; exact fb_addI (x := xz60) (y := (0 : Int32)) (by show -2147483648 ≤ xz60.toInt + (0 : Int); omega) (by show xz60.toInt + (0 : Int) < 2147483648; omega)
                    refine lv_istore_n (lv' := [(2, .int xz84), (0, .ref (qO 0)), (3, .int xz61)]) hx hb dX12_count_88 rfl hl (by decide) rfl (fun ls hl => ?_)
                    obtain ⟨xz85, exz85⟩ : ∃ y : Int32, y = xz61 + Int32.ofInt (1) := ⟨_, rfl⟩
                    have fxz85 : xz85.toInt = xz61.toInt + (1) := by rw [exz85]; exact fb_addI (y := Int32.ofInt (1)) (by show -2147483648 ≤ xz61.toInt + (1); omega) (by show xz61.toInt + (1) < 2147483648; omega)
                    refine lv_iinc (v := xz85) (lv' := [(3, .int xz85), (2, .int xz84), (0, .ref (qO 0))]) hx hb dX12_count_89 hl (k := 2) rfl exz85.symm (by decide) rfl (fun ls hl => ?_)
                    refine lv_goto (tgt := 66) hx hb dX12_count_92 (by decide) ?_
                    exact ih66 H locs ls xz84 xz85 (by show (2147483647 - xz85.toInt).toNat < n9_66; omega) (by show 0 ≤ xz85.toInt; omega) hP hD hS (lv_sub hl [2, 1, 0] rfl)
            exact lp66_kz62 _ H locs ls (0 : Int32) (0 : Int32) (Nat.lt_succ_self _) (by show 0 ≤ (0 : Int); omega) hP hD hS (lv_sub hl [2, 1, 0] rfl)
          · skip
            have zz86 : ¬ p1.toInt = (10 : Int) := fun h9 => cz30 (zi_eq.mpr h9)
            refine lv_tableOut (tgt := 97) hx hb dX12_count_27 (by omega) (by decide) ?_
            refine lv_iconst (v := (-1)) hx hb dX12_count_97 (by decide) ?_
            rw [hQ]
            exact W.iret (v := (-1 : Int32)) hx hb hr (fun t ht hW => ⟨⟨(-1 : Int32), (), rfl, trivial, (va_up vO 0 (0 : Int32)), tO, mO, gO, htO, hmO, by rw [ht]; exact hP⟩, hS.F ht⟩) hS.2.2 dX12_count_98
    · skip
      exact absurd cz21 (by decide)
  · obtain rfl := er.symm
    have zz87 : ¬ p1.toInt < (0 : Int) := by intro h9; apply cz6; rw [zi_ltL]; simp only [Int32.toInt_toInt64]; exact h9
    have zz88 : ¬ (7 : Int) < p1.toInt := by intro h9; apply cz7; rw [zi_ltL]; simp only [Int32.toInt_toInt64]; exact h9
    refine lv_if_eq (tgt := 24) hx hb dX12_count_14 (by decide) (fun cz89 => ?_) (fun cz89 => ?_)
    · skip
      exact absurd cz89 (by decide)
    · skip
      refine lv_aload_n hx hb dX12_count_17 rfl (lv_at hl 0 rfl) ?_
      refine va_get (D := (dC, dI)) (ci := 12) (v := .ref (qHa 0)) (C := RX12) (T := TX12) (N := 59) hx hb hts (fun w h => List.mem_cons_of_mem _ (List.mem_append_right _ (List.mem_append_left _ h))) hown hK hP 0 rfl rfl 17 (by decide) (hts (.fieldLink RX12 34 "SagMemoryModel" "has" "[I") (wl_mem 8 rfl)) (fun _ h9 => h9) rfl dX12_count_18 ?_
      refine lv_iload_n hx hb dX12_count_21 rfl (lv_at hl 1 rfl) ?_
      refine va_iald hx hb hK hP 1 0 rfl rfl (vp_in_iff.mpr ⟨by omega, by omega⟩) dX12_count_22 ?_
      refine lv_topi (fun xz90 exz90 => ?_)
      have bxz90_0 : p1.toInt % 8 = 3 → 0 ≤ xz90.toInt ∧ xz90.toInt ≤ 3 := by rw [exz90]; exact md_rd (hhHa 0).1 (by omega)
      have bxz90_1 : p1.toInt % 8 = 4 → 0 ≤ xz90.toInt ∧ xz90.toInt ≤ 7 := by rw [exz90]; exact md_rd (hhHa 0).2.1 (by omega)
      have bxz90_2 : p1.toInt % 8 = 5 → 0 ≤ xz90.toInt ∧ xz90.toInt ≤ 5 := by rw [exz90]; exact md_rd (hhHa 0).2.2.1 (by omega)
      have bxz90_3 : p1.toInt % 8 = 6 → 0 ≤ xz90.toInt ∧ xz90.toInt ≤ 4 := by rw [exz90]; exact md_rd (hhHa 0).2.2.2.1 (by omega)
      have bxz90_4 : p1.toInt % 8 = 7 → 0 ≤ xz90.toInt ∧ xz90.toInt ≤ 30 := by rw [exz90]; exact md_rd (hhHa 0).2.2.2.2 (by omega)
      rw [hQ]
      exact W.iret (v := xz90) hx hb hr (fun t ht hW => ⟨⟨xz90, (), rfl, trivial, (va_up vO 0 (0 : Int32)), tO, mO, gO, htO, hmO, by rw [ht]; exact hP⟩, hS.F ht⟩) hS.2.2 dX12_count_23
def wk_c_X12_image : List Cond := .code yX12_image cX12_image 2 (some .int) :: ([.fieldLink RX12 116 "SagMemoryModel" "thrown" "I", .constantLong RX12 345 (2), .methodLink RX12 121 yX12_in, .static yX12_in, .initialized RX12, .methodLink RX12 276 yX12_copyValley, .instanceMethod yX12_copyValley, .selects RX12 yX12_copyValley yX12_copyValley, .fieldLink RX12 52 "SagMemoryModel" "isKept" "[Z"] ++ (wsX120 ++ (wk_c_X12_in ++ (wk_c_X12_copyValley ++ []))))
theorem wkg_c_X12_image : wk_c_X12_image.all goodWord = true := by decide +kernel
set_option maxHeartbeats 4000000 in
set_option maxRecDepth 100000 in
theorem c_X12_image (l : Launch) (dC : Nat → ClassId) (dI : Nat → Nat → Nat) (k : Nat → ClassId) (sz : Nat) (qO : Nat → Nat) (widthO : Nat) (manyO : Nat) (cellsO : Nat) (movedO : Nat) (tapeO : Nat) (loadNowO : Nat) (byNowO : Nat) (rowO : Nat) (memoryO : Nat) (whoseO : Nat) (deepNowO : Nat) (brokenByO : Nat) (brokenAtO : Nat) (goesByO : Nat) (comesToO : Nat) (sagMoreO : Nat) (creakOfO : Nat) (wipedByO : Nat) (deepAtO : Nat) (sagAtO : Nat) (loadAtO : Nat) (orderRowO : Nat) (oftenO : Nat) (lossOneO : Nat) (lossOtherO : Nat) (vO : Nat → Int32) (tO : Nat → Int32) (mO : Nat → Int32) (gO : Nat → Int64) (qLi : Nat → Nat) (aLi : Nat → Nat → Int32) (qHa : Nat → Nat) (hHa : Nat → Nat → Int32) (qBr : Nat → Nat) (aBr : Nat → Nat → Int32) (qCa : Nat → Nat) (pCa : Nat → Nat → Int32) (qWa : Nat → Nat) (jWa : Nat → Nat → Int32) (qFr : Nat → Nat) (aFr : Nat → Nat → Int32) (qAc : Nat → Nat) (iAc : Nat → Nat → Int32) (qIk : Nat → Nat) (aIk : Nat → Nat → Int32) (p1 : Int32) (htO : Rg 0 700 tO) (hmO : Rg (-1) 127 mO) (hhHa : Pa_h hHa) (hpCa : Pa_p pCa) (hjWa : Pa_j jWa) (hiAc : Pa_i iAc) : Met l yX12_image wk_c_X12_image ({ frames := 2, cells := 0, slots := 0, locals := 46 }) (va_Pc [.ref (qO 0), .int p1] (fun U => U.heap.size = sz ∧ va_P (dC, dI) vwCl (List.flatten [(wMO qO k widthO manyO cellsO movedO tapeO (qLi 0) (qHa 0) (qBr 0) (qCa 0) (qWa 0) (qFr 0) (qAc 0) (qIk 0) loadNowO byNowO rowO memoryO whoseO deepNowO brokenByO brokenAtO goesByO comesToO sagMoreO creakOfO wipedByO deepAtO sagAtO loadAtO orderRowO oftenO lossOneO lossOtherO vO tO mO gO), (wmLi qLi k aLi), (wmHa qHa k hHa), (wmBr qBr k aBr), (wmCa qCa k pCa), (wmWa qWa k jWa), (wmFr qFr k aFr), (wmAc qAc k iAc), (wmIk qIk k aIk)] ++ List.flatten ([] : List va_W)) U.heap ∧ va_K (dC, dI) vwCl (tK k) U ∧ va_D (fun _ => True) (List.flatten [(wMO qO k widthO manyO cellsO movedO tapeO (qLi 0) (qHa 0) (qBr 0) (qCa 0) (qWa 0) (qFr 0) (qAc 0) (qIk 0) loadNowO byNowO rowO memoryO whoseO deepNowO brokenByO brokenAtO goesByO comesToO sagMoreO creakOfO wipedByO deepAtO sagAtO loadAtO orderRowO oftenO lossOneO lossOtherO vO tO mO gO), (wmLi qLi k aLi), (wmHa qHa k hHa), (wmBr qBr k aBr), (wmCa qCa k pCa), (wmWa qWa k jWa), (wmFr qFr k aFr), (wmAc qAc k iAc), (wmIk qIk k aIk)] ++ List.flatten ([] : List va_W)))) (va_Qi (fun (r : Int32) (_ : Unit) => True) (fun (_ : Unit) (t : State) => ∃ (vO' : Nat → Int32) (tO' : Nat → Int32) (mO' : Nat → Int32) (gO' : Nat → Int64) (aLi' : Nat → Nat → Int32) (hHa' : Nat → Nat → Int32) (aBr' : Nat → Nat → Int32) (pCa' : Nat → Nat → Int32) (jWa' : Nat → Nat → Int32) (aFr' : Nat → Nat → Int32) (iAc' : Nat → Nat → Int32) (aIk' : Nat → Nat → Int32), Rg 0 700 tO' ∧ Rg (-1) 127 mO' ∧ Pa_h hHa' ∧ Pa_p pCa' ∧ Pa_j jWa' ∧ Pa_i iAc' ∧ va_P (dC, dI) vwCl (List.flatten [(wMO qO k widthO manyO cellsO movedO tapeO (qLi 0) (qHa 0) (qBr 0) (qCa 0) (qWa 0) (qFr 0) (qAc 0) (qIk 0) loadNowO byNowO rowO memoryO whoseO deepNowO brokenByO brokenAtO goesByO comesToO sagMoreO creakOfO wipedByO deepAtO sagAtO loadAtO orderRowO oftenO lossOneO lossOtherO vO' tO' mO' gO'), (wmLi qLi k aLi'), (wmHa qHa k hHa'), (wmBr qBr k aBr'), (wmCa qCa k pCa'), (wmWa qWa k jWa'), (wmFr qFr k aFr'), (wmAc qAc k iAc'), (wmIk qIk k aIk')] ++ List.flatten ([] : List va_W)) t.heap) (va_A (List.flatten [(wMO qO k widthO manyO cellsO movedO tapeO (qLi 0) (qHa 0) (qBr 0) (qCa 0) (qWa 0) (qFr 0) (qAc 0) (qIk 0) loadNowO byNowO rowO memoryO whoseO deepNowO brokenByO brokenAtO goesByO comesToO sagMoreO creakOfO wipedByO deepAtO sagAtO loadAtO orderRowO oftenO lossOneO lossOtherO vO tO mO gO), (wmLi qLi k aLi), (wmHa qHa k hHa), (wmBr qBr k aBr), (wmCa qCa k pCa), (wmWa qWa k jWa), (wmFr qFr k aFr), (wmAc qAc k iAc), (wmIk qIk k aIk)] ++ List.flatten ([] : List va_W)) sz)) 0 0 (va_A (List.flatten [(wMO qO k widthO manyO cellsO movedO tapeO (qLi 0) (qHa 0) (qBr 0) (qCa 0) (qWa 0) (qFr 0) (qAc 0) (qIk 0) loadNowO byNowO rowO memoryO whoseO deepNowO brokenByO brokenAtO goesByO comesToO sagMoreO creakOfO wipedByO deepAtO sagAtO loadAtO orderRowO oftenO lossOneO lossOtherO vO tO mO gO), (wmLi qLi k aLi), (wmHa qHa k hHa), (wmBr qBr k aBr), (wmCa qCa k pCa), (wmWa qWa k jWa), (wmFr qFr k aFr), (wmAc qAc k iAc), (wmIk qIk k aIk)] ++ List.flatten ([] : List va_W)) sz) := by
  refine Met.ofW (cc := cX12_image) (maxL := 2) (ret := (some .int)) (by decide) rfl ?_
  intro p e s m args below meth c s₁ B hml hv
  obtain ⟨rfl, hsz, hP, hK, hD0⟩ := hv
  have hx := B.exec
  have hb := B.bytes
  have hr := B.returns
  have hts := atoms_spec (ws := wk_c_X12_image) B.pre
  have hown : s.vm.findClass RX12 = some m.cls := findClass_of_methodNamed B.named
  have hlocks := B.notSynchronized
  subst hsz
  have hD := hD0.self (sz := s.heap.size)
  generalize hAe : va_A (List.flatten [(wMO qO k widthO manyO cellsO movedO tapeO (qLi 0) (qHa 0) (qBr 0) (qCa 0) (qWa 0) (qFr 0) (qAc 0) (qIk 0) loadNowO byNowO rowO memoryO whoseO deepNowO brokenByO brokenAtO goesByO comesToO sagMoreO creakOfO wipedByO deepAtO sagAtO loadAtO orderRowO oftenO lossOneO lossOtherO vO tO mO gO), (wmLi qLi k aLi), (wmHa qHa k hHa), (wmBr qBr k aBr), (wmCa qCa k pCa), (wmWa qWa k jWa), (wmFr qFr k aFr), (wmAc qAc k iAc), (wmIk qIk k aIk)] ++ List.flatten ([] : List va_W)) s.heap.size = A at hD ⊢
  have hA : ∀ q : Nat, s.heap.size ≤ q → A q := fun q h => by rw [← hAe]; exact Or.inr h
  have hS : va_S A s.heap s.heap [] := va_S.rf
  have hP : va_P (dC, dI) vwCl (List.flatten [(wMO qO k widthO manyO cellsO movedO tapeO (qLi 0) (qHa 0) (qBr 0) (qCa 0) (qWa 0) (qFr 0) (qAc 0) (qIk 0) loadNowO byNowO rowO memoryO whoseO deepNowO brokenByO brokenAtO goesByO comesToO sagMoreO creakOfO wipedByO deepAtO sagAtO loadAtO orderRowO oftenO lossOneO lossOtherO vO tO mO gO), (wmLi qLi k aLi), (wmHa qHa k hHa), (wmBr qBr k aBr), (wmCa qCa k pCa), (wmWa qWa k jWa), (wmFr qFr k aFr), (wmAc qAc k iAc), (wmIk qIk k aIk)] ++ List.flatten ([] : List va_W)) s.heap := hP
  have hl := lv_entry ([.ref (qO 0), .int p1]) (n := 2) (Nat.le_of_ble_eq_true rfl)
  rw [lg_entry_eq]
  generalize (lg_sl ([.ref (qO 0), .int p1]) ++ List.replicate (2 - (lg_sl ([.ref (qO 0), .int p1])).length) Slot.unset).toArray = ls at hl ⊢
  have hl : lv_has ls 2 [(0, .ref (qO 0)), (1, .int p1)] := hl
  refine w_gen (fun Q hQ => ?_)
  refine lv_aload_n hx hb dX12_image_0 rfl (lv_at hl 0 rfl) ?_
  refine lv_iconst (v := 0) hx hb dX12_image_1 (by decide) ?_
  refine va_put (D := (dC, dI)) (ci := 12) (v := .int 0) (ty := .int) (C := RX12) (T := TX12) (N := 59) hx hb hts (fun w h => List.mem_cons_of_mem _ (List.mem_append_right _ (List.mem_append_left _ h))) tyX12 tyX12_ok nmX12 hown hK hP hD hS 0 rfl rfl 0 (by decide) (hts (.fieldLink RX12 116 "SagMemoryModel" "thrown" "I") (wl_mem 0 rfl)) (fun _ h9 => h9) rfl (by decide +kernel) rfl rfl (Nat.le_of_ble_eq_true rfl) dX12_image_2 (fun H locs hP hD hS => ?_)
  have hP : va_P (dC, dI) vwCl (List.flatten [(wMO qO k widthO manyO cellsO movedO tapeO (qLi 0) (qHa 0) (qBr 0) (qCa 0) (qWa 0) (qFr 0) (qAc 0) (qIk 0) loadNowO byNowO rowO memoryO whoseO deepNowO brokenByO brokenAtO goesByO comesToO sagMoreO creakOfO wipedByO deepAtO sagAtO loadAtO orderRowO oftenO lossOneO lossOtherO (va_up vO 0 (0 : Int32)) tO mO gO), (wmLi qLi k aLi), (wmHa qHa k hHa), (wmBr qBr k aBr), (wmCa qCa k pCa), (wmWa qWa k jWa), (wmFr qFr k aFr), (wmAc qAc k iAc), (wmIk qIk k aIk)] ++ List.flatten ([] : List va_W)) H := hP
  have hD : va_D A (List.flatten [(wMO qO k widthO manyO cellsO movedO tapeO (qLi 0) (qHa 0) (qBr 0) (qCa 0) (qWa 0) (qFr 0) (qAc 0) (qIk 0) loadNowO byNowO rowO memoryO whoseO deepNowO brokenByO brokenAtO goesByO comesToO sagMoreO creakOfO wipedByO deepAtO sagAtO loadAtO orderRowO oftenO lossOneO lossOtherO (va_up vO 0 (0 : Int32)) tO mO gO), (wmLi qLi k aLi), (wmHa qHa k hHa), (wmBr qBr k aBr), (wmCa qCa k pCa), (wmWa qWa k jWa), (wmFr qFr k aFr), (wmAc qAc k iAc), (wmIk qIk k aIk)] ++ List.flatten ([] : List va_W)) := hD
  refine lv_iload_n hx hb dX12_image_5 rfl (lv_at hl 1 rfl) ?_
  refine lv_i2l hx hb dX12_image_6 rfl ?_
  refine lv_lconst (v := 0) hx hb dX12_image_7 (by decide) ?_
  refine lv_ldc2 (v := 2) hx hb hown (hts (.constantLong RX12 345 (2)) (wl_mem 1 rfl)) dX12_image_8 ?_
  have hPc : va_P (dC, dI) vwCl (List.flatten ([] : List va_W)) H := fun k q h => by simp at h
  refine vp_callSi (va_Run.run (va_runS (As := [.long p1.toInt64, .long 0, .long 2]) (rest := []) ⟨hx, hb, hml, hown, hts⟩ (c_X12_in l dC dI k p1.toInt64 (0 : Int64) (2 : Int64)) (va_cwS 3 hts (gk_S (wl_mem 2 rfl) (wl_mem 3 rfl) (wl_mem 4 rfl) (fun w h => List.mem_cons_of_mem _ (List.mem_append_right _ (List.mem_append_right _ (List.mem_append_left _ h)))) wkg_c_X12_in) rfl rfl rfl (by decide +kernel) ⟨Nat.le_of_ble_eq_true rfl, Nat.le_of_ble_eq_true rfl⟩) ⟨fun a U g mk q => by obtain ⟨q0, qP, qK⟩ := q; exact ⟨q0, qP, va_K.moved (u := U) (U := U.calling g mk a) (Vm.Alike.refl U.vm) qK⟩, fun U hU hW => ⟨rfl, by rw [hU]; exact hPc, va_K.moved hW.alike hK⟩⟩ rfl rfl hl.1 rfl (lv_room (Nat.le_of_ble_eq_true rfl)) dX12_image_11 ⟨Nat.le_of_ble_eq_true rfl, Nat.le_of_ble_eq_true rfl⟩)) (fun rz2 gz1 => ?_)
  clear hPc
  rcases gz1 with ⟨er, cz3⟩ | ⟨er, cz4, cz5⟩ | ⟨er, cz6, cz7⟩
  · obtain rfl := er.symm
    have zz8 : p1.toInt < (0 : Int) := by have h9 := zi_ltL.mp cz3; simp only [Int32.toInt_toInt64] at h9; exact h9
    refine lv_if_ne (tgt := 20) hx hb dX12_image_14 (by decide) (fun cz9 => ?_) (fun cz9 => ?_)
    · skip
      exact absurd cz9 (by decide)
    · skip
      refine lv_bipush (v := (-2)) hx hb dX12_image_17 (by decide) ?_
      rw [hQ]
      exact W.iret (v := (-2 : Int32)) hx hb hr (fun t ht hW => ⟨⟨(-2 : Int32), (), rfl, trivial, (va_up vO 0 (0 : Int32)), tO, mO, gO, aLi, hHa, aBr, pCa, jWa, aFr, iAc, aIk, htO, hmO, hhHa, hpCa, hjWa, hiAc, by rw [ht]; exact hP⟩, hS.F ht⟩) hS.2.2 dX12_image_19
  · obtain rfl := er.symm
    have zz10 : ¬ p1.toInt < (0 : Int) := by intro h9; apply cz4; rw [zi_ltL]; simp only [Int32.toInt_toInt64]; exact h9
    have zz11 : (2 : Int) < p1.toInt := by have h9 := zi_ltL.mp cz5; simp only [Int32.toInt_toInt64] at h9; exact h9
    refine lv_if_ne (tgt := 20) hx hb dX12_image_14 (by decide) (fun cz12 => ?_) (fun cz12 => ?_)
    · skip
      exact absurd cz12 (by decide)
    · skip
      refine lv_bipush (v := (-2)) hx hb dX12_image_17 (by decide) ?_
      rw [hQ]
      exact W.iret (v := (-2 : Int32)) hx hb hr (fun t ht hW => ⟨⟨(-2 : Int32), (), rfl, trivial, (va_up vO 0 (0 : Int32)), tO, mO, gO, aLi, hHa, aBr, pCa, jWa, aFr, iAc, aIk, htO, hmO, hhHa, hpCa, hjWa, hiAc, by rw [ht]; exact hP⟩, hS.F ht⟩) hS.2.2 dX12_image_19
  · obtain rfl := er.symm
    have zz13 : ¬ p1.toInt < (0 : Int) := by intro h9; apply cz6; rw [zi_ltL]; simp only [Int32.toInt_toInt64]; exact h9
    have zz14 : ¬ (2 : Int) < p1.toInt := by intro h9; apply cz7; rw [zi_ltL]; simp only [Int32.toInt_toInt64]; exact h9
    refine lv_if_ne (tgt := 20) hx hb dX12_image_14 (by decide) (fun cz15 => ?_) (fun cz15 => ?_)
    · skip
      refine lv_aload_n hx hb dX12_image_20 rfl (lv_at hl 0 rfl) ?_
      refine lv_iconst (v := 0) hx hb dX12_image_21 (by decide) ?_
      refine lv_iconst (v := 1) hx hb dX12_image_22 (by decide) ?_
      refine lv_iload_n hx hb dX12_image_23 rfl (lv_at hl 1 rfl) ?_
      refine lv_iadd hx hb dX12_image_24 ?_
      refine lv_topi (fun xz16 exz16 => ?_)
      have fxz16 : xz16.toInt = (1 : Int) + p1.toInt := by rw [exz16]; exact fb_addI (x := (1 : Int32)) (y := p1) (by show -2147483648 ≤ (1 : Int) + p1.toInt; omega) (by show (1 : Int) + p1.toInt < 2147483648; omega)
      have hPc := hP.sub (ws' := (List.flatten [(wmLi qLi k aLi), (wmHa qHa k hHa), (wmBr qBr k aBr), (wmCa qCa k pCa), (wmWa qWa k jWa), (wmFr qFr k aFr), (wmAc qAc k iAc)] ++ List.flatten [(wMO qO k widthO manyO cellsO movedO tapeO (qLi 0) (qHa 0) (qBr 0) (qCa 0) (qWa 0) (qFr 0) (qAc 0) (qIk 0) loadNowO byNowO rowO memoryO whoseO deepNowO brokenByO brokenAtO goesByO comesToO sagMoreO creakOfO wipedByO deepAtO sagAtO loadAtO orderRowO oftenO lossOneO lossOtherO (va_up vO 0 (0 : Int32)) tO mO gO)])) [1, 2, 3, 4, 5, 6, 7, 0] rfl
      have hC : [1, 2, 3, 4, 5, 6, 7, 0].map (fun i => (List.flatten [(wMO qO k widthO manyO cellsO movedO tapeO (qLi 0) (qHa 0) (qBr 0) (qCa 0) (qWa 0) (qFr 0) (qAc 0) (qIk 0) loadNowO byNowO rowO memoryO whoseO deepNowO brokenByO brokenAtO goesByO comesToO sagMoreO creakOfO wipedByO deepAtO sagAtO loadAtO orderRowO oftenO lossOneO lossOtherO (va_up vO 0 (0 : Int32)) tO mO gO), (wmLi qLi k aLi), (wmHa qHa k hHa), (wmBr qBr k aBr), (wmCa qCa k pCa), (wmWa qWa k jWa), (wmFr qFr k aFr), (wmAc qAc k iAc), (wmIk qIk k aIk)] ++ List.flatten ([] : List va_W))[i]?) = (List.flatten [(wmLi qLi k aLi), (wmHa qHa k hHa), (wmBr qBr k aBr), (wmCa qCa k pCa), (wmWa qWa k jWa), (wmFr qFr k aFr), (wmAc qAc k iAc)] ++ List.flatten [(wMO qO k widthO manyO cellsO movedO tapeO (qLi 0) (qHa 0) (qBr 0) (qCa 0) (qWa 0) (qFr 0) (qAc 0) (qIk 0) loadNowO byNowO rowO memoryO whoseO deepNowO brokenByO brokenAtO goesByO comesToO sagMoreO creakOfO wipedByO deepAtO sagAtO loadAtO orderRowO oftenO lossOneO lossOtherO (va_up vO 0 (0 : Int32)) tO mO gO)]).map some := rfl
      have hDc := hD.sub [1, 2, 3, 4, 5, 6, 7, 0] (by decide) hC
      have hFc := va_free hD hS hA [1, 2, 3, 4, 5, 6, 7, 0] hC
      refine va_callv (va_runV (As := [.int 0, .int xz16]) (rest := []) ⟨hx, hb, hml, hown, hts⟩ (c_X12_copyValley l dC dI k H.size qO widthO manyO cellsO movedO tapeO (qIk 0) loadNowO byNowO rowO memoryO whoseO deepNowO brokenByO brokenAtO goesByO comesToO sagMoreO creakOfO wipedByO deepAtO sagAtO loadAtO orderRowO oftenO lossOneO lossOtherO (va_up vO 0 (0 : Int32)) tO mO gO qLi aLi qHa hHa qBr aBr qCa pCa qWa jWa qFr aFr qAc iAc (0 : Int32) xz16 htO hmO hhHa hpCa hjWa hiAc (by show 0 ≤ (0 : Int) ∧ (0 : Int) ≤ 4; omega) (by show 0 ≤ xz16.toInt ∧ xz16.toInt ≤ 4; omega)) (cwV 2 hts (gk_V (wl_mem 5 rfl) (wl_mem 6 rfl) (wl_mem 7 rfl) (wl_mem 4 rfl) (fun w h => List.mem_cons_of_mem _ (List.mem_append_right _ (List.mem_append_right _ (List.mem_append_right _ (List.mem_append_left _ h))))) wkg_c_X12_copyValley) rfl rfl rfl (by decide +kernel) ⟨Nat.le_of_ble_eq_true rfl, Nat.le_of_ble_eq_true rfl⟩) ⟨fun a U g mk q => by obtain ⟨q0, q1, qP, qK, qD⟩ := q; exact ⟨q0, q1, qP, va_K.moved (u := U) (U := U.calling g mk a) (Vm.Alike.refl U.vm) qK, qD⟩, va_recv hK hPc (ci := 12) (q0 := 7) rfl rfl, fun U hU hW => ⟨rfl, by rw [hU], by rw [hU]; exact hPc, va_K.moved hW.alike hK, hDc.weaken (fun _ _ _ _ => trivial)⟩⟩ rfl rfl hl.1 rfl (lv_room (Nat.le_of_ble_eq_true rfl)) dX12_image_25 ⟨Nat.le_of_ble_eq_true rfl, Nat.le_of_ble_eq_true rfl⟩) hS (fun q _ h => hFc q h) hFc (fun u t H1 locs ht hvm gz17 hB hz1 hk1 hS => ?_)
      obtain ⟨az19, hz20, az21, pz22, jz23, az24, iz25, hhz20, hpz22, hjz23, hiz25, hP1⟩ := hB
      rw [ht] at hP1
      obtain ⟨hP, hD⟩ := w_callR hP hD hk1 hP1 [1, 2, 3, 4, 5, 6, 7] rfl rfl (wk_memC [0] rfl) rfl [none, some 0, some 1, some 2, some 3, some 4, some 5, some 6, none] rfl rfl
      clear hPc hC hDc hFc hk1 hP1
      generalize H1 = H at hP hS ⊢
      have hP : va_P (dC, dI) vwCl (List.flatten [(wMO qO k widthO manyO cellsO movedO tapeO (qLi 0) (qHa 0) (qBr 0) (qCa 0) (qWa 0) (qFr 0) (qAc 0) (qIk 0) loadNowO byNowO rowO memoryO whoseO deepNowO brokenByO brokenAtO goesByO comesToO sagMoreO creakOfO wipedByO deepAtO sagAtO loadAtO orderRowO oftenO lossOneO lossOtherO (va_up vO 0 (0 : Int32)) tO mO gO), (wmLi qLi k az19), (wmHa qHa k hz20), (wmBr qBr k az21), (wmCa qCa k pz22), (wmWa qWa k jz23), (wmFr qFr k az24), (wmAc qAc k iz25), (wmIk qIk k aIk)] ++ List.flatten ([] : List va_W)) H := hP
      have hD : va_D A (List.flatten [(wMO qO k widthO manyO cellsO movedO tapeO (qLi 0) (qHa 0) (qBr 0) (qCa 0) (qWa 0) (qFr 0) (qAc 0) (qIk 0) loadNowO byNowO rowO memoryO whoseO deepNowO brokenByO brokenAtO goesByO comesToO sagMoreO creakOfO wipedByO deepAtO sagAtO loadAtO orderRowO oftenO lossOneO lossOtherO (va_up vO 0 (0 : Int32)) tO mO gO), (wmLi qLi k az19), (wmHa qHa k hz20), (wmBr qBr k az21), (wmCa qCa k pz22), (wmWa qWa k jz23), (wmFr qFr k az24), (wmAc qAc k iz25), (wmIk qIk k aIk)] ++ List.flatten ([] : List va_W)) := hD
      refine W.widen (k := 0) (n := 0) (Nat.le_refl 0) (Nat.le_refl 0) ?_
      refine lv_aload_n hx hb dX12_image_28 rfl (lv_at hl 0 rfl) ?_
      refine va_get (D := (dC, dI)) (ci := 12) (v := .ref (qIk 0)) (C := RX12) (T := TX12) (N := 59) hx hb hts (fun w h => List.mem_cons_of_mem _ (List.mem_append_right _ (List.mem_append_left _ h))) hown hK hP 0 rfl rfl 23 (by decide) (hts (.fieldLink RX12 52 "SagMemoryModel" "isKept" "[Z") (wl_mem 8 rfl)) (fun _ h9 => h9) rfl dX12_image_29 ?_
      refine lv_iload_n hx hb dX12_image_32 rfl (lv_at hl 1 rfl) ?_
      refine lv_iconst (v := 1) hx hb dX12_image_33 (by decide) ?_
      refine va_zast hx hb hK hP hD hS 8 3 rfl rfl (vp_in_iff.mpr ⟨by omega, by omega⟩) dX12_image_34 (fun H locs hP hD hS => ?_)
      obtain ⟨fz26, efz26, hP, hD⟩ : ∃ fz26 : Nat → Int32, fz26 = upd (aIk 0) p1.toNatClampNeg (vp_nar .boolean (1 : Int32)) ∧ va_P (dC, dI) vwCl (List.flatten [(wMO qO k widthO manyO cellsO movedO tapeO (qLi 0) (qHa 0) (qBr 0) (qCa 0) (qWa 0) (qFr 0) (qAc 0) (qIk 0) loadNowO byNowO rowO memoryO whoseO deepNowO brokenByO brokenAtO goesByO comesToO sagMoreO creakOfO wipedByO deepAtO sagAtO loadAtO orderRowO oftenO lossOneO lossOtherO (va_up vO 0 (0 : Int32)) tO mO gO), (wmLi qLi k az19), (wmHa qHa k hz20), (wmBr qBr k az21), (wmCa qCa k pz22), (wmWa qWa k jz23), (wmFr qFr k az24), (wmAc qAc k iz25), (wmIk qIk k (va_up aIk 0 fz26))] ++ List.flatten ([] : List va_W)) H ∧ va_D A (List.flatten [(wMO qO k widthO manyO cellsO movedO tapeO (qLi 0) (qHa 0) (qBr 0) (qCa 0) (qWa 0) (qFr 0) (qAc 0) (qIk 0) loadNowO byNowO rowO memoryO whoseO deepNowO brokenByO brokenAtO goesByO comesToO sagMoreO creakOfO wipedByO deepAtO sagAtO loadAtO orderRowO oftenO lossOneO lossOtherO (va_up vO 0 (0 : Int32)) tO mO gO), (wmLi qLi k az19), (wmHa qHa k hz20), (wmBr qBr k az21), (wmCa qCa k pz22), (wmWa qWa k jz23), (wmFr qFr k az24), (wmAc qAc k iz25), (wmIk qIk k (va_up aIk 0 fz26))] ++ List.flatten ([] : List va_W)) := ⟨_, rfl, hP, hD⟩
      refine lv_iconst (v := 0) hx hb dX12_image_35 (by decide) ?_
      rw [hQ]
      exact W.iret (v := (0 : Int32)) hx hb hr (fun t ht hW => ⟨⟨(0 : Int32), (), rfl, trivial, (va_up vO 0 (0 : Int32)), tO, mO, gO, az19, hz20, az21, pz22, jz23, az24, iz25, (va_up aIk 0 fz26), htO, hmO, hhz20, hpz22, hjz23, hiz25, by rw [ht]; exact hP⟩, hS.F ht⟩) hS.2.2 dX12_image_36
    · skip
      exact absurd cz15 (by decide)
def wk_c_X12_back : List Cond := .code yX12_back cX12_back 2 (some .int) :: ([.fieldLink RX12 116 "SagMemoryModel" "thrown" "I", .constantLong RX12 345 (2), .methodLink RX12 121 yX12_in, .static yX12_in, .initialized RX12, .fieldLink RX12 52 "SagMemoryModel" "isKept" "[Z", .methodLink RX12 276 yX12_copyValley, .instanceMethod yX12_copyValley, .selects RX12 yX12_copyValley yX12_copyValley] ++ (wsX120 ++ (wk_c_X12_in ++ (wk_c_X12_copyValley ++ []))))
theorem wkg_c_X12_back : wk_c_X12_back.all goodWord = true := by decide +kernel
set_option maxHeartbeats 4000000 in
set_option maxRecDepth 100000 in
theorem c_X12_back (l : Launch) (dC : Nat → ClassId) (dI : Nat → Nat → Nat) (k : Nat → ClassId) (sz : Nat) (qO : Nat → Nat) (widthO : Nat) (manyO : Nat) (cellsO : Nat) (movedO : Nat) (tapeO : Nat) (loadNowO : Nat) (byNowO : Nat) (rowO : Nat) (memoryO : Nat) (whoseO : Nat) (deepNowO : Nat) (brokenByO : Nat) (brokenAtO : Nat) (goesByO : Nat) (comesToO : Nat) (sagMoreO : Nat) (creakOfO : Nat) (wipedByO : Nat) (deepAtO : Nat) (sagAtO : Nat) (loadAtO : Nat) (orderRowO : Nat) (oftenO : Nat) (lossOneO : Nat) (lossOtherO : Nat) (vO : Nat → Int32) (tO : Nat → Int32) (mO : Nat → Int32) (gO : Nat → Int64) (qLi : Nat → Nat) (aLi : Nat → Nat → Int32) (qHa : Nat → Nat) (hHa : Nat → Nat → Int32) (qBr : Nat → Nat) (aBr : Nat → Nat → Int32) (qCa : Nat → Nat) (pCa : Nat → Nat → Int32) (qWa : Nat → Nat) (jWa : Nat → Nat → Int32) (qFr : Nat → Nat) (aFr : Nat → Nat → Int32) (qAc : Nat → Nat) (iAc : Nat → Nat → Int32) (qIk : Nat → Nat) (aIk : Nat → Nat → Int32) (p1 : Int32) (htO : Rg 0 700 tO) (hmO : Rg (-1) 127 mO) (hhHa : Pa_h hHa) (hpCa : Pa_p pCa) (hjWa : Pa_j jWa) (hiAc : Pa_i iAc) : Met l yX12_back wk_c_X12_back ({ frames := 2, cells := 0, slots := 0, locals := 46 }) (va_Pc [.ref (qO 0), .int p1] (fun U => U.heap.size = sz ∧ va_P (dC, dI) vwCl (List.flatten [(wMO qO k widthO manyO cellsO movedO tapeO (qLi 0) (qHa 0) (qBr 0) (qCa 0) (qWa 0) (qFr 0) (qAc 0) (qIk 0) loadNowO byNowO rowO memoryO whoseO deepNowO brokenByO brokenAtO goesByO comesToO sagMoreO creakOfO wipedByO deepAtO sagAtO loadAtO orderRowO oftenO lossOneO lossOtherO vO tO mO gO), (wmLi qLi k aLi), (wmHa qHa k hHa), (wmBr qBr k aBr), (wmCa qCa k pCa), (wmWa qWa k jWa), (wmFr qFr k aFr), (wmAc qAc k iAc)] ++ List.flatten [(wmIk qIk k aIk)]) U.heap ∧ va_K (dC, dI) vwCl (tK k) U ∧ va_D (fun _ => True) (List.flatten [(wMO qO k widthO manyO cellsO movedO tapeO (qLi 0) (qHa 0) (qBr 0) (qCa 0) (qWa 0) (qFr 0) (qAc 0) (qIk 0) loadNowO byNowO rowO memoryO whoseO deepNowO brokenByO brokenAtO goesByO comesToO sagMoreO creakOfO wipedByO deepAtO sagAtO loadAtO orderRowO oftenO lossOneO lossOtherO vO tO mO gO), (wmLi qLi k aLi), (wmHa qHa k hHa), (wmBr qBr k aBr), (wmCa qCa k pCa), (wmWa qWa k jWa), (wmFr qFr k aFr), (wmAc qAc k iAc)] ++ List.flatten [(wmIk qIk k aIk)]))) (va_Qi (fun (r : Int32) (_ : Unit) => True) (fun (_ : Unit) (t : State) => ∃ (vO' : Nat → Int32) (tO' : Nat → Int32) (mO' : Nat → Int32) (gO' : Nat → Int64) (aLi' : Nat → Nat → Int32) (hHa' : Nat → Nat → Int32) (aBr' : Nat → Nat → Int32) (pCa' : Nat → Nat → Int32) (jWa' : Nat → Nat → Int32) (aFr' : Nat → Nat → Int32) (iAc' : Nat → Nat → Int32), Rg 0 700 tO' ∧ Rg (-1) 127 mO' ∧ Pa_h hHa' ∧ Pa_p pCa' ∧ Pa_j jWa' ∧ Pa_i iAc' ∧ va_P (dC, dI) vwCl (List.flatten [(wMO qO k widthO manyO cellsO movedO tapeO (qLi 0) (qHa 0) (qBr 0) (qCa 0) (qWa 0) (qFr 0) (qAc 0) (qIk 0) loadNowO byNowO rowO memoryO whoseO deepNowO brokenByO brokenAtO goesByO comesToO sagMoreO creakOfO wipedByO deepAtO sagAtO loadAtO orderRowO oftenO lossOneO lossOtherO vO' tO' mO' gO'), (wmLi qLi k aLi'), (wmHa qHa k hHa'), (wmBr qBr k aBr'), (wmCa qCa k pCa'), (wmWa qWa k jWa'), (wmFr qFr k aFr'), (wmAc qAc k iAc')] ++ List.flatten [(wmIk qIk k aIk)]) t.heap) (va_A (List.flatten [(wMO qO k widthO manyO cellsO movedO tapeO (qLi 0) (qHa 0) (qBr 0) (qCa 0) (qWa 0) (qFr 0) (qAc 0) (qIk 0) loadNowO byNowO rowO memoryO whoseO deepNowO brokenByO brokenAtO goesByO comesToO sagMoreO creakOfO wipedByO deepAtO sagAtO loadAtO orderRowO oftenO lossOneO lossOtherO vO tO mO gO), (wmLi qLi k aLi), (wmHa qHa k hHa), (wmBr qBr k aBr), (wmCa qCa k pCa), (wmWa qWa k jWa), (wmFr qFr k aFr), (wmAc qAc k iAc)] ++ List.flatten [(wmIk qIk k aIk)]) sz)) 0 0 (va_A (List.flatten [(wMO qO k widthO manyO cellsO movedO tapeO (qLi 0) (qHa 0) (qBr 0) (qCa 0) (qWa 0) (qFr 0) (qAc 0) (qIk 0) loadNowO byNowO rowO memoryO whoseO deepNowO brokenByO brokenAtO goesByO comesToO sagMoreO creakOfO wipedByO deepAtO sagAtO loadAtO orderRowO oftenO lossOneO lossOtherO vO tO mO gO), (wmLi qLi k aLi), (wmHa qHa k hHa), (wmBr qBr k aBr), (wmCa qCa k pCa), (wmWa qWa k jWa), (wmFr qFr k aFr), (wmAc qAc k iAc)] ++ List.flatten [(wmIk qIk k aIk)]) sz) := by
  refine Met.ofW (cc := cX12_back) (maxL := 2) (ret := (some .int)) (by decide) rfl ?_
  intro p e s m args below meth c s₁ B hml hv
  obtain ⟨rfl, hsz, hP, hK, hD0⟩ := hv
  have hx := B.exec
  have hb := B.bytes
  have hr := B.returns
  have hts := atoms_spec (ws := wk_c_X12_back) B.pre
  have hown : s.vm.findClass RX12 = some m.cls := findClass_of_methodNamed B.named
  have hlocks := B.notSynchronized
  subst hsz
  have hD := hD0.self (sz := s.heap.size)
  generalize hAe : va_A (List.flatten [(wMO qO k widthO manyO cellsO movedO tapeO (qLi 0) (qHa 0) (qBr 0) (qCa 0) (qWa 0) (qFr 0) (qAc 0) (qIk 0) loadNowO byNowO rowO memoryO whoseO deepNowO brokenByO brokenAtO goesByO comesToO sagMoreO creakOfO wipedByO deepAtO sagAtO loadAtO orderRowO oftenO lossOneO lossOtherO vO tO mO gO), (wmLi qLi k aLi), (wmHa qHa k hHa), (wmBr qBr k aBr), (wmCa qCa k pCa), (wmWa qWa k jWa), (wmFr qFr k aFr), (wmAc qAc k iAc)] ++ List.flatten [(wmIk qIk k aIk)]) s.heap.size = A at hD ⊢
  have hA : ∀ q : Nat, s.heap.size ≤ q → A q := fun q h => by rw [← hAe]; exact Or.inr h
  have hS : va_S A s.heap s.heap [] := va_S.rf
  have hP : va_P (dC, dI) vwCl (List.flatten [(wMO qO k widthO manyO cellsO movedO tapeO (qLi 0) (qHa 0) (qBr 0) (qCa 0) (qWa 0) (qFr 0) (qAc 0) (qIk 0) loadNowO byNowO rowO memoryO whoseO deepNowO brokenByO brokenAtO goesByO comesToO sagMoreO creakOfO wipedByO deepAtO sagAtO loadAtO orderRowO oftenO lossOneO lossOtherO vO tO mO gO), (wmLi qLi k aLi), (wmHa qHa k hHa), (wmBr qBr k aBr), (wmCa qCa k pCa), (wmWa qWa k jWa), (wmFr qFr k aFr), (wmAc qAc k iAc)] ++ List.flatten [(wmIk qIk k aIk)]) s.heap := hP
  have hl := lv_entry ([.ref (qO 0), .int p1]) (n := 2) (Nat.le_of_ble_eq_true rfl)
  rw [lg_entry_eq]
  generalize (lg_sl ([.ref (qO 0), .int p1]) ++ List.replicate (2 - (lg_sl ([.ref (qO 0), .int p1])).length) Slot.unset).toArray = ls at hl ⊢
  have hl : lv_has ls 2 [(0, .ref (qO 0)), (1, .int p1)] := hl
  refine w_gen (fun Q hQ => ?_)
  refine lv_aload_n hx hb dX12_back_0 rfl (lv_at hl 0 rfl) ?_
  refine lv_iconst (v := 0) hx hb dX12_back_1 (by decide) ?_
  refine va_put (D := (dC, dI)) (ci := 12) (v := .int 0) (ty := .int) (C := RX12) (T := TX12) (N := 59) hx hb hts (fun w h => List.mem_cons_of_mem _ (List.mem_append_right _ (List.mem_append_left _ h))) tyX12 tyX12_ok nmX12 hown hK hP hD hS 0 rfl rfl 0 (by decide) (hts (.fieldLink RX12 116 "SagMemoryModel" "thrown" "I") (wl_mem 0 rfl)) (fun _ h9 => h9) rfl (by decide +kernel) rfl rfl (Nat.le_of_ble_eq_true rfl) dX12_back_2 (fun H locs hP hD hS => ?_)
  have hP : va_P (dC, dI) vwCl (List.flatten [(wMO qO k widthO manyO cellsO movedO tapeO (qLi 0) (qHa 0) (qBr 0) (qCa 0) (qWa 0) (qFr 0) (qAc 0) (qIk 0) loadNowO byNowO rowO memoryO whoseO deepNowO brokenByO brokenAtO goesByO comesToO sagMoreO creakOfO wipedByO deepAtO sagAtO loadAtO orderRowO oftenO lossOneO lossOtherO (va_up vO 0 (0 : Int32)) tO mO gO), (wmLi qLi k aLi), (wmHa qHa k hHa), (wmBr qBr k aBr), (wmCa qCa k pCa), (wmWa qWa k jWa), (wmFr qFr k aFr), (wmAc qAc k iAc)] ++ List.flatten [(wmIk qIk k aIk)]) H := hP
  have hD : va_D A (List.flatten [(wMO qO k widthO manyO cellsO movedO tapeO (qLi 0) (qHa 0) (qBr 0) (qCa 0) (qWa 0) (qFr 0) (qAc 0) (qIk 0) loadNowO byNowO rowO memoryO whoseO deepNowO brokenByO brokenAtO goesByO comesToO sagMoreO creakOfO wipedByO deepAtO sagAtO loadAtO orderRowO oftenO lossOneO lossOtherO (va_up vO 0 (0 : Int32)) tO mO gO), (wmLi qLi k aLi), (wmHa qHa k hHa), (wmBr qBr k aBr), (wmCa qCa k pCa), (wmWa qWa k jWa), (wmFr qFr k aFr), (wmAc qAc k iAc)] ++ List.flatten [(wmIk qIk k aIk)]) := hD
  refine lv_iload_n hx hb dX12_back_5 rfl (lv_at hl 1 rfl) ?_
  refine lv_i2l hx hb dX12_back_6 rfl ?_
  refine lv_lconst (v := 0) hx hb dX12_back_7 (by decide) ?_
  refine lv_ldc2 (v := 2) hx hb hown (hts (.constantLong RX12 345 (2)) (wl_mem 1 rfl)) dX12_back_8 ?_
  have hPc : va_P (dC, dI) vwCl (List.flatten ([] : List va_W)) H := fun k q h => by simp at h
  refine vp_callSi (va_Run.run (va_runS (As := [.long p1.toInt64, .long 0, .long 2]) (rest := []) ⟨hx, hb, hml, hown, hts⟩ (c_X12_in l dC dI k p1.toInt64 (0 : Int64) (2 : Int64)) (va_cwS 3 hts (gk_S (wl_mem 2 rfl) (wl_mem 3 rfl) (wl_mem 4 rfl) (fun w h => List.mem_cons_of_mem _ (List.mem_append_right _ (List.mem_append_right _ (List.mem_append_left _ h)))) wkg_c_X12_in) rfl rfl rfl (by decide +kernel) ⟨Nat.le_of_ble_eq_true rfl, Nat.le_of_ble_eq_true rfl⟩) ⟨fun a U g mk q => by obtain ⟨q0, qP, qK⟩ := q; exact ⟨q0, qP, va_K.moved (u := U) (U := U.calling g mk a) (Vm.Alike.refl U.vm) qK⟩, fun U hU hW => ⟨rfl, by rw [hU]; exact hPc, va_K.moved hW.alike hK⟩⟩ rfl rfl hl.1 rfl (lv_room (Nat.le_of_ble_eq_true rfl)) dX12_back_11 ⟨Nat.le_of_ble_eq_true rfl, Nat.le_of_ble_eq_true rfl⟩)) (fun rz2 gz1 => ?_)
  clear hPc
  rcases gz1 with ⟨er, cz3⟩ | ⟨er, cz4, cz5⟩ | ⟨er, cz6, cz7⟩
  · obtain rfl := er.symm
    have zz8 : p1.toInt < (0 : Int) := by have h9 := zi_ltL.mp cz3; simp only [Int32.toInt_toInt64] at h9; exact h9
    refine lv_if_ne (tgt := 20) hx hb dX12_back_14 (by decide) (fun cz9 => ?_) (fun cz9 => ?_)
    · skip
      exact absurd cz9 (by decide)
    · skip
      refine lv_bipush (v := (-2)) hx hb dX12_back_17 (by decide) ?_
      rw [hQ]
      exact W.iret (v := (-2 : Int32)) hx hb hr (fun t ht hW => ⟨⟨(-2 : Int32), (), rfl, trivial, (va_up vO 0 (0 : Int32)), tO, mO, gO, aLi, hHa, aBr, pCa, jWa, aFr, iAc, htO, hmO, hhHa, hpCa, hjWa, hiAc, by rw [ht]; exact hP⟩, hS.F ht⟩) hS.2.2 dX12_back_19
  · obtain rfl := er.symm
    have zz10 : ¬ p1.toInt < (0 : Int) := by intro h9; apply cz4; rw [zi_ltL]; simp only [Int32.toInt_toInt64]; exact h9
    have zz11 : (2 : Int) < p1.toInt := by have h9 := zi_ltL.mp cz5; simp only [Int32.toInt_toInt64] at h9; exact h9
    refine lv_if_ne (tgt := 20) hx hb dX12_back_14 (by decide) (fun cz12 => ?_) (fun cz12 => ?_)
    · skip
      exact absurd cz12 (by decide)
    · skip
      refine lv_bipush (v := (-2)) hx hb dX12_back_17 (by decide) ?_
      rw [hQ]
      exact W.iret (v := (-2 : Int32)) hx hb hr (fun t ht hW => ⟨⟨(-2 : Int32), (), rfl, trivial, (va_up vO 0 (0 : Int32)), tO, mO, gO, aLi, hHa, aBr, pCa, jWa, aFr, iAc, htO, hmO, hhHa, hpCa, hjWa, hiAc, by rw [ht]; exact hP⟩, hS.F ht⟩) hS.2.2 dX12_back_19
  · obtain rfl := er.symm
    have zz13 : ¬ p1.toInt < (0 : Int) := by intro h9; apply cz6; rw [zi_ltL]; simp only [Int32.toInt_toInt64]; exact h9
    have zz14 : ¬ (2 : Int) < p1.toInt := by intro h9; apply cz7; rw [zi_ltL]; simp only [Int32.toInt_toInt64]; exact h9
    refine lv_if_ne (tgt := 20) hx hb dX12_back_14 (by decide) (fun cz15 => ?_) (fun cz15 => ?_)
    · skip
      refine lv_aload_n hx hb dX12_back_20 rfl (lv_at hl 0 rfl) ?_
      refine va_get (D := (dC, dI)) (ci := 12) (v := .ref (qIk 0)) (C := RX12) (T := TX12) (N := 59) hx hb hts (fun w h => List.mem_cons_of_mem _ (List.mem_append_right _ (List.mem_append_left _ h))) hown hK hP 0 rfl rfl 23 (by decide) (hts (.fieldLink RX12 52 "SagMemoryModel" "isKept" "[Z") (wl_mem 5 rfl)) (fun _ h9 => h9) rfl dX12_back_21 ?_
      refine lv_iload_n hx hb dX12_back_24 rfl (lv_at hl 1 rfl) ?_
      refine va_zald hx hb hK hP 8 3 rfl rfl (vp_in_iff.mpr ⟨by omega, by omega⟩) dX12_back_25 ?_
      refine lv_topi (fun xz16 exz16 => ?_)
      refine lv_if_ne (tgt := 32) hx hb dX12_back_26 (by decide) (fun cz17 => ?_) (fun cz17 => ?_)
      · skip
        have zz18 : ¬ xz16.toInt = (0 : Int) := fun h9 => cz17 (zi_eq.mpr h9)
        refine lv_aload_n hx hb dX12_back_32 rfl (lv_at hl 0 rfl) ?_
        refine lv_iconst (v := 1) hx hb dX12_back_33 (by decide) ?_
        refine lv_iload_n hx hb dX12_back_34 rfl (lv_at hl 1 rfl) ?_
        refine lv_iadd hx hb dX12_back_35 ?_
        refine lv_topi (fun xz19 exz19 => ?_)
        have fxz19 : xz19.toInt = (1 : Int) + p1.toInt := by rw [exz19]; exact fb_addI (x := (1 : Int32)) (y := p1) (by show -2147483648 ≤ (1 : Int) + p1.toInt; omega) (by show (1 : Int) + p1.toInt < 2147483648; omega)
        refine lv_iconst (v := 0) hx hb dX12_back_36 (by decide) ?_
        have hPc := hP.sub (ws' := (List.flatten [(wmLi qLi k aLi), (wmHa qHa k hHa), (wmBr qBr k aBr), (wmCa qCa k pCa), (wmWa qWa k jWa), (wmFr qFr k aFr), (wmAc qAc k iAc)] ++ List.flatten [(wMO qO k widthO manyO cellsO movedO tapeO (qLi 0) (qHa 0) (qBr 0) (qCa 0) (qWa 0) (qFr 0) (qAc 0) (qIk 0) loadNowO byNowO rowO memoryO whoseO deepNowO brokenByO brokenAtO goesByO comesToO sagMoreO creakOfO wipedByO deepAtO sagAtO loadAtO orderRowO oftenO lossOneO lossOtherO (va_up vO 0 (0 : Int32)) tO mO gO)])) [1, 2, 3, 4, 5, 6, 7, 0] rfl
        have hC : [1, 2, 3, 4, 5, 6, 7, 0].map (fun i => (List.flatten [(wMO qO k widthO manyO cellsO movedO tapeO (qLi 0) (qHa 0) (qBr 0) (qCa 0) (qWa 0) (qFr 0) (qAc 0) (qIk 0) loadNowO byNowO rowO memoryO whoseO deepNowO brokenByO brokenAtO goesByO comesToO sagMoreO creakOfO wipedByO deepAtO sagAtO loadAtO orderRowO oftenO lossOneO lossOtherO (va_up vO 0 (0 : Int32)) tO mO gO), (wmLi qLi k aLi), (wmHa qHa k hHa), (wmBr qBr k aBr), (wmCa qCa k pCa), (wmWa qWa k jWa), (wmFr qFr k aFr), (wmAc qAc k iAc)] ++ List.flatten [(wmIk qIk k aIk)])[i]?) = (List.flatten [(wmLi qLi k aLi), (wmHa qHa k hHa), (wmBr qBr k aBr), (wmCa qCa k pCa), (wmWa qWa k jWa), (wmFr qFr k aFr), (wmAc qAc k iAc)] ++ List.flatten [(wMO qO k widthO manyO cellsO movedO tapeO (qLi 0) (qHa 0) (qBr 0) (qCa 0) (qWa 0) (qFr 0) (qAc 0) (qIk 0) loadNowO byNowO rowO memoryO whoseO deepNowO brokenByO brokenAtO goesByO comesToO sagMoreO creakOfO wipedByO deepAtO sagAtO loadAtO orderRowO oftenO lossOneO lossOtherO (va_up vO 0 (0 : Int32)) tO mO gO)]).map some := rfl
        have hDc := hD.sub [1, 2, 3, 4, 5, 6, 7, 0] (by decide) hC
        have hFc := va_free hD hS hA [1, 2, 3, 4, 5, 6, 7, 0] hC
        refine va_callv (va_runV (As := [.int xz19, .int 0]) (rest := []) ⟨hx, hb, hml, hown, hts⟩ (c_X12_copyValley l dC dI k H.size qO widthO manyO cellsO movedO tapeO (qIk 0) loadNowO byNowO rowO memoryO whoseO deepNowO brokenByO brokenAtO goesByO comesToO sagMoreO creakOfO wipedByO deepAtO sagAtO loadAtO orderRowO oftenO lossOneO lossOtherO (va_up vO 0 (0 : Int32)) tO mO gO qLi aLi qHa hHa qBr aBr qCa pCa qWa jWa qFr aFr qAc iAc xz19 (0 : Int32) htO hmO hhHa hpCa hjWa hiAc (by show 0 ≤ xz19.toInt ∧ xz19.toInt ≤ 4; omega) (by show 0 ≤ (0 : Int) ∧ (0 : Int) ≤ 4; omega)) (cwV 2 hts (gk_V (wl_mem 6 rfl) (wl_mem 7 rfl) (wl_mem 8 rfl) (wl_mem 4 rfl) (fun w h => List.mem_cons_of_mem _ (List.mem_append_right _ (List.mem_append_right _ (List.mem_append_right _ (List.mem_append_left _ h))))) wkg_c_X12_copyValley) rfl rfl rfl (by decide +kernel) ⟨Nat.le_of_ble_eq_true rfl, Nat.le_of_ble_eq_true rfl⟩) ⟨fun a U g mk q => by obtain ⟨q0, q1, qP, qK, qD⟩ := q; exact ⟨q0, q1, qP, va_K.moved (u := U) (U := U.calling g mk a) (Vm.Alike.refl U.vm) qK, qD⟩, va_recv hK hPc (ci := 12) (q0 := 7) rfl rfl, fun U hU hW => ⟨rfl, by rw [hU], by rw [hU]; exact hPc, va_K.moved hW.alike hK, hDc.weaken (fun _ _ _ _ => trivial)⟩⟩ rfl rfl hl.1 rfl (lv_room (Nat.le_of_ble_eq_true rfl)) dX12_back_37 ⟨Nat.le_of_ble_eq_true rfl, Nat.le_of_ble_eq_true rfl⟩) hS (fun q _ h => hFc q h) hFc (fun u t H1 locs ht hvm gz20 hB hz1 hk1 hS => ?_)
        obtain ⟨az22, hz23, az24, pz25, jz26, az27, iz28, hhz23, hpz25, hjz26, hiz28, hP1⟩ := hB
        rw [ht] at hP1
        obtain ⟨hP, hD⟩ := w_callR hP hD hk1 hP1 [1, 2, 3, 4, 5, 6, 7] rfl rfl (wk_memC [0] rfl) rfl [none, some 0, some 1, some 2, some 3, some 4, some 5, some 6] rfl rfl
        clear hPc hC hDc hFc hk1 hP1
        generalize H1 = H at hP hS ⊢
        have hP : va_P (dC, dI) vwCl (List.flatten [(wMO qO k widthO manyO cellsO movedO tapeO (qLi 0) (qHa 0) (qBr 0) (qCa 0) (qWa 0) (qFr 0) (qAc 0) (qIk 0) loadNowO byNowO rowO memoryO whoseO deepNowO brokenByO brokenAtO goesByO comesToO sagMoreO creakOfO wipedByO deepAtO sagAtO loadAtO orderRowO oftenO lossOneO lossOtherO (va_up vO 0 (0 : Int32)) tO mO gO), (wmLi qLi k az22), (wmHa qHa k hz23), (wmBr qBr k az24), (wmCa qCa k pz25), (wmWa qWa k jz26), (wmFr qFr k az27), (wmAc qAc k iz28)] ++ List.flatten [(wmIk qIk k aIk)]) H := hP
        have hD : va_D A (List.flatten [(wMO qO k widthO manyO cellsO movedO tapeO (qLi 0) (qHa 0) (qBr 0) (qCa 0) (qWa 0) (qFr 0) (qAc 0) (qIk 0) loadNowO byNowO rowO memoryO whoseO deepNowO brokenByO brokenAtO goesByO comesToO sagMoreO creakOfO wipedByO deepAtO sagAtO loadAtO orderRowO oftenO lossOneO lossOtherO (va_up vO 0 (0 : Int32)) tO mO gO), (wmLi qLi k az22), (wmHa qHa k hz23), (wmBr qBr k az24), (wmCa qCa k pz25), (wmWa qWa k jz26), (wmFr qFr k az27), (wmAc qAc k iz28)] ++ List.flatten [(wmIk qIk k aIk)]) := hD
        refine W.widen (k := 0) (n := 0) (Nat.le_refl 0) (Nat.le_refl 0) ?_
        refine lv_iconst (v := 0) hx hb dX12_back_40 (by decide) ?_
        rw [hQ]
        exact W.iret (v := (0 : Int32)) hx hb hr (fun t ht hW => ⟨⟨(0 : Int32), (), rfl, trivial, (va_up vO 0 (0 : Int32)), tO, mO, gO, az22, hz23, az24, pz25, jz26, az27, iz28, htO, hmO, hhz23, hpz25, hjz26, hiz28, by rw [ht]; exact hP⟩, hS.F ht⟩) hS.2.2 dX12_back_41
      · skip
        have zz29 : xz16.toInt = (0 : Int) := zi_eq.mp cz17
        refine lv_bipush (v := (-6)) hx hb dX12_back_29 (by decide) ?_
        rw [hQ]
        exact W.iret (v := (-6 : Int32)) hx hb hr (fun t ht hW => ⟨⟨(-6 : Int32), (), rfl, trivial, (va_up vO 0 (0 : Int32)), tO, mO, gO, aLi, hHa, aBr, pCa, jWa, aFr, iAc, htO, hmO, hhHa, hpCa, hjWa, hiAc, by rw [ht]; exact hP⟩, hS.F ht⟩) hS.2.2 dX12_back_31
    · skip
      exact absurd cz15 (by decide)
