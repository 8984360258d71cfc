def wk_c_tells_0 : List Cond := .code yX12_tells cX12_tells 3 none :: ([.fieldLink RX12 34 "SagMemoryModel" "has" "[I"] ++ (wsX120 ++ []))
theorem wkg_c_tells_0 : wk_c_tells_0.all goodWord = true := by decide +kernel
set_option maxHeartbeats 4000000 in
set_option maxRecDepth 100000 in
theorem c_tells_0 (l : Launch) (dC : Nat → ClassId) (dI : Nat → Nat → Nat) (k : Nat → ClassId) (sz : Nat) (qO : Nat → Nat) (widthO : Nat) (manyO : Nat) (cellsO : Nat) (movedO : Nat) (tapeO : Nat) (linesO : Nat) (bridgeO : Nat) (cartO : Nat) (wardO : Nat) (frostAtO : Nat) (actO : Nat) (isKeptO : Nat) (loadNowO : Nat) (byNowO : Nat) (rowO : Nat) (memoryO : Nat) (whoseO : Nat) (deepNowO : Nat) (brokenByO : Nat) (brokenAtO : Nat) (goesByO : Nat) (comesToO : Nat) (sagMoreO : Nat) (creakOfO : Nat) (wipedByO : Nat) (deepAtO : Nat) (sagAtO : Nat) (loadAtO : Nat) (orderRowO : Nat) (oftenO : Nat) (lossOneO : Nat) (lossOtherO : Nat) (vO : Nat → Int32) (tO : Nat → Int32) (mO : Nat → Int32) (gO : Nat → Int64) (qHa : Nat → Nat) (hHa : Nat → Nat → Int32) (p2 : Int32) (htO : Rg 0 700 tO) (hmO : Rg (-1) 127 mO) (hhHa : Pa_h hHa) : Met l yX12_tells wk_c_tells_0 ({ frames := 0, cells := 0, slots := 0, locals := 0 }) (va_Pc [.ref (qO 0), .int 0, .int p2] (fun U => U.heap.size = sz ∧ va_P (dC, dI) vwCl (List.flatten [(wmHa qHa k hHa)] ++ List.flatten [(wMO qO k widthO manyO cellsO movedO tapeO linesO (qHa 0) bridgeO cartO wardO frostAtO actO isKeptO loadNowO byNowO rowO memoryO whoseO deepNowO brokenByO brokenAtO goesByO comesToO sagMoreO creakOfO wipedByO deepAtO sagAtO loadAtO orderRowO oftenO lossOneO lossOtherO vO tO mO gO)]) U.heap ∧ va_K (dC, dI) vwCl (tK k) U ∧ va_D (fun _ => True) (List.flatten [(wmHa qHa k hHa)] ++ List.flatten [(wMO qO k widthO manyO cellsO movedO tapeO linesO (qHa 0) bridgeO cartO wardO frostAtO actO isKeptO loadNowO byNowO rowO memoryO whoseO deepNowO brokenByO brokenAtO goesByO comesToO sagMoreO creakOfO wipedByO deepAtO sagAtO loadAtO orderRowO oftenO lossOneO lossOtherO vO tO mO gO)]))) (va_Qv (fun _ : Unit => True) (fun (_ : Unit) (t : State) => ∃ (hHa' : Nat → Nat → Int32), Pa_h hHa' ∧ va_P (dC, dI) vwCl (List.flatten [(wmHa qHa k hHa')] ++ List.flatten [(wMO qO k widthO manyO cellsO movedO tapeO linesO (qHa 0) bridgeO cartO wardO frostAtO actO isKeptO loadNowO byNowO rowO memoryO whoseO deepNowO brokenByO brokenAtO goesByO comesToO sagMoreO creakOfO wipedByO deepAtO sagAtO loadAtO orderRowO oftenO lossOneO lossOtherO vO tO mO gO)]) t.heap) (va_A (List.flatten [(wmHa qHa k hHa)] ++ List.flatten [(wMO qO k widthO manyO cellsO movedO tapeO linesO (qHa 0) bridgeO cartO wardO frostAtO actO isKeptO loadNowO byNowO rowO memoryO whoseO deepNowO brokenByO brokenAtO goesByO comesToO sagMoreO creakOfO wipedByO deepAtO sagAtO loadAtO orderRowO oftenO lossOneO lossOtherO vO tO mO gO)]) sz)) 0 0 (va_A (List.flatten [(wmHa qHa k hHa)] ++ List.flatten [(wMO qO k widthO manyO cellsO movedO tapeO linesO (qHa 0) bridgeO cartO wardO frostAtO actO isKeptO loadNowO byNowO rowO memoryO whoseO deepNowO brokenByO brokenAtO goesByO comesToO sagMoreO creakOfO wipedByO deepAtO sagAtO loadAtO orderRowO oftenO lossOneO lossOtherO vO tO mO gO)]) sz) := by
  refine Met.ofW (cc := cX12_tells) (maxL := 3) (ret := none) (by decide) rfl ?_
  intro p e s m args below meth c s₁ B hml hv
  obtain ⟨rfl, hsz, hP, hK, hD0⟩ := hv
  have hx := B.exec
  have hb := B.bytes
  have hr := B.returns
  have hts := atoms_spec (ws := wk_c_tells_0) B.pre
  have hown : s.vm.findClass RX12 = some m.cls := findClass_of_methodNamed B.named
  have hlocks := B.notSynchronized
  subst hsz
  have hD := hD0.self (sz := s.heap.size)
  generalize hAe : va_A (List.flatten [(wmHa qHa k hHa)] ++ List.flatten [(wMO qO k widthO manyO cellsO movedO tapeO linesO (qHa 0) bridgeO cartO wardO frostAtO actO isKeptO loadNowO byNowO rowO memoryO whoseO deepNowO brokenByO brokenAtO goesByO comesToO sagMoreO creakOfO wipedByO deepAtO sagAtO loadAtO orderRowO oftenO lossOneO lossOtherO vO tO mO gO)]) s.heap.size = A at hD ⊢
  have hA : ∀ q : Nat, s.heap.size ≤ q → A q := fun q h => by rw [← hAe]; exact Or.inr h
  have hS : va_S A s.heap s.heap [] := va_S.rf
  have hP : va_P (dC, dI) vwCl (List.flatten [(wmHa qHa k hHa)] ++ List.flatten [(wMO qO k widthO manyO cellsO movedO tapeO linesO (qHa 0) bridgeO cartO wardO frostAtO actO isKeptO loadNowO byNowO rowO memoryO whoseO deepNowO brokenByO brokenAtO goesByO comesToO sagMoreO creakOfO wipedByO deepAtO sagAtO loadAtO orderRowO oftenO lossOneO lossOtherO vO tO mO gO)]) s.heap := hP
  have hl := lv_entry ([.ref (qO 0), .int 0, .int p2]) (n := 3) (Nat.le_of_ble_eq_true rfl)
  rw [lg_entry_eq]
  generalize (lg_sl ([.ref (qO 0), .int 0, .int p2]) ++ List.replicate (3 - (lg_sl ([.ref (qO 0), .int 0, .int p2])).length) Slot.unset).toArray = ls at hl ⊢
  have hl : lv_has ls 3 [(0, .ref (qO 0)), (1, .int 0), (2, .int p2)] := hl
  refine w_gen (fun Q hQ => ?_)
  refine lv_aload_n hx hb dX12_tells_0 rfl (lv_at hl 0 rfl) ?_
  refine va_get (D := (dC, dI)) (ci := 12) (v := .ref (qHa 0)) (C := RX12) (T := TX12) (N := 59) hx hb hts (fun w h => List.mem_cons_of_mem _ (List.mem_append_right _ (List.mem_append_left _ h))) hown hK hP 1 rfl rfl 17 (by decide) (hts (.fieldLink RX12 34 "SagMemoryModel" "has" "[I") (wl_mem 0 rfl)) (fun _ h9 => h9) rfl dX12_tells_1 ?_
  refine lv_bipush (v := 32) hx hb dX12_tells_4 (by decide) ?_
  refine lv_iload_n hx hb dX12_tells_6 rfl (lv_at hl 1 rfl) ?_
  refine lv_iadd hx hb dX12_tells_7 ?_
  refine lv_topi (fun xz1 exz1 => ?_)
  obtain rfl : xz1 = 32 := exz1.trans (by decide)
  refine lv_iload_n hx hb dX12_tells_8 rfl (lv_at hl 2 rfl) ?_
  refine va_iast hx hb hK hP hD hS 0 0 rfl rfl (by unfold vp_in; decide) dX12_tells_9 (fun H locs hP hD hS => ?_)
  obtain ⟨fz2, efz2, hP, hD⟩ : ∃ fz2 : Nat → Int32, fz2 = upd (hHa 0) (32 : Int32).toNatClampNeg p2 ∧ va_P (dC, dI) vwCl (List.flatten [(wmHa qHa k (va_up hHa 0 fz2))] ++ List.flatten [(wMO qO k widthO manyO cellsO movedO tapeO linesO (qHa 0) bridgeO cartO wardO frostAtO actO isKeptO loadNowO byNowO rowO memoryO whoseO deepNowO brokenByO brokenAtO goesByO comesToO sagMoreO creakOfO wipedByO deepAtO sagAtO loadAtO orderRowO oftenO lossOneO lossOtherO vO tO mO gO)]) H ∧ va_D A (List.flatten [(wmHa qHa k (va_up hHa 0 fz2))] ++ List.flatten [(wMO qO k widthO manyO cellsO movedO tapeO linesO (qHa 0) bridgeO cartO wardO frostAtO actO isKeptO loadNowO byNowO rowO memoryO whoseO deepNowO brokenByO brokenAtO goesByO comesToO sagMoreO creakOfO wipedByO deepAtO sagAtO loadAtO orderRowO oftenO lossOneO lossOtherO vO tO mO gO)]) := ⟨_, rfl, hP, hD⟩
  have hfz2 : Pd_h fz2 := by rw [efz2]; exact ⟨md_upd (hhHa 0).1 (by show 0 ≤ (32 : Int); omega) (by show (32 : Int) % 8 = 3 → 0 ≤ p2.toInt ∧ p2.toInt ≤ 3; omega), md_upd (hhHa 0).2.1 (by show 0 ≤ (32 : Int); omega) (by show (32 : Int) % 8 = 4 → 0 ≤ p2.toInt ∧ p2.toInt ≤ 7; omega), md_upd (hhHa 0).2.2.1 (by show 0 ≤ (32 : Int); omega) (by show (32 : Int) % 8 = 5 → 0 ≤ p2.toInt ∧ p2.toInt ≤ 5; omega), md_upd (hhHa 0).2.2.2.1 (by show 0 ≤ (32 : Int); omega) (by show (32 : Int) % 8 = 6 → 0 ≤ p2.toInt ∧ p2.toInt ≤ 4; omega), md_upd (hhHa 0).2.2.2.2 (by show 0 ≤ (32 : Int); omega) (by show (32 : Int) % 8 = 7 → 0 ≤ p2.toInt ∧ p2.toInt ≤ 30; omega)⟩
  have kfz2 : fz2 (32 : Int32).toNatClampNeg = p2 := by rw [efz2]; exact pk_us
  rw [hQ]
  exact W.vret hx hb hr (fun t ht hW => ⟨⟨(), rfl, trivial, (va_up hHa 0 fz2), (pa_up_h hhHa hfz2), by rw [ht]; exact hP⟩, hS.F ht⟩) hS.2.2 dX12_tells_10
def wk_c_tells_1 : List Cond := .code yX12_tells cX12_tells 3 none :: ([.fieldLink RX12 34 "SagMemoryModel" "has" "[I"] ++ (wsX120 ++ []))
theorem wkg_c_tells_1 : wk_c_tells_1.all goodWord = true := by decide +kernel
set_option maxHeartbeats 4000000 in
set_option maxRecDepth 100000 in
theorem c_tells_1 (l : Launch) (dC : Nat → ClassId) (dI : Nat → Nat → Nat) (k : Nat → ClassId) (sz : Nat) (qO : Nat → Nat) (widthO : Nat) (manyO : Nat) (cellsO : Nat) (movedO : Nat) (tapeO : Nat) (linesO : Nat) (bridgeO : Nat) (cartO : Nat) (wardO : Nat) (frostAtO : Nat) (actO : Nat) (isKeptO : Nat) (loadNowO : Nat) (byNowO : Nat) (rowO : Nat) (memoryO : Nat) (whoseO : Nat) (deepNowO : Nat) (brokenByO : Nat) (brokenAtO : Nat) (goesByO : Nat) (comesToO : Nat) (sagMoreO : Nat) (creakOfO : Nat) (wipedByO : Nat) (deepAtO : Nat) (sagAtO : Nat) (loadAtO : Nat) (orderRowO : Nat) (oftenO : Nat) (lossOneO : Nat) (lossOtherO : Nat) (vO : Nat → Int32) (tO : Nat → Int32) (mO : Nat → Int32) (gO : Nat → Int64) (qHa : Nat → Nat) (hHa : Nat → Nat → Int32) (p2 : Int32) (htO : Rg 0 700 tO) (hmO : Rg (-1) 127 mO) (hhHa : Pa_h hHa) : Met l yX12_tells wk_c_tells_1 ({ frames := 0, cells := 0, slots := 0, locals := 0 }) (va_Pc [.ref (qO 0), .int 1, .int p2] (fun U => U.heap.size = sz ∧ va_P (dC, dI) vwCl (List.flatten [(wmHa qHa k hHa)] ++ List.flatten [(wMO qO k widthO manyO cellsO movedO tapeO linesO (qHa 0) bridgeO cartO wardO frostAtO actO isKeptO loadNowO byNowO rowO memoryO whoseO deepNowO brokenByO brokenAtO goesByO comesToO sagMoreO creakOfO wipedByO deepAtO sagAtO loadAtO orderRowO oftenO lossOneO lossOtherO vO tO mO gO)]) U.heap ∧ va_K (dC, dI) vwCl (tK k) U ∧ va_D (fun _ => True) (List.flatten [(wmHa qHa k hHa)] ++ List.flatten [(wMO qO k widthO manyO cellsO movedO tapeO linesO (qHa 0) bridgeO cartO wardO frostAtO actO isKeptO loadNowO byNowO rowO memoryO whoseO deepNowO brokenByO brokenAtO goesByO comesToO sagMoreO creakOfO wipedByO deepAtO sagAtO loadAtO orderRowO oftenO lossOneO lossOtherO vO tO mO gO)]))) (va_Qv (fun _ : Unit => True) (fun (_ : Unit) (t : State) => ∃ (hHa' : Nat → Nat → Int32), Pa_h hHa' ∧ va_P (dC, dI) vwCl (List.flatten [(wmHa qHa k hHa')] ++ List.flatten [(wMO qO k widthO manyO cellsO movedO tapeO linesO (qHa 0) bridgeO cartO wardO frostAtO actO isKeptO loadNowO byNowO rowO memoryO whoseO deepNowO brokenByO brokenAtO goesByO comesToO sagMoreO creakOfO wipedByO deepAtO sagAtO loadAtO orderRowO oftenO lossOneO lossOtherO vO tO mO gO)]) t.heap) (va_A (List.flatten [(wmHa qHa k hHa)] ++ List.flatten [(wMO qO k widthO manyO cellsO movedO tapeO linesO (qHa 0) bridgeO cartO wardO frostAtO actO isKeptO loadNowO byNowO rowO memoryO whoseO deepNowO brokenByO brokenAtO goesByO comesToO sagMoreO creakOfO wipedByO deepAtO sagAtO loadAtO orderRowO oftenO lossOneO lossOtherO vO tO mO gO)]) sz)) 0 0 (va_A (List.flatten [(wmHa qHa k hHa)] ++ List.flatten [(wMO qO k widthO manyO cellsO movedO tapeO linesO (qHa 0) bridgeO cartO wardO frostAtO actO isKeptO loadNowO byNowO rowO memoryO whoseO deepNowO brokenByO brokenAtO goesByO comesToO sagMoreO creakOfO wipedByO deepAtO sagAtO loadAtO orderRowO oftenO lossOneO lossOtherO vO tO mO gO)]) sz) := by
  refine Met.ofW (cc := cX12_tells) (maxL := 3) (ret := none) (by decide) rfl ?_
  intro p e s m args below meth c s₁ B hml hv
  obtain ⟨rfl, hsz, hP, hK, hD0⟩ := hv
  have hx := B.exec
  have hb := B.bytes
  have hr := B.returns
  have hts := atoms_spec (ws := wk_c_tells_1) B.pre
  have hown : s.vm.findClass RX12 = some m.cls := findClass_of_methodNamed B.named
  have hlocks := B.notSynchronized
  subst hsz
  have hD := hD0.self (sz := s.heap.size)
  generalize hAe : va_A (List.flatten [(wmHa qHa k hHa)] ++ List.flatten [(wMO qO k widthO manyO cellsO movedO tapeO linesO (qHa 0) bridgeO cartO wardO frostAtO actO isKeptO loadNowO byNowO rowO memoryO whoseO deepNowO brokenByO brokenAtO goesByO comesToO sagMoreO creakOfO wipedByO deepAtO sagAtO loadAtO orderRowO oftenO lossOneO lossOtherO vO tO mO gO)]) s.heap.size = A at hD ⊢
  have hA : ∀ q : Nat, s.heap.size ≤ q → A q := fun q h => by rw [← hAe]; exact Or.inr h
  have hS : va_S A s.heap s.heap [] := va_S.rf
  have hP : va_P (dC, dI) vwCl (List.flatten [(wmHa qHa k hHa)] ++ List.flatten [(wMO qO k widthO manyO cellsO movedO tapeO linesO (qHa 0) bridgeO cartO wardO frostAtO actO isKeptO loadNowO byNowO rowO memoryO whoseO deepNowO brokenByO brokenAtO goesByO comesToO sagMoreO creakOfO wipedByO deepAtO sagAtO loadAtO orderRowO oftenO lossOneO lossOtherO vO tO mO gO)]) s.heap := hP
  have hl := lv_entry ([.ref (qO 0), .int 1, .int p2]) (n := 3) (Nat.le_of_ble_eq_true rfl)
  rw [lg_entry_eq]
  generalize (lg_sl ([.ref (qO 0), .int 1, .int p2]) ++ List.replicate (3 - (lg_sl ([.ref (qO 0), .int 1, .int p2])).length) Slot.unset).toArray = ls at hl ⊢
  have hl : lv_has ls 3 [(0, .ref (qO 0)), (1, .int 1), (2, .int p2)] := hl
  refine w_gen (fun Q hQ => ?_)
  refine lv_aload_n hx hb dX12_tells_0 rfl (lv_at hl 0 rfl) ?_
  refine va_get (D := (dC, dI)) (ci := 12) (v := .ref (qHa 0)) (C := RX12) (T := TX12) (N := 59) hx hb hts (fun w h => List.mem_cons_of_mem _ (List.mem_append_right _ (List.mem_append_left _ h))) hown hK hP 1 rfl rfl 17 (by decide) (hts (.fieldLink RX12 34 "SagMemoryModel" "has" "[I") (wl_mem 0 rfl)) (fun _ h9 => h9) rfl dX12_tells_1 ?_
  refine lv_bipush (v := 32) hx hb dX12_tells_4 (by decide) ?_
  refine lv_iload_n hx hb dX12_tells_6 rfl (lv_at hl 1 rfl) ?_
  refine lv_iadd hx hb dX12_tells_7 ?_
  refine lv_topi (fun xz1 exz1 => ?_)
  obtain rfl : xz1 = 33 := exz1.trans (by decide)
  refine lv_iload_n hx hb dX12_tells_8 rfl (lv_at hl 2 rfl) ?_
  refine va_iast hx hb hK hP hD hS 0 0 rfl rfl (by unfold vp_in; decide) dX12_tells_9 (fun H locs hP hD hS => ?_)
  obtain ⟨fz2, efz2, hP, hD⟩ : ∃ fz2 : Nat → Int32, fz2 = upd (hHa 0) (33 : Int32).toNatClampNeg p2 ∧ va_P (dC, dI) vwCl (List.flatten [(wmHa qHa k (va_up hHa 0 fz2))] ++ List.flatten [(wMO qO k widthO manyO cellsO movedO tapeO linesO (qHa 0) bridgeO cartO wardO frostAtO actO isKeptO loadNowO byNowO rowO memoryO whoseO deepNowO brokenByO brokenAtO goesByO comesToO sagMoreO creakOfO wipedByO deepAtO sagAtO loadAtO orderRowO oftenO lossOneO lossOtherO vO tO mO gO)]) H ∧ va_D A (List.flatten [(wmHa qHa k (va_up hHa 0 fz2))] ++ List.flatten [(wMO qO k widthO manyO cellsO movedO tapeO linesO (qHa 0) bridgeO cartO wardO frostAtO actO isKeptO loadNowO byNowO rowO memoryO whoseO deepNowO brokenByO brokenAtO goesByO comesToO sagMoreO creakOfO wipedByO deepAtO sagAtO loadAtO orderRowO oftenO lossOneO lossOtherO vO tO mO gO)]) := ⟨_, rfl, hP, hD⟩
  have hfz2 : Pd_h fz2 := by rw [efz2]; exact ⟨md_upd (hhHa 0).1 (by show 0 ≤ (33 : Int); omega) (by show (33 : Int) % 8 = 3 → 0 ≤ p2.toInt ∧ p2.toInt ≤ 3; omega), md_upd (hhHa 0).2.1 (by show 0 ≤ (33 : Int); omega) (by show (33 : Int) % 8 = 4 → 0 ≤ p2.toInt ∧ p2.toInt ≤ 7; omega), md_upd (hhHa 0).2.2.1 (by show 0 ≤ (33 : Int); omega) (by show (33 : Int) % 8 = 5 → 0 ≤ p2.toInt ∧ p2.toInt ≤ 5; omega), md_upd (hhHa 0).2.2.2.1 (by show 0 ≤ (33 : Int); omega) (by show (33 : Int) % 8 = 6 → 0 ≤ p2.toInt ∧ p2.toInt ≤ 4; omega), md_upd (hhHa 0).2.2.2.2 (by show 0 ≤ (33 : Int); omega) (by show (33 : Int) % 8 = 7 → 0 ≤ p2.toInt ∧ p2.toInt ≤ 30; omega)⟩
  have kfz2 : fz2 (33 : Int32).toNatClampNeg = p2 := by rw [efz2]; exact pk_us
  rw [hQ]
  exact W.vret hx hb hr (fun t ht hW => ⟨⟨(), rfl, trivial, (va_up hHa 0 fz2), (pa_up_h hhHa hfz2), by rw [ht]; exact hP⟩, hS.F ht⟩) hS.2.2 dX12_tells_10
def wk_c_tells_2 : List Cond := .code yX12_tells cX12_tells 3 none :: ([.fieldLink RX12 34 "SagMemoryModel" "has" "[I"] ++ (wsX120 ++ []))
theorem wkg_c_tells_2 : wk_c_tells_2.all goodWord = true := by decide +kernel
set_option maxHeartbeats 4000000 in
set_option maxRecDepth 100000 in
theorem c_tells_2 (l : Launch) (dC : Nat → ClassId) (dI : Nat → Nat → Nat) (k : Nat → ClassId) (sz : Nat) (qO : Nat → Nat) (widthO : Nat) (manyO : Nat) (cellsO : Nat) (movedO : Nat) (tapeO : Nat) (linesO : Nat) (bridgeO : Nat) (cartO : Nat) (wardO : Nat) (frostAtO : Nat) (actO : Nat) (isKeptO : Nat) (loadNowO : Nat) (byNowO : Nat) (rowO : Nat) (memoryO : Nat) (whoseO : Nat) (deepNowO : Nat) (brokenByO : Nat) (brokenAtO : Nat) (goesByO : Nat) (comesToO : Nat) (sagMoreO : Nat) (creakOfO : Nat) (wipedByO : Nat) (deepAtO : Nat) (sagAtO : Nat) (loadAtO : Nat) (orderRowO : Nat) (oftenO : Nat) (lossOneO : Nat) (lossOtherO : Nat) (vO : Nat → Int32) (tO : Nat → Int32) (mO : Nat → Int32) (gO : Nat → Int64) (qHa : Nat → Nat) (hHa : Nat → Nat → Int32) (p2 : Int32) (htO : Rg 0 700 tO) (hmO : Rg (-1) 127 mO) (hhHa : Pa_h hHa) : Met l yX12_tells wk_c_tells_2 ({ frames := 0, cells := 0, slots := 0, locals := 0 }) (va_Pc [.ref (qO 0), .int 2, .int p2] (fun U => U.heap.size = sz ∧ va_P (dC, dI) vwCl (List.flatten [(wmHa qHa k hHa)] ++ List.flatten [(wMO qO k widthO manyO cellsO movedO tapeO linesO (qHa 0) bridgeO cartO wardO frostAtO actO isKeptO loadNowO byNowO rowO memoryO whoseO deepNowO brokenByO brokenAtO goesByO comesToO sagMoreO creakOfO wipedByO deepAtO sagAtO loadAtO orderRowO oftenO lossOneO lossOtherO vO tO mO gO)]) U.heap ∧ va_K (dC, dI) vwCl (tK k) U ∧ va_D (fun _ => True) (List.flatten [(wmHa qHa k hHa)] ++ List.flatten [(wMO qO k widthO manyO cellsO movedO tapeO linesO (qHa 0) bridgeO cartO wardO frostAtO actO isKeptO loadNowO byNowO rowO memoryO whoseO deepNowO brokenByO brokenAtO goesByO comesToO sagMoreO creakOfO wipedByO deepAtO sagAtO loadAtO orderRowO oftenO lossOneO lossOtherO vO tO mO gO)]))) (va_Qv (fun _ : Unit => True) (fun (_ : Unit) (t : State) => ∃ (hHa' : Nat → Nat → Int32), Pa_h hHa' ∧ va_P (dC, dI) vwCl (List.flatten [(wmHa qHa k hHa')] ++ List.flatten [(wMO qO k widthO manyO cellsO movedO tapeO linesO (qHa 0) bridgeO cartO wardO frostAtO actO isKeptO loadNowO byNowO rowO memoryO whoseO deepNowO brokenByO brokenAtO goesByO comesToO sagMoreO creakOfO wipedByO deepAtO sagAtO loadAtO orderRowO oftenO lossOneO lossOtherO vO tO mO gO)]) t.heap) (va_A (List.flatten [(wmHa qHa k hHa)] ++ List.flatten [(wMO qO k widthO manyO cellsO movedO tapeO linesO (qHa 0) bridgeO cartO wardO frostAtO actO isKeptO loadNowO byNowO rowO memoryO whoseO deepNowO brokenByO brokenAtO goesByO comesToO sagMoreO creakOfO wipedByO deepAtO sagAtO loadAtO orderRowO oftenO lossOneO lossOtherO vO tO mO gO)]) sz)) 0 0 (va_A (List.flatten [(wmHa qHa k hHa)] ++ List.flatten [(wMO qO k widthO manyO cellsO movedO tapeO linesO (qHa 0) bridgeO cartO wardO frostAtO actO isKeptO loadNowO byNowO rowO memoryO whoseO deepNowO brokenByO brokenAtO goesByO comesToO sagMoreO creakOfO wipedByO deepAtO sagAtO loadAtO orderRowO oftenO lossOneO lossOtherO vO tO mO gO)]) sz) := by
  refine Met.ofW (cc := cX12_tells) (maxL := 3) (ret := none) (by decide) rfl ?_
  intro p e s m args below meth c s₁ B hml hv
  obtain ⟨rfl, hsz, hP, hK, hD0⟩ := hv
  have hx := B.exec
  have hb := B.bytes
  have hr := B.returns
  have hts := atoms_spec (ws := wk_c_tells_2) B.pre
  have hown : s.vm.findClass RX12 = some m.cls := findClass_of_methodNamed B.named
  have hlocks := B.notSynchronized
  subst hsz
  have hD := hD0.self (sz := s.heap.size)
  generalize hAe : va_A (List.flatten [(wmHa qHa k hHa)] ++ List.flatten [(wMO qO k widthO manyO cellsO movedO tapeO linesO (qHa 0) bridgeO cartO wardO frostAtO actO isKeptO loadNowO byNowO rowO memoryO whoseO deepNowO brokenByO brokenAtO goesByO comesToO sagMoreO creakOfO wipedByO deepAtO sagAtO loadAtO orderRowO oftenO lossOneO lossOtherO vO tO mO gO)]) s.heap.size = A at hD ⊢
  have hA : ∀ q : Nat, s.heap.size ≤ q → A q := fun q h => by rw [← hAe]; exact Or.inr h
  have hS : va_S A s.heap s.heap [] := va_S.rf
  have hP : va_P (dC, dI) vwCl (List.flatten [(wmHa qHa k hHa)] ++ List.flatten [(wMO qO k widthO manyO cellsO movedO tapeO linesO (qHa 0) bridgeO cartO wardO frostAtO actO isKeptO loadNowO byNowO rowO memoryO whoseO deepNowO brokenByO brokenAtO goesByO comesToO sagMoreO creakOfO wipedByO deepAtO sagAtO loadAtO orderRowO oftenO lossOneO lossOtherO vO tO mO gO)]) s.heap := hP
  have hl := lv_entry ([.ref (qO 0), .int 2, .int p2]) (n := 3) (Nat.le_of_ble_eq_true rfl)
  rw [lg_entry_eq]
  generalize (lg_sl ([.ref (qO 0), .int 2, .int p2]) ++ List.replicate (3 - (lg_sl ([.ref (qO 0), .int 2, .int p2])).length) Slot.unset).toArray = ls at hl ⊢
  have hl : lv_has ls 3 [(0, .ref (qO 0)), (1, .int 2), (2, .int p2)] := hl
  refine w_gen (fun Q hQ => ?_)
  refine lv_aload_n hx hb dX12_tells_0 rfl (lv_at hl 0 rfl) ?_
  refine va_get (D := (dC, dI)) (ci := 12) (v := .ref (qHa 0)) (C := RX12) (T := TX12) (N := 59) hx hb hts (fun w h => List.mem_cons_of_mem _ (List.mem_append_right _ (List.mem_append_left _ h))) hown hK hP 1 rfl rfl 17 (by decide) (hts (.fieldLink RX12 34 "SagMemoryModel" "has" "[I") (wl_mem 0 rfl)) (fun _ h9 => h9) rfl dX12_tells_1 ?_
  refine lv_bipush (v := 32) hx hb dX12_tells_4 (by decide) ?_
  refine lv_iload_n hx hb dX12_tells_6 rfl (lv_at hl 1 rfl) ?_
  refine lv_iadd hx hb dX12_tells_7 ?_
  refine lv_topi (fun xz1 exz1 => ?_)
  obtain rfl : xz1 = 34 := exz1.trans (by decide)
  refine lv_iload_n hx hb dX12_tells_8 rfl (lv_at hl 2 rfl) ?_
  refine va_iast hx hb hK hP hD hS 0 0 rfl rfl (by unfold vp_in; decide) dX12_tells_9 (fun H locs hP hD hS => ?_)
  obtain ⟨fz2, efz2, hP, hD⟩ : ∃ fz2 : Nat → Int32, fz2 = upd (hHa 0) (34 : Int32).toNatClampNeg p2 ∧ va_P (dC, dI) vwCl (List.flatten [(wmHa qHa k (va_up hHa 0 fz2))] ++ List.flatten [(wMO qO k widthO manyO cellsO movedO tapeO linesO (qHa 0) bridgeO cartO wardO frostAtO actO isKeptO loadNowO byNowO rowO memoryO whoseO deepNowO brokenByO brokenAtO goesByO comesToO sagMoreO creakOfO wipedByO deepAtO sagAtO loadAtO orderRowO oftenO lossOneO lossOtherO vO tO mO gO)]) H ∧ va_D A (List.flatten [(wmHa qHa k (va_up hHa 0 fz2))] ++ List.flatten [(wMO qO k widthO manyO cellsO movedO tapeO linesO (qHa 0) bridgeO cartO wardO frostAtO actO isKeptO loadNowO byNowO rowO memoryO whoseO deepNowO brokenByO brokenAtO goesByO comesToO sagMoreO creakOfO wipedByO deepAtO sagAtO loadAtO orderRowO oftenO lossOneO lossOtherO vO tO mO gO)]) := ⟨_, rfl, hP, hD⟩
  have hfz2 : Pd_h fz2 := by rw [efz2]; exact ⟨md_upd (hhHa 0).1 (by show 0 ≤ (34 : Int); omega) (by show (34 : Int) % 8 = 3 → 0 ≤ p2.toInt ∧ p2.toInt ≤ 3; omega), md_upd (hhHa 0).2.1 (by show 0 ≤ (34 : Int); omega) (by show (34 : Int) % 8 = 4 → 0 ≤ p2.toInt ∧ p2.toInt ≤ 7; omega), md_upd (hhHa 0).2.2.1 (by show 0 ≤ (34 : Int); omega) (by show (34 : Int) % 8 = 5 → 0 ≤ p2.toInt ∧ p2.toInt ≤ 5; omega), md_upd (hhHa 0).2.2.2.1 (by show 0 ≤ (34 : Int); omega) (by show (34 : Int) % 8 = 6 → 0 ≤ p2.toInt ∧ p2.toInt ≤ 4; omega), md_upd (hhHa 0).2.2.2.2 (by show 0 ≤ (34 : Int); omega) (by show (34 : Int) % 8 = 7 → 0 ≤ p2.toInt ∧ p2.toInt ≤ 30; omega)⟩
  have kfz2 : fz2 (34 : Int32).toNatClampNeg = p2 := by rw [efz2]; exact pk_us
  rw [hQ]
  exact W.vret hx hb hr (fun t ht hW => ⟨⟨(), rfl, trivial, (va_up hHa 0 fz2), (pa_up_h hhHa hfz2), by rw [ht]; exact hP⟩, hS.F ht⟩) hS.2.2 dX12_tells_10
def wk_c_hasRead_3 : List Cond := .code yX12_hasRead cX12_hasRead 2 (some .int) :: ([.fieldLink RX12 34 "SagMemoryModel" "has" "[I"] ++ (wsX120 ++ []))
theorem wkg_c_hasRead_3 : wk_c_hasRead_3.all goodWord = true := by decide +kernel
set_option maxHeartbeats 4000000 in
set_option maxRecDepth 100000 in
theorem c_hasRead_3 (l : Launch) (dC : Nat → ClassId) (dI : Nat → Nat → Nat) (k : Nat → ClassId) (qO : Nat → Nat) (widthO : Nat) (manyO : Nat) (cellsO : Nat) (movedO : Nat) (tapeO : Nat) (linesO : Nat) (bridgeO : Nat) (cartO : Nat) (wardO : Nat) (frostAtO : Nat) (actO : Nat) (isKeptO : Nat) (loadNowO : Nat) (byNowO : Nat) (rowO : Nat) (memoryO : Nat) (whoseO : Nat) (deepNowO : Nat) (brokenByO : Nat) (brokenAtO : Nat) (goesByO : Nat) (comesToO : Nat) (sagMoreO : Nat) (creakOfO : Nat) (wipedByO : Nat) (deepAtO : Nat) (sagAtO : Nat) (loadAtO : Nat) (orderRowO : Nat) (oftenO : Nat) (lossOneO : Nat) (lossOtherO : Nat) (vO : Nat → Int32) (tO : Nat → Int32) (mO : Nat → Int32) (gO : Nat → Int64) (qHa : Nat → Nat) (hHa : Nat → Nat → Int32) (htO : Rg 0 700 tO) (hmO : Rg (-1) 127 mO) (hhHa : Pa_h hHa) : Met l yX12_hasRead wk_c_hasRead_3 ({ frames := 0, cells := 0, slots := 0, locals := 0 }) (va_Pc [.ref (qO 0), .int 3] (fun U => va_P (dC, dI) vwCl (List.flatten [(wMO qO k widthO manyO cellsO movedO tapeO linesO (qHa 0) bridgeO cartO wardO frostAtO actO isKeptO loadNowO byNowO rowO memoryO whoseO deepNowO brokenByO brokenAtO goesByO comesToO sagMoreO creakOfO wipedByO deepAtO sagAtO loadAtO orderRowO oftenO lossOneO lossOtherO vO tO mO gO), (wmHa qHa k hHa)]) U.heap ∧ va_K (dC, dI) vwCl (tK k) U)) (vp_Si (fun r : Int32 => (0 ≤ r.toInt ∧ r.toInt ≤ 3) ∧ (r.toInt = ((hHa 0) 35).toInt))) 0 0 (fun _ => False) := by
  refine Met.ofW (cc := cX12_hasRead) (maxL := 2) (ret := (some .int)) (by decide) rfl ?_
  intro p e s m args below meth c s₁ B hml hv
  obtain ⟨rfl, hP, hK⟩ := hv
  have hx := B.exec
  have hb := B.bytes
  have hr := B.returns
  have hts := atoms_spec (ws := wk_c_hasRead_3) B.pre
  have hown : s.vm.findClass RX12 = some m.cls := findClass_of_methodNamed B.named
  have hlocks := B.notSynchronized
  have hP : va_P (dC, dI) vwCl (List.flatten [(wMO qO k widthO manyO cellsO movedO tapeO linesO (qHa 0) bridgeO cartO wardO frostAtO actO isKeptO loadNowO byNowO rowO memoryO whoseO deepNowO brokenByO brokenAtO goesByO comesToO sagMoreO creakOfO wipedByO deepAtO sagAtO loadAtO orderRowO oftenO lossOneO lossOtherO vO tO mO gO), (wmHa qHa k hHa)]) s.heap := hP
  have hl := lv_entry ([.ref (qO 0), .int 3]) (n := 2) (Nat.le_of_ble_eq_true rfl)
  rw [lg_entry_eq]
  generalize (lg_sl ([.ref (qO 0), .int 3]) ++ List.replicate (2 - (lg_sl ([.ref (qO 0), .int 3])).length) Slot.unset).toArray = ls at hl ⊢
  have hl : lv_has ls 2 [(0, .ref (qO 0)), (1, .int 3)] := hl
  refine w_gen (fun Q hQ => ?_)
  refine lv_aload_n hx hb dX12_hasRead_0 rfl (lv_at hl 0 rfl) ?_
  refine va_get (D := (dC, dI)) (ci := 12) (v := .ref (qHa 0)) (C := RX12) (T := TX12) (N := 59) hx hb hts (fun w h => List.mem_cons_of_mem _ (List.mem_append_right _ (List.mem_append_left _ h))) hown hK hP 0 rfl rfl 17 (by decide) (hts (.fieldLink RX12 34 "SagMemoryModel" "has" "[I") (wl_mem 0 rfl)) (fun _ h9 => h9) rfl dX12_hasRead_1 ?_
  refine lv_bipush (v := 32) hx hb dX12_hasRead_4 (by decide) ?_
  refine lv_iload_n hx hb dX12_hasRead_6 rfl (lv_at hl 1 rfl) ?_
  refine lv_iadd hx hb dX12_hasRead_7 ?_
  refine lv_topi (fun xz1 exz1 => ?_)
  obtain rfl : xz1 = 35 := exz1.trans (by decide)
  refine va_iald hx hb hK hP 1 0 rfl rfl (by unfold vp_in; decide) dX12_hasRead_8 ?_
  refine lv_topi (fun xz2 exz2 => ?_)
  have gxz2 : xz2.toInt = ((hHa 0) 35).toInt := by rw [exz2]; rfl
  have bxz2 : 0 ≤ xz2.toInt ∧ xz2.toInt ≤ 3 := by rw [exz2]; exact (hhHa 0).1 35 (by decide)
  rw [hQ]
  exact W.iret (v := xz2) hx hb hr (fun t ht hW => ⟨xz2, rfl, ⟨(by show 0 ≤ xz2.toInt ∧ xz2.toInt ≤ 3; omega), (by show xz2.toInt = ((hHa 0) 35).toInt; omega)⟩, ht⟩) (fun _ h => absurd h List.not_mem_nil) dX12_hasRead_9
def wk_c_tells_3 : List Cond := .code yX12_tells cX12_tells 3 none :: ([.fieldLink RX12 34 "SagMemoryModel" "has" "[I"] ++ (wsX120 ++ []))
theorem wkg_c_tells_3 : wk_c_tells_3.all goodWord = true := by decide +kernel
set_option maxHeartbeats 4000000 in
set_option maxRecDepth 100000 in
theorem c_tells_3 (l : Launch) (dC : Nat → ClassId) (dI : Nat → Nat → Nat) (k : Nat → ClassId) (sz : Nat) (qO : Nat → Nat) (widthO : Nat) (manyO : Nat) (cellsO : Nat) (movedO : Nat) (tapeO : Nat) (linesO : Nat) (bridgeO : Nat) (cartO : Nat) (wardO : Nat) (frostAtO : Nat) (actO : Nat) (isKeptO : Nat) (loadNowO : Nat) (byNowO : Nat) (rowO : Nat) (memoryO : Nat) (whoseO : Nat) (deepNowO : Nat) (brokenByO : Nat) (brokenAtO : Nat) (goesByO : Nat) (comesToO : Nat) (sagMoreO : Nat) (creakOfO : Nat) (wipedByO : Nat) (deepAtO : Nat) (sagAtO : Nat) (loadAtO : Nat) (orderRowO : Nat) (oftenO : Nat) (lossOneO : Nat) (lossOtherO : Nat) (vO : Nat → Int32) (tO : Nat → Int32) (mO : Nat → Int32) (gO : Nat → Int64) (qHa : Nat → Nat) (hHa : Nat → Nat → Int32) (p2 : Int32) (htO : Rg 0 700 tO) (hmO : Rg (-1) 127 mO) (hhHa : Pa_h hHa) (hp0 : 0 ≤ p2.toInt ∧ p2.toInt ≤ 3) : Met l yX12_tells wk_c_tells_3 ({ frames := 0, cells := 0, slots := 0, locals := 0 }) (va_Pc [.ref (qO 0), .int 3, .int p2] (fun U => U.heap.size = sz ∧ va_P (dC, dI) vwCl (List.flatten [(wmHa qHa k hHa)] ++ List.flatten [(wMO qO k widthO manyO cellsO movedO tapeO linesO (qHa 0) bridgeO cartO wardO frostAtO actO isKeptO loadNowO byNowO rowO memoryO whoseO deepNowO brokenByO brokenAtO goesByO comesToO sagMoreO creakOfO wipedByO deepAtO sagAtO loadAtO orderRowO oftenO lossOneO lossOtherO vO tO mO gO)]) U.heap ∧ va_K (dC, dI) vwCl (tK k) U ∧ va_D (fun _ => True) (List.flatten [(wmHa qHa k hHa)] ++ List.flatten [(wMO qO k widthO manyO cellsO movedO tapeO linesO (qHa 0) bridgeO cartO wardO frostAtO actO isKeptO loadNowO byNowO rowO memoryO whoseO deepNowO brokenByO brokenAtO goesByO comesToO sagMoreO creakOfO wipedByO deepAtO sagAtO loadAtO orderRowO oftenO lossOneO lossOtherO vO tO mO gO)]))) (va_Qv (fun _ : Unit => True) (fun (_ : Unit) (t : State) => ∃ (hHa' : Nat → Nat → Int32), Pa_h hHa' ∧ va_P (dC, dI) vwCl (List.flatten [(wmHa qHa k hHa')] ++ List.flatten [(wMO qO k widthO manyO cellsO movedO tapeO linesO (qHa 0) bridgeO cartO wardO frostAtO actO isKeptO loadNowO byNowO rowO memoryO whoseO deepNowO brokenByO brokenAtO goesByO comesToO sagMoreO creakOfO wipedByO deepAtO sagAtO loadAtO orderRowO oftenO lossOneO lossOtherO vO tO mO gO)]) t.heap) (va_A (List.flatten [(wmHa qHa k hHa)] ++ List.flatten [(wMO qO k widthO manyO cellsO movedO tapeO linesO (qHa 0) bridgeO cartO wardO frostAtO actO isKeptO loadNowO byNowO rowO memoryO whoseO deepNowO brokenByO brokenAtO goesByO comesToO sagMoreO creakOfO wipedByO deepAtO sagAtO loadAtO orderRowO oftenO lossOneO lossOtherO vO tO mO gO)]) sz)) 0 0 (va_A (List.flatten [(wmHa qHa k hHa)] ++ List.flatten [(wMO qO k widthO manyO cellsO movedO tapeO linesO (qHa 0) bridgeO cartO wardO frostAtO actO isKeptO loadNowO byNowO rowO memoryO whoseO deepNowO brokenByO brokenAtO goesByO comesToO sagMoreO creakOfO wipedByO deepAtO sagAtO loadAtO orderRowO oftenO lossOneO lossOtherO vO tO mO gO)]) sz) := by
  refine Met.ofW (cc := cX12_tells) (maxL := 3) (ret := none) (by decide) rfl ?_
  intro p e s m args below meth c s₁ B hml hv
  obtain ⟨rfl, hsz, hP, hK, hD0⟩ := hv
  have hx := B.exec
  have hb := B.bytes
  have hr := B.returns
  have hts := atoms_spec (ws := wk_c_tells_3) B.pre
  have hown : s.vm.findClass RX12 = some m.cls := findClass_of_methodNamed B.named
  have hlocks := B.notSynchronized
  subst hsz
  have hD := hD0.self (sz := s.heap.size)
  generalize hAe : va_A (List.flatten [(wmHa qHa k hHa)] ++ List.flatten [(wMO qO k widthO manyO cellsO movedO tapeO linesO (qHa 0) bridgeO cartO wardO frostAtO actO isKeptO loadNowO byNowO rowO memoryO whoseO deepNowO brokenByO brokenAtO goesByO comesToO sagMoreO creakOfO wipedByO deepAtO sagAtO loadAtO orderRowO oftenO lossOneO lossOtherO vO tO mO gO)]) s.heap.size = A at hD ⊢
  have hA : ∀ q : Nat, s.heap.size ≤ q → A q := fun q h => by rw [← hAe]; exact Or.inr h
  have hS : va_S A s.heap s.heap [] := va_S.rf
  have hP : va_P (dC, dI) vwCl (List.flatten [(wmHa qHa k hHa)] ++ List.flatten [(wMO qO k widthO manyO cellsO movedO tapeO linesO (qHa 0) bridgeO cartO wardO frostAtO actO isKeptO loadNowO byNowO rowO memoryO whoseO deepNowO brokenByO brokenAtO goesByO comesToO sagMoreO creakOfO wipedByO deepAtO sagAtO loadAtO orderRowO oftenO lossOneO lossOtherO vO tO mO gO)]) s.heap := hP
  have hl := lv_entry ([.ref (qO 0), .int 3, .int p2]) (n := 3) (Nat.le_of_ble_eq_true rfl)
  rw [lg_entry_eq]
  generalize (lg_sl ([.ref (qO 0), .int 3, .int p2]) ++ List.replicate (3 - (lg_sl ([.ref (qO 0), .int 3, .int p2])).length) Slot.unset).toArray = ls at hl ⊢
  have hl : lv_has ls 3 [(0, .ref (qO 0)), (1, .int 3), (2, .int p2)] := hl
  refine w_gen (fun Q hQ => ?_)
  refine lv_aload_n hx hb dX12_tells_0 rfl (lv_at hl 0 rfl) ?_
  refine va_get (D := (dC, dI)) (ci := 12) (v := .ref (qHa 0)) (C := RX12) (T := TX12) (N := 59) hx hb hts (fun w h => List.mem_cons_of_mem _ (List.mem_append_right _ (List.mem_append_left _ h))) hown hK hP 1 rfl rfl 17 (by decide) (hts (.fieldLink RX12 34 "SagMemoryModel" "has" "[I") (wl_mem 0 rfl)) (fun _ h9 => h9) rfl dX12_tells_1 ?_
  refine lv_bipush (v := 32) hx hb dX12_tells_4 (by decide) ?_
  refine lv_iload_n hx hb dX12_tells_6 rfl (lv_at hl 1 rfl) ?_
  refine lv_iadd hx hb dX12_tells_7 ?_
  refine lv_topi (fun xz1 exz1 => ?_)
  obtain rfl : xz1 = 35 := exz1.trans (by decide)
  refine lv_iload_n hx hb dX12_tells_8 rfl (lv_at hl 2 rfl) ?_
  refine va_iast hx hb hK hP hD hS 0 0 rfl rfl (by unfold vp_in; decide) dX12_tells_9 (fun H locs hP hD hS => ?_)
  obtain ⟨fz2, efz2, hP, hD⟩ : ∃ fz2 : Nat → Int32, fz2 = upd (hHa 0) (35 : Int32).toNatClampNeg p2 ∧ va_P (dC, dI) vwCl (List.flatten [(wmHa qHa k (va_up hHa 0 fz2))] ++ List.flatten [(wMO qO k widthO manyO cellsO movedO tapeO linesO (qHa 0) bridgeO cartO wardO frostAtO actO isKeptO loadNowO byNowO rowO memoryO whoseO deepNowO brokenByO brokenAtO goesByO comesToO sagMoreO creakOfO wipedByO deepAtO sagAtO loadAtO orderRowO oftenO lossOneO lossOtherO vO tO mO gO)]) H ∧ va_D A (List.flatten [(wmHa qHa k (va_up hHa 0 fz2))] ++ List.flatten [(wMO qO k widthO manyO cellsO movedO tapeO linesO (qHa 0) bridgeO cartO wardO frostAtO actO isKeptO loadNowO byNowO rowO memoryO whoseO deepNowO brokenByO brokenAtO goesByO comesToO sagMoreO creakOfO wipedByO deepAtO sagAtO loadAtO orderRowO oftenO lossOneO lossOtherO vO tO mO gO)]) := ⟨_, rfl, hP, hD⟩
  have hfz2 : Pd_h fz2 := by rw [efz2]; exact ⟨md_upd (hhHa 0).1 (by show 0 ≤ (35 : Int); omega) (by show (35 : Int) % 8 = 3 → 0 ≤ p2.toInt ∧ p2.toInt ≤ 3; omega), md_upd (hhHa 0).2.1 (by show 0 ≤ (35 : Int); omega) (by show (35 : Int) % 8 = 4 → 0 ≤ p2.toInt ∧ p2.toInt ≤ 7; omega), md_upd (hhHa 0).2.2.1 (by show 0 ≤ (35 : Int); omega) (by show (35 : Int) % 8 = 5 → 0 ≤ p2.toInt ∧ p2.toInt ≤ 5; omega), md_upd (hhHa 0).2.2.2.1 (by show 0 ≤ (35 : Int); omega) (by show (35 : Int) % 8 = 6 → 0 ≤ p2.toInt ∧ p2.toInt ≤ 4; omega), md_upd (hhHa 0).2.2.2.2 (by show 0 ≤ (35 : Int); omega) (by show (35 : Int) % 8 = 7 → 0 ≤ p2.toInt ∧ p2.toInt ≤ 30; omega)⟩
  have kfz2 : fz2 (35 : Int32).toNatClampNeg = p2 := by rw [efz2]; exact pk_us
  rw [hQ]
  exact W.vret hx hb hr (fun t ht hW => ⟨⟨(), rfl, trivial, (va_up hHa 0 fz2), (pa_up_h hhHa hfz2), by rw [ht]; exact hP⟩, hS.F ht⟩) hS.2.2 dX12_tells_10
def wk_c_hasRead_4 : List Cond := .code yX12_hasRead cX12_hasRead 2 (some .int) :: ([.fieldLink RX12 34 "SagMemoryModel" "has" "[I"] ++ (wsX120 ++ []))
theorem wkg_c_hasRead_4 : wk_c_hasRead_4.all goodWord = true := by decide +kernel
set_option maxHeartbeats 4000000 in
set_option maxRecDepth 100000 in
theorem c_hasRead_4 (l : Launch) (dC : Nat → ClassId) (dI : Nat → Nat → Nat) (k : Nat → ClassId) (qO : Nat → Nat) (widthO : Nat) (manyO : Nat) (cellsO : Nat) (movedO : Nat) (tapeO : Nat) (linesO : Nat) (bridgeO : Nat) (cartO : Nat) (wardO : Nat) (frostAtO : Nat) (actO : Nat) (isKeptO : Nat) (loadNowO : Nat) (byNowO : Nat) (rowO : Nat) (memoryO : Nat) (whoseO : Nat) (deepNowO : Nat) (brokenByO : Nat) (brokenAtO : Nat) (goesByO : Nat) (comesToO : Nat) (sagMoreO : Nat) (creakOfO : Nat) (wipedByO : Nat) (deepAtO : Nat) (sagAtO : Nat) (loadAtO : Nat) (orderRowO : Nat) (oftenO : Nat) (lossOneO : Nat) (lossOtherO : Nat) (vO : Nat → Int32) (tO : Nat → Int32) (mO : Nat → Int32) (gO : Nat → Int64) (qHa : Nat → Nat) (hHa : Nat → Nat → Int32) (htO : Rg 0 700 tO) (hmO : Rg (-1) 127 mO) (hhHa : Pa_h hHa) : Met l yX12_hasRead wk_c_hasRead_4 ({ frames := 0, cells := 0, slots := 0, locals := 0 }) (va_Pc [.ref (qO 0), .int 4] (fun U => va_P (dC, dI) vwCl (List.flatten [(wMO qO k widthO manyO cellsO movedO tapeO linesO (qHa 0) bridgeO cartO wardO frostAtO actO isKeptO loadNowO byNowO rowO memoryO whoseO deepNowO brokenByO brokenAtO goesByO comesToO sagMoreO creakOfO wipedByO deepAtO sagAtO loadAtO orderRowO oftenO lossOneO lossOtherO vO tO mO gO), (wmHa qHa k hHa)]) U.heap ∧ va_K (dC, dI) vwCl (tK k) U)) (vp_Si (fun r : Int32 => (0 ≤ r.toInt ∧ r.toInt ≤ 7) ∧ (r.toInt = ((hHa 0) 36).toInt))) 0 0 (fun _ => False) := by
  refine Met.ofW (cc := cX12_hasRead) (maxL := 2) (ret := (some .int)) (by decide) rfl ?_
  intro p e s m args below meth c s₁ B hml hv
  obtain ⟨rfl, hP, hK⟩ := hv
  have hx := B.exec
  have hb := B.bytes
  have hr := B.returns
  have hts := atoms_spec (ws := wk_c_hasRead_4) B.pre
  have hown : s.vm.findClass RX12 = some m.cls := findClass_of_methodNamed B.named
  have hlocks := B.notSynchronized
  have hP : va_P (dC, dI) vwCl (List.flatten [(wMO qO k widthO manyO cellsO movedO tapeO linesO (qHa 0) bridgeO cartO wardO frostAtO actO isKeptO loadNowO byNowO rowO memoryO whoseO deepNowO brokenByO brokenAtO goesByO comesToO sagMoreO creakOfO wipedByO deepAtO sagAtO loadAtO orderRowO oftenO lossOneO lossOtherO vO tO mO gO), (wmHa qHa k hHa)]) s.heap := hP
  have hl := lv_entry ([.ref (qO 0), .int 4]) (n := 2) (Nat.le_of_ble_eq_true rfl)
  rw [lg_entry_eq]
  generalize (lg_sl ([.ref (qO 0), .int 4]) ++ List.replicate (2 - (lg_sl ([.ref (qO 0), .int 4])).length) Slot.unset).toArray = ls at hl ⊢
  have hl : lv_has ls 2 [(0, .ref (qO 0)), (1, .int 4)] := hl
  refine w_gen (fun Q hQ => ?_)
  refine lv_aload_n hx hb dX12_hasRead_0 rfl (lv_at hl 0 rfl) ?_
  refine va_get (D := (dC, dI)) (ci := 12) (v := .ref (qHa 0)) (C := RX12) (T := TX12) (N := 59) hx hb hts (fun w h => List.mem_cons_of_mem _ (List.mem_append_right _ (List.mem_append_left _ h))) hown hK hP 0 rfl rfl 17 (by decide) (hts (.fieldLink RX12 34 "SagMemoryModel" "has" "[I") (wl_mem 0 rfl)) (fun _ h9 => h9) rfl dX12_hasRead_1 ?_
  refine lv_bipush (v := 32) hx hb dX12_hasRead_4 (by decide) ?_
  refine lv_iload_n hx hb dX12_hasRead_6 rfl (lv_at hl 1 rfl) ?_
  refine lv_iadd hx hb dX12_hasRead_7 ?_
  refine lv_topi (fun xz1 exz1 => ?_)
  obtain rfl : xz1 = 36 := exz1.trans (by decide)
  refine va_iald hx hb hK hP 1 0 rfl rfl (by unfold vp_in; decide) dX12_hasRead_8 ?_
  refine lv_topi (fun xz2 exz2 => ?_)
  have gxz2 : xz2.toInt = ((hHa 0) 36).toInt := by rw [exz2]; rfl
  have bxz2 : 0 ≤ xz2.toInt ∧ xz2.toInt ≤ 7 := by rw [exz2]; exact (hhHa 0).2.1 36 (by decide)
  rw [hQ]
  exact W.iret (v := xz2) hx hb hr (fun t ht hW => ⟨xz2, rfl, ⟨(by show 0 ≤ xz2.toInt ∧ xz2.toInt ≤ 7; omega), (by show xz2.toInt = ((hHa 0) 36).toInt; omega)⟩, ht⟩) (fun _ h => absurd h List.not_mem_nil) dX12_hasRead_9
def wk_c_tells_4 : List Cond := .code yX12_tells cX12_tells 3 none :: ([.fieldLink RX12 34 "SagMemoryModel" "has" "[I"] ++ (wsX120 ++ []))
theorem wkg_c_tells_4 : wk_c_tells_4.all goodWord = true := by decide +kernel
set_option maxHeartbeats 4000000 in
set_option maxRecDepth 100000 in
theorem c_tells_4 (l : Launch) (dC : Nat → ClassId) (dI : Nat → Nat → Nat) (k : Nat → ClassId) (sz : Nat) (qO : Nat → Nat) (widthO : Nat) (manyO : Nat) (cellsO : Nat) (movedO : Nat) (tapeO : Nat) (linesO : Nat) (bridgeO : Nat) (cartO : Nat) (wardO : Nat) (frostAtO : Nat) (actO : Nat) (isKeptO : Nat) (loadNowO : Nat) (byNowO : Nat) (rowO : Nat) (memoryO : Nat) (whoseO : Nat) (deepNowO : Nat) (brokenByO : Nat) (brokenAtO : Nat) (goesByO : Nat) (comesToO : Nat) (sagMoreO : Nat) (creakOfO : Nat) (wipedByO : Nat) (deepAtO : Nat) (sagAtO : Nat) (loadAtO : Nat) (orderRowO : Nat) (oftenO : Nat) (lossOneO : Nat) (lossOtherO : Nat) (vO : Nat → Int32) (tO : Nat → Int32) (mO : Nat → Int32) (gO : Nat → Int64) (qHa : Nat → Nat) (hHa : Nat → Nat → Int32) (p2 : Int32) (htO : Rg 0 700 tO) (hmO : Rg (-1) 127 mO) (hhHa : Pa_h hHa) (hp0 : 0 ≤ p2.toInt ∧ p2.toInt ≤ 7) : Met l yX12_tells wk_c_tells_4 ({ frames := 0, cells := 0, slots := 0, locals := 0 }) (va_Pc [.ref (qO 0), .int 4, .int p2] (fun U => U.heap.size = sz ∧ va_P (dC, dI) vwCl (List.flatten [(wmHa qHa k hHa)] ++ List.flatten [(wMO qO k widthO manyO cellsO movedO tapeO linesO (qHa 0) bridgeO cartO wardO frostAtO actO isKeptO loadNowO byNowO rowO memoryO whoseO deepNowO brokenByO brokenAtO goesByO comesToO sagMoreO creakOfO wipedByO deepAtO sagAtO loadAtO orderRowO oftenO lossOneO lossOtherO vO tO mO gO)]) U.heap ∧ va_K (dC, dI) vwCl (tK k) U ∧ va_D (fun _ => True) (List.flatten [(wmHa qHa k hHa)] ++ List.flatten [(wMO qO k widthO manyO cellsO movedO tapeO linesO (qHa 0) bridgeO cartO wardO frostAtO actO isKeptO loadNowO byNowO rowO memoryO whoseO deepNowO brokenByO brokenAtO goesByO comesToO sagMoreO creakOfO wipedByO deepAtO sagAtO loadAtO orderRowO oftenO lossOneO lossOtherO vO tO mO gO)]))) (va_Qv (fun _ : Unit => True) (fun (_ : Unit) (t : State) => ∃ (hHa' : Nat → Nat → Int32), Pa_h hHa' ∧ va_P (dC, dI) vwCl (List.flatten [(wmHa qHa k hHa')] ++ List.flatten [(wMO qO k widthO manyO cellsO movedO tapeO linesO (qHa 0) bridgeO cartO wardO frostAtO actO isKeptO loadNowO byNowO rowO memoryO whoseO deepNowO brokenByO brokenAtO goesByO comesToO sagMoreO creakOfO wipedByO deepAtO sagAtO loadAtO orderRowO oftenO lossOneO lossOtherO vO tO mO gO)]) t.heap) (va_A (List.flatten [(wmHa qHa k hHa)] ++ List.flatten [(wMO qO k widthO manyO cellsO movedO tapeO linesO (qHa 0) bridgeO cartO wardO frostAtO actO isKeptO loadNowO byNowO rowO memoryO whoseO deepNowO brokenByO brokenAtO goesByO comesToO sagMoreO creakOfO wipedByO deepAtO sagAtO loadAtO orderRowO oftenO lossOneO lossOtherO vO tO mO gO)]) sz)) 0 0 (va_A (List.flatten [(wmHa qHa k hHa)] ++ List.flatten [(wMO qO k widthO manyO cellsO movedO tapeO linesO (qHa 0) bridgeO cartO wardO frostAtO actO isKeptO loadNowO byNowO rowO memoryO whoseO deepNowO brokenByO brokenAtO goesByO comesToO sagMoreO creakOfO wipedByO deepAtO sagAtO loadAtO orderRowO oftenO lossOneO lossOtherO vO tO mO gO)]) sz) := by
  refine Met.ofW (cc := cX12_tells) (maxL := 3) (ret := none) (by decide) rfl ?_
  intro p e s m args below meth c s₁ B hml hv
  obtain ⟨rfl, hsz, hP, hK, hD0⟩ := hv
  have hx := B.exec
  have hb := B.bytes
  have hr := B.returns
  have hts := atoms_spec (ws := wk_c_tells_4) B.pre
  have hown : s.vm.findClass RX12 = some m.cls := findClass_of_methodNamed B.named
  have hlocks := B.notSynchronized
  subst hsz
  have hD := hD0.self (sz := s.heap.size)
  generalize hAe : va_A (List.flatten [(wmHa qHa k hHa)] ++ List.flatten [(wMO qO k widthO manyO cellsO movedO tapeO linesO (qHa 0) bridgeO cartO wardO frostAtO actO isKeptO loadNowO byNowO rowO memoryO whoseO deepNowO brokenByO brokenAtO goesByO comesToO sagMoreO creakOfO wipedByO deepAtO sagAtO loadAtO orderRowO oftenO lossOneO lossOtherO vO tO mO gO)]) s.heap.size = A at hD ⊢
  have hA : ∀ q : Nat, s.heap.size ≤ q → A q := fun q h => by rw [← hAe]; exact Or.inr h
  have hS : va_S A s.heap s.heap [] := va_S.rf
  have hP : va_P (dC, dI) vwCl (List.flatten [(wmHa qHa k hHa)] ++ List.flatten [(wMO qO k widthO manyO cellsO movedO tapeO linesO (qHa 0) bridgeO cartO wardO frostAtO actO isKeptO loadNowO byNowO rowO memoryO whoseO deepNowO brokenByO brokenAtO goesByO comesToO sagMoreO creakOfO wipedByO deepAtO sagAtO loadAtO orderRowO oftenO lossOneO lossOtherO vO tO mO gO)]) s.heap := hP
  have hl := lv_entry ([.ref (qO 0), .int 4, .int p2]) (n := 3) (Nat.le_of_ble_eq_true rfl)
  rw [lg_entry_eq]
  generalize (lg_sl ([.ref (qO 0), .int 4, .int p2]) ++ List.replicate (3 - (lg_sl ([.ref (qO 0), .int 4, .int p2])).length) Slot.unset).toArray = ls at hl ⊢
  have hl : lv_has ls 3 [(0, .ref (qO 0)), (1, .int 4), (2, .int p2)] := hl
  refine w_gen (fun Q hQ => ?_)
  refine lv_aload_n hx hb dX12_tells_0 rfl (lv_at hl 0 rfl) ?_
  refine va_get (D := (dC, dI)) (ci := 12) (v := .ref (qHa 0)) (C := RX12) (T := TX12) (N := 59) hx hb hts (fun w h => List.mem_cons_of_mem _ (List.mem_append_right _ (List.mem_append_left _ h))) hown hK hP 1 rfl rfl 17 (by decide) (hts (.fieldLink RX12 34 "SagMemoryModel" "has" "[I") (wl_mem 0 rfl)) (fun _ h9 => h9) rfl dX12_tells_1 ?_
  refine lv_bipush (v := 32) hx hb dX12_tells_4 (by decide) ?_
  refine lv_iload_n hx hb dX12_tells_6 rfl (lv_at hl 1 rfl) ?_
  refine lv_iadd hx hb dX12_tells_7 ?_
  refine lv_topi (fun xz1 exz1 => ?_)
  obtain rfl : xz1 = 36 := exz1.trans (by decide)
  refine lv_iload_n hx hb dX12_tells_8 rfl (lv_at hl 2 rfl) ?_
  refine va_iast hx hb hK hP hD hS 0 0 rfl rfl (by unfold vp_in; decide) dX12_tells_9 (fun H locs hP hD hS => ?_)
  obtain ⟨fz2, efz2, hP, hD⟩ : ∃ fz2 : Nat → Int32, fz2 = upd (hHa 0) (36 : Int32).toNatClampNeg p2 ∧ va_P (dC, dI) vwCl (List.flatten [(wmHa qHa k (va_up hHa 0 fz2))] ++ List.flatten [(wMO qO k widthO manyO cellsO movedO tapeO linesO (qHa 0) bridgeO cartO wardO frostAtO actO isKeptO loadNowO byNowO rowO memoryO whoseO deepNowO brokenByO brokenAtO goesByO comesToO sagMoreO creakOfO wipedByO deepAtO sagAtO loadAtO orderRowO oftenO lossOneO lossOtherO vO tO mO gO)]) H ∧ va_D A (List.flatten [(wmHa qHa k (va_up hHa 0 fz2))] ++ List.flatten [(wMO qO k widthO manyO cellsO movedO tapeO linesO (qHa 0) bridgeO cartO wardO frostAtO actO isKeptO loadNowO byNowO rowO memoryO whoseO deepNowO brokenByO brokenAtO goesByO comesToO sagMoreO creakOfO wipedByO deepAtO sagAtO loadAtO orderRowO oftenO lossOneO lossOtherO vO tO mO gO)]) := ⟨_, rfl, hP, hD⟩
  have hfz2 : Pd_h fz2 := by rw [efz2]; exact ⟨md_upd (hhHa 0).1 (by show 0 ≤ (36 : Int); omega) (by show (36 : Int) % 8 = 3 → 0 ≤ p2.toInt ∧ p2.toInt ≤ 3; omega), md_upd (hhHa 0).2.1 (by show 0 ≤ (36 : Int); omega) (by show (36 : Int) % 8 = 4 → 0 ≤ p2.toInt ∧ p2.toInt ≤ 7; omega), md_upd (hhHa 0).2.2.1 (by show 0 ≤ (36 : Int); omega) (by show (36 : Int) % 8 = 5 → 0 ≤ p2.toInt ∧ p2.toInt ≤ 5; omega), md_upd (hhHa 0).2.2.2.1 (by show 0 ≤ (36 : Int); omega) (by show (36 : Int) % 8 = 6 → 0 ≤ p2.toInt ∧ p2.toInt ≤ 4; omega), md_upd (hhHa 0).2.2.2.2 (by show 0 ≤ (36 : Int); omega) (by show (36 : Int) % 8 = 7 → 0 ≤ p2.toInt ∧ p2.toInt ≤ 30; omega)⟩
  have kfz2 : fz2 (36 : Int32).toNatClampNeg = p2 := by rw [efz2]; exact pk_us
  rw [hQ]
  exact W.vret hx hb hr (fun t ht hW => ⟨⟨(), rfl, trivial, (va_up hHa 0 fz2), (pa_up_h hhHa hfz2), by rw [ht]; exact hP⟩, hS.F ht⟩) hS.2.2 dX12_tells_10
def wk_c_hasRead_5 : List Cond := .code yX12_hasRead cX12_hasRead 2 (some .int) :: ([.fieldLink RX12 34 "SagMemoryModel" "has" "[I"] ++ (wsX120 ++ []))
theorem wkg_c_hasRead_5 : wk_c_hasRead_5.all goodWord = true := by decide +kernel
set_option maxHeartbeats 4000000 in
set_option maxRecDepth 100000 in
theorem c_hasRead_5 (l : Launch) (dC : Nat → ClassId) (dI : Nat → Nat → Nat) (k : Nat → ClassId) (qO : Nat → Nat) (widthO : Nat) (manyO : Nat) (cellsO : Nat) (movedO : Nat) (tapeO : Nat) (linesO : Nat) (bridgeO : Nat) (cartO : Nat) (wardO : Nat) (frostAtO : Nat) (actO : Nat) (isKeptO : Nat) (loadNowO : Nat) (byNowO : Nat) (rowO : Nat) (memoryO : Nat) (whoseO : Nat) (deepNowO : Nat) (brokenByO : Nat) (brokenAtO : Nat) (goesByO : Nat) (comesToO : Nat) (sagMoreO : Nat) (creakOfO : Nat) (wipedByO : Nat) (deepAtO : Nat) (sagAtO : Nat) (loadAtO : Nat) (orderRowO : Nat) (oftenO : Nat) (lossOneO : Nat) (lossOtherO : Nat) (vO : Nat → Int32) (tO : Nat → Int32) (mO : Nat → Int32) (gO : Nat → Int64) (qHa : Nat → Nat) (hHa : Nat → Nat → Int32) (htO : Rg 0 700 tO) (hmO : Rg (-1) 127 mO) (hhHa : Pa_h hHa) : Met l yX12_hasRead wk_c_hasRead_5 ({ frames := 0, cells := 0, slots := 0, locals := 0 }) (va_Pc [.ref (qO 0), .int 5] (fun U => va_P (dC, dI) vwCl (List.flatten [(wMO qO k widthO manyO cellsO movedO tapeO linesO (qHa 0) bridgeO cartO wardO frostAtO actO isKeptO loadNowO byNowO rowO memoryO whoseO deepNowO brokenByO brokenAtO goesByO comesToO sagMoreO creakOfO wipedByO deepAtO sagAtO loadAtO orderRowO oftenO lossOneO lossOtherO vO tO mO gO), (wmHa qHa k hHa)]) U.heap ∧ va_K (dC, dI) vwCl (tK k) U)) (vp_Si (fun r : Int32 => (0 ≤ r.toInt ∧ r.toInt ≤ 5) ∧ (r.toInt = ((hHa 0) 37).toInt))) 0 0 (fun _ => False) := by
  refine Met.ofW (cc := cX12_hasRead) (maxL := 2) (ret := (some .int)) (by decide) rfl ?_
  intro p e s m args below meth c s₁ B hml hv
  obtain ⟨rfl, hP, hK⟩ := hv
  have hx := B.exec
  have hb := B.bytes
  have hr := B.returns
  have hts := atoms_spec (ws := wk_c_hasRead_5) B.pre
  have hown : s.vm.findClass RX12 = some m.cls := findClass_of_methodNamed B.named
  have hlocks := B.notSynchronized
  have hP : va_P (dC, dI) vwCl (List.flatten [(wMO qO k widthO manyO cellsO movedO tapeO linesO (qHa 0) bridgeO cartO wardO frostAtO actO isKeptO loadNowO byNowO rowO memoryO whoseO deepNowO brokenByO brokenAtO goesByO comesToO sagMoreO creakOfO wipedByO deepAtO sagAtO loadAtO orderRowO oftenO lossOneO lossOtherO vO tO mO gO), (wmHa qHa k hHa)]) s.heap := hP
  have hl := lv_entry ([.ref (qO 0), .int 5]) (n := 2) (Nat.le_of_ble_eq_true rfl)
  rw [lg_entry_eq]
  generalize (lg_sl ([.ref (qO 0), .int 5]) ++ List.replicate (2 - (lg_sl ([.ref (qO 0), .int 5])).length) Slot.unset).toArray = ls at hl ⊢
  have hl : lv_has ls 2 [(0, .ref (qO 0)), (1, .int 5)] := hl
  refine w_gen (fun Q hQ => ?_)
  refine lv_aload_n hx hb dX12_hasRead_0 rfl (lv_at hl 0 rfl) ?_
  refine va_get (D := (dC, dI)) (ci := 12) (v := .ref (qHa 0)) (C := RX12) (T := TX12) (N := 59) hx hb hts (fun w h => List.mem_cons_of_mem _ (List.mem_append_right _ (List.mem_append_left _ h))) hown hK hP 0 rfl rfl 17 (by decide) (hts (.fieldLink RX12 34 "SagMemoryModel" "has" "[I") (wl_mem 0 rfl)) (fun _ h9 => h9) rfl dX12_hasRead_1 ?_
  refine lv_bipush (v := 32) hx hb dX12_hasRead_4 (by decide) ?_
  refine lv_iload_n hx hb dX12_hasRead_6 rfl (lv_at hl 1 rfl) ?_
  refine lv_iadd hx hb dX12_hasRead_7 ?_
  refine lv_topi (fun xz1 exz1 => ?_)
  obtain rfl : xz1 = 37 := exz1.trans (by decide)
  refine va_iald hx hb hK hP 1 0 rfl rfl (by unfold vp_in; decide) dX12_hasRead_8 ?_
  refine lv_topi (fun xz2 exz2 => ?_)
  have gxz2 : xz2.toInt = ((hHa 0) 37).toInt := by rw [exz2]; rfl
  have bxz2 : 0 ≤ xz2.toInt ∧ xz2.toInt ≤ 5 := by rw [exz2]; exact (hhHa 0).2.2.1 37 (by decide)
  rw [hQ]
  exact W.iret (v := xz2) hx hb hr (fun t ht hW => ⟨xz2, rfl, ⟨(by show 0 ≤ xz2.toInt ∧ xz2.toInt ≤ 5; omega), (by show xz2.toInt = ((hHa 0) 37).toInt; omega)⟩, ht⟩) (fun _ h => absurd h List.not_mem_nil) dX12_hasRead_9
def wk_c_tells_5 : List Cond := .code yX12_tells cX12_tells 3 none :: ([.fieldLink RX12 34 "SagMemoryModel" "has" "[I"] ++ (wsX120 ++ []))
theorem wkg_c_tells_5 : wk_c_tells_5.all goodWord = true := by decide +kernel
set_option maxHeartbeats 4000000 in
set_option maxRecDepth 100000 in
theorem c_tells_5 (l : Launch) (dC : Nat → ClassId) (dI : Nat → Nat → Nat) (k : Nat → ClassId) (sz : Nat) (qO : Nat → Nat) (widthO : Nat) (manyO : Nat) (cellsO : Nat) (movedO : Nat) (tapeO : Nat) (linesO : Nat) (bridgeO : Nat) (cartO : Nat) (wardO : Nat) (frostAtO : Nat) (actO : Nat) (isKeptO : Nat) (loadNowO : Nat) (byNowO : Nat) (rowO : Nat) (memoryO : Nat) (whoseO : Nat) (deepNowO : Nat) (brokenByO : Nat) (brokenAtO : Nat) (goesByO : Nat) (comesToO : Nat) (sagMoreO : Nat) (creakOfO : Nat) (wipedByO : Nat) (deepAtO : Nat) (sagAtO : Nat) (loadAtO : Nat) (orderRowO : Nat) (oftenO : Nat) (lossOneO : Nat) (lossOtherO : Nat) (vO : Nat → Int32) (tO : Nat → Int32) (mO : Nat → Int32) (gO : Nat → Int64) (qHa : Nat → Nat) (hHa : Nat → Nat → Int32) (p2 : Int32) (htO : Rg 0 700 tO) (hmO : Rg (-1) 127 mO) (hhHa : Pa_h hHa) (hp0 : 0 ≤ p2.toInt ∧ p2.toInt ≤ 5) : Met l yX12_tells wk_c_tells_5 ({ frames := 0, cells := 0, slots := 0, locals := 0 }) (va_Pc [.ref (qO 0), .int 5, .int p2] (fun U => U.heap.size = sz ∧ va_P (dC, dI) vwCl (List.flatten [(wmHa qHa k hHa)] ++ List.flatten [(wMO qO k widthO manyO cellsO movedO tapeO linesO (qHa 0) bridgeO cartO wardO frostAtO actO isKeptO loadNowO byNowO rowO memoryO whoseO deepNowO brokenByO brokenAtO goesByO comesToO sagMoreO creakOfO wipedByO deepAtO sagAtO loadAtO orderRowO oftenO lossOneO lossOtherO vO tO mO gO)]) U.heap ∧ va_K (dC, dI) vwCl (tK k) U ∧ va_D (fun _ => True) (List.flatten [(wmHa qHa k hHa)] ++ List.flatten [(wMO qO k widthO manyO cellsO movedO tapeO linesO (qHa 0) bridgeO cartO wardO frostAtO actO isKeptO loadNowO byNowO rowO memoryO whoseO deepNowO brokenByO brokenAtO goesByO comesToO sagMoreO creakOfO wipedByO deepAtO sagAtO loadAtO orderRowO oftenO lossOneO lossOtherO vO tO mO gO)]))) (va_Qv (fun _ : Unit => True) (fun (_ : Unit) (t : State) => ∃ (hHa' : Nat → Nat → Int32), Pa_h hHa' ∧ va_P (dC, dI) vwCl (List.flatten [(wmHa qHa k hHa')] ++ List.flatten [(wMO qO k widthO manyO cellsO movedO tapeO linesO (qHa 0) bridgeO cartO wardO frostAtO actO isKeptO loadNowO byNowO rowO memoryO whoseO deepNowO brokenByO brokenAtO goesByO comesToO sagMoreO creakOfO wipedByO deepAtO sagAtO loadAtO orderRowO oftenO lossOneO lossOtherO vO tO mO gO)]) t.heap) (va_A (List.flatten [(wmHa qHa k hHa)] ++ List.flatten [(wMO qO k widthO manyO cellsO movedO tapeO linesO (qHa 0) bridgeO cartO wardO frostAtO actO isKeptO loadNowO byNowO rowO memoryO whoseO deepNowO brokenByO brokenAtO goesByO comesToO sagMoreO creakOfO wipedByO deepAtO sagAtO loadAtO orderRowO oftenO lossOneO lossOtherO vO tO mO gO)]) sz)) 0 0 (va_A (List.flatten [(wmHa qHa k hHa)] ++ List.flatten [(wMO qO k widthO manyO cellsO movedO tapeO linesO (qHa 0) bridgeO cartO wardO frostAtO actO isKeptO loadNowO byNowO rowO memoryO whoseO deepNowO brokenByO brokenAtO goesByO comesToO sagMoreO creakOfO wipedByO deepAtO sagAtO loadAtO orderRowO oftenO lossOneO lossOtherO vO tO mO gO)]) sz) := by
  refine Met.ofW (cc := cX12_tells) (maxL := 3) (ret := none) (by decide) rfl ?_
  intro p e s m args below meth c s₁ B hml hv
  obtain ⟨rfl, hsz, hP, hK, hD0⟩ := hv
  have hx := B.exec
  have hb := B.bytes
  have hr := B.returns
  have hts := atoms_spec (ws := wk_c_tells_5) B.pre
  have hown : s.vm.findClass RX12 = some m.cls := findClass_of_methodNamed B.named
  have hlocks := B.notSynchronized
  subst hsz
  have hD := hD0.self (sz := s.heap.size)
  generalize hAe : va_A (List.flatten [(wmHa qHa k hHa)] ++ List.flatten [(wMO qO k widthO manyO cellsO movedO tapeO linesO (qHa 0) bridgeO cartO wardO frostAtO actO isKeptO loadNowO byNowO rowO memoryO whoseO deepNowO brokenByO brokenAtO goesByO comesToO sagMoreO creakOfO wipedByO deepAtO sagAtO loadAtO orderRowO oftenO lossOneO lossOtherO vO tO mO gO)]) s.heap.size = A at hD ⊢
  have hA : ∀ q : Nat, s.heap.size ≤ q → A q := fun q h => by rw [← hAe]; exact Or.inr h
  have hS : va_S A s.heap s.heap [] := va_S.rf
  have hP : va_P (dC, dI) vwCl (List.flatten [(wmHa qHa k hHa)] ++ List.flatten [(wMO qO k widthO manyO cellsO movedO tapeO linesO (qHa 0) bridgeO cartO wardO frostAtO actO isKeptO loadNowO byNowO rowO memoryO whoseO deepNowO brokenByO brokenAtO goesByO comesToO sagMoreO creakOfO wipedByO deepAtO sagAtO loadAtO orderRowO oftenO lossOneO lossOtherO vO tO mO gO)]) s.heap := hP
  have hl := lv_entry ([.ref (qO 0), .int 5, .int p2]) (n := 3) (Nat.le_of_ble_eq_true rfl)
  rw [lg_entry_eq]
  generalize (lg_sl ([.ref (qO 0), .int 5, .int p2]) ++ List.replicate (3 - (lg_sl ([.ref (qO 0), .int 5, .int p2])).length) Slot.unset).toArray = ls at hl ⊢
  have hl : lv_has ls 3 [(0, .ref (qO 0)), (1, .int 5), (2, .int p2)] := hl
  refine w_gen (fun Q hQ => ?_)
  refine lv_aload_n hx hb dX12_tells_0 rfl (lv_at hl 0 rfl) ?_
  refine va_get (D := (dC, dI)) (ci := 12) (v := .ref (qHa 0)) (C := RX12) (T := TX12) (N := 59) hx hb hts (fun w h => List.mem_cons_of_mem _ (List.mem_append_right _ (List.mem_append_left _ h))) hown hK hP 1 rfl rfl 17 (by decide) (hts (.fieldLink RX12 34 "SagMemoryModel" "has" "[I") (wl_mem 0 rfl)) (fun _ h9 => h9) rfl dX12_tells_1 ?_
  refine lv_bipush (v := 32) hx hb dX12_tells_4 (by decide) ?_
  refine lv_iload_n hx hb dX12_tells_6 rfl (lv_at hl 1 rfl) ?_
  refine lv_iadd hx hb dX12_tells_7 ?_
  refine lv_topi (fun xz1 exz1 => ?_)
  obtain rfl : xz1 = 37 := exz1.trans (by decide)
  refine lv_iload_n hx hb dX12_tells_8 rfl (lv_at hl 2 rfl) ?_
  refine va_iast hx hb hK hP hD hS 0 0 rfl rfl (by unfold vp_in; decide) dX12_tells_9 (fun H locs hP hD hS => ?_)
  obtain ⟨fz2, efz2, hP, hD⟩ : ∃ fz2 : Nat → Int32, fz2 = upd (hHa 0) (37 : Int32).toNatClampNeg p2 ∧ va_P (dC, dI) vwCl (List.flatten [(wmHa qHa k (va_up hHa 0 fz2))] ++ List.flatten [(wMO qO k widthO manyO cellsO movedO tapeO linesO (qHa 0) bridgeO cartO wardO frostAtO actO isKeptO loadNowO byNowO rowO memoryO whoseO deepNowO brokenByO brokenAtO goesByO comesToO sagMoreO creakOfO wipedByO deepAtO sagAtO loadAtO orderRowO oftenO lossOneO lossOtherO vO tO mO gO)]) H ∧ va_D A (List.flatten [(wmHa qHa k (va_up hHa 0 fz2))] ++ List.flatten [(wMO qO k widthO manyO cellsO movedO tapeO linesO (qHa 0) bridgeO cartO wardO frostAtO actO isKeptO loadNowO byNowO rowO memoryO whoseO deepNowO brokenByO brokenAtO goesByO comesToO sagMoreO creakOfO wipedByO deepAtO sagAtO loadAtO orderRowO oftenO lossOneO lossOtherO vO tO mO gO)]) := ⟨_, rfl, hP, hD⟩
  have hfz2 : Pd_h fz2 := by rw [efz2]; exact ⟨md_upd (hhHa 0).1 (by show 0 ≤ (37 : Int); omega) (by show (37 : Int) % 8 = 3 → 0 ≤ p2.toInt ∧ p2.toInt ≤ 3; omega), md_upd (hhHa 0).2.1 (by show 0 ≤ (37 : Int); omega) (by show (37 : Int) % 8 = 4 → 0 ≤ p2.toInt ∧ p2.toInt ≤ 7; omega), md_upd (hhHa 0).2.2.1 (by show 0 ≤ (37 : Int); omega) (by show (37 : Int) % 8 = 5 → 0 ≤ p2.toInt ∧ p2.toInt ≤ 5; omega), md_upd (hhHa 0).2.2.2.1 (by show 0 ≤ (37 : Int); omega) (by show (37 : Int) % 8 = 6 → 0 ≤ p2.toInt ∧ p2.toInt ≤ 4; omega), md_upd (hhHa 0).2.2.2.2 (by show 0 ≤ (37 : Int); omega) (by show (37 : Int) % 8 = 7 → 0 ≤ p2.toInt ∧ p2.toInt ≤ 30; omega)⟩
  have kfz2 : fz2 (37 : Int32).toNatClampNeg = p2 := by rw [efz2]; exact pk_us
  rw [hQ]
  exact W.vret hx hb hr (fun t ht hW => ⟨⟨(), rfl, trivial, (va_up hHa 0 fz2), (pa_up_h hhHa hfz2), by rw [ht]; exact hP⟩, hS.F ht⟩) hS.2.2 dX12_tells_10
def wk_c_hasRead_6 : List Cond := .code yX12_hasRead cX12_hasRead 2 (some .int) :: ([.fieldLink RX12 34 "SagMemoryModel" "has" "[I"] ++ (wsX120 ++ []))
theorem wkg_c_hasRead_6 : wk_c_hasRead_6.all goodWord = true := by decide +kernel
set_option maxHeartbeats 4000000 in
set_option maxRecDepth 100000 in
theorem c_hasRead_6 (l : Launch) (dC : Nat → ClassId) (dI : Nat → Nat → Nat) (k : Nat → ClassId) (qO : Nat → Nat) (widthO : Nat) (manyO : Nat) (cellsO : Nat) (movedO : Nat) (tapeO : Nat) (linesO : Nat) (bridgeO : Nat) (cartO : Nat) (wardO : Nat) (frostAtO : Nat) (actO : Nat) (isKeptO : Nat) (loadNowO : Nat) (byNowO : Nat) (rowO : Nat) (memoryO : Nat) (whoseO : Nat) (deepNowO : Nat) (brokenByO : Nat) (brokenAtO : Nat) (goesByO : Nat) (comesToO : Nat) (sagMoreO : Nat) (creakOfO : Nat) (wipedByO : Nat) (deepAtO : Nat) (sagAtO : Nat) (loadAtO : Nat) (orderRowO : Nat) (oftenO : Nat) (lossOneO : Nat) (lossOtherO : Nat) (vO : Nat → Int32) (tO : Nat → Int32) (mO : Nat → Int32) (gO : Nat → Int64) (qHa : Nat → Nat) (hHa : Nat → Nat → Int32) (htO : Rg 0 700 tO) (hmO : Rg (-1) 127 mO) (hhHa : Pa_h hHa) : Met l yX12_hasRead wk_c_hasRead_6 ({ frames := 0, cells := 0, slots := 0, locals := 0 }) (va_Pc [.ref (qO 0), .int 6] (fun U => va_P (dC, dI) vwCl (List.flatten [(wMO qO k widthO manyO cellsO movedO tapeO linesO (qHa 0) bridgeO cartO wardO frostAtO actO isKeptO loadNowO byNowO rowO memoryO whoseO deepNowO brokenByO brokenAtO goesByO comesToO sagMoreO creakOfO wipedByO deepAtO sagAtO loadAtO orderRowO oftenO lossOneO lossOtherO vO tO mO gO), (wmHa qHa k hHa)]) U.heap ∧ va_K (dC, dI) vwCl (tK k) U)) (vp_Si (fun r : Int32 => (0 ≤ r.toInt ∧ r.toInt ≤ 4) ∧ (r.toInt = ((hHa 0) 38).toInt))) 0 0 (fun _ => False) := by
  refine Met.ofW (cc := cX12_hasRead) (maxL := 2) (ret := (some .int)) (by decide) rfl ?_
  intro p e s m args below meth c s₁ B hml hv
  obtain ⟨rfl, hP, hK⟩ := hv
  have hx := B.exec
  have hb := B.bytes
  have hr := B.returns
  have hts := atoms_spec (ws := wk_c_hasRead_6) B.pre
  have hown : s.vm.findClass RX12 = some m.cls := findClass_of_methodNamed B.named
  have hlocks := B.notSynchronized
  have hP : va_P (dC, dI) vwCl (List.flatten [(wMO qO k widthO manyO cellsO movedO tapeO linesO (qHa 0) bridgeO cartO wardO frostAtO actO isKeptO loadNowO byNowO rowO memoryO whoseO deepNowO brokenByO brokenAtO goesByO comesToO sagMoreO creakOfO wipedByO deepAtO sagAtO loadAtO orderRowO oftenO lossOneO lossOtherO vO tO mO gO), (wmHa qHa k hHa)]) s.heap := hP
  have hl := lv_entry ([.ref (qO 0), .int 6]) (n := 2) (Nat.le_of_ble_eq_true rfl)
  rw [lg_entry_eq]
  generalize (lg_sl ([.ref (qO 0), .int 6]) ++ List.replicate (2 - (lg_sl ([.ref (qO 0), .int 6])).length) Slot.unset).toArray = ls at hl ⊢
  have hl : lv_has ls 2 [(0, .ref (qO 0)), (1, .int 6)] := hl
  refine w_gen (fun Q hQ => ?_)
  refine lv_aload_n hx hb dX12_hasRead_0 rfl (lv_at hl 0 rfl) ?_
  refine va_get (D := (dC, dI)) (ci := 12) (v := .ref (qHa 0)) (C := RX12) (T := TX12) (N := 59) hx hb hts (fun w h => List.mem_cons_of_mem _ (List.mem_append_right _ (List.mem_append_left _ h))) hown hK hP 0 rfl rfl 17 (by decide) (hts (.fieldLink RX12 34 "SagMemoryModel" "has" "[I") (wl_mem 0 rfl)) (fun _ h9 => h9) rfl dX12_hasRead_1 ?_
  refine lv_bipush (v := 32) hx hb dX12_hasRead_4 (by decide) ?_
  refine lv_iload_n hx hb dX12_hasRead_6 rfl (lv_at hl 1 rfl) ?_
  refine lv_iadd hx hb dX12_hasRead_7 ?_
  refine lv_topi (fun xz1 exz1 => ?_)
  obtain rfl : xz1 = 38 := exz1.trans (by decide)
  refine va_iald hx hb hK hP 1 0 rfl rfl (by unfold vp_in; decide) dX12_hasRead_8 ?_
  refine lv_topi (fun xz2 exz2 => ?_)
  have gxz2 : xz2.toInt = ((hHa 0) 38).toInt := by rw [exz2]; rfl
  have bxz2 : 0 ≤ xz2.toInt ∧ xz2.toInt ≤ 4 := by rw [exz2]; exact (hhHa 0).2.2.2.1 38 (by decide)
  rw [hQ]
  exact W.iret (v := xz2) hx hb hr (fun t ht hW => ⟨xz2, rfl, ⟨(by show 0 ≤ xz2.toInt ∧ xz2.toInt ≤ 4; omega), (by show xz2.toInt = ((hHa 0) 38).toInt; omega)⟩, ht⟩) (fun _ h => absurd h List.not_mem_nil) dX12_hasRead_9
def wk_c_tells_6 : List Cond := .code yX12_tells cX12_tells 3 none :: ([.fieldLink RX12 34 "SagMemoryModel" "has" "[I"] ++ (wsX120 ++ []))
theorem wkg_c_tells_6 : wk_c_tells_6.all goodWord = true := by decide +kernel
set_option maxHeartbeats 4000000 in
set_option maxRecDepth 100000 in
theorem c_tells_6 (l : Launch) (dC : Nat → ClassId) (dI : Nat → Nat → Nat) (k : Nat → ClassId) (sz : Nat) (qO : Nat → Nat) (widthO : Nat) (manyO : Nat) (cellsO : Nat) (movedO : Nat) (tapeO : Nat) (linesO : Nat) (bridgeO : Nat) (cartO : Nat) (wardO : Nat) (frostAtO : Nat) (actO : Nat) (isKeptO : Nat) (loadNowO : Nat) (byNowO : Nat) (rowO : Nat) (memoryO : Nat) (whoseO : Nat) (deepNowO : Nat) (brokenByO : Nat) (brokenAtO : Nat) (goesByO : Nat) (comesToO : Nat) (sagMoreO : Nat) (creakOfO : Nat) (wipedByO : Nat) (deepAtO : Nat) (sagAtO : Nat) (loadAtO : Nat) (orderRowO : Nat) (oftenO : Nat) (lossOneO : Nat) (lossOtherO : Nat) (vO : Nat → Int32) (tO : Nat → Int32) (mO : Nat → Int32) (gO : Nat → Int64) (qHa : Nat → Nat) (hHa : Nat → Nat → Int32) (p2 : Int32) (htO : Rg 0 700 tO) (hmO : Rg (-1) 127 mO) (hhHa : Pa_h hHa) (hp0 : 0 ≤ p2.toInt ∧ p2.toInt ≤ 4) : Met l yX12_tells wk_c_tells_6 ({ frames := 0, cells := 0, slots := 0, locals := 0 }) (va_Pc [.ref (qO 0), .int 6, .int p2] (fun U => U.heap.size = sz ∧ va_P (dC, dI) vwCl (List.flatten [(wmHa qHa k hHa)] ++ List.flatten [(wMO qO k widthO manyO cellsO movedO tapeO linesO (qHa 0) bridgeO cartO wardO frostAtO actO isKeptO loadNowO byNowO rowO memoryO whoseO deepNowO brokenByO brokenAtO goesByO comesToO sagMoreO creakOfO wipedByO deepAtO sagAtO loadAtO orderRowO oftenO lossOneO lossOtherO vO tO mO gO)]) U.heap ∧ va_K (dC, dI) vwCl (tK k) U ∧ va_D (fun _ => True) (List.flatten [(wmHa qHa k hHa)] ++ List.flatten [(wMO qO k widthO manyO cellsO movedO tapeO linesO (qHa 0) bridgeO cartO wardO frostAtO actO isKeptO loadNowO byNowO rowO memoryO whoseO deepNowO brokenByO brokenAtO goesByO comesToO sagMoreO creakOfO wipedByO deepAtO sagAtO loadAtO orderRowO oftenO lossOneO lossOtherO vO tO mO gO)]))) (va_Qv (fun _ : Unit => True) (fun (_ : Unit) (t : State) => ∃ (hHa' : Nat → Nat → Int32), Pa_h hHa' ∧ va_P (dC, dI) vwCl (List.flatten [(wmHa qHa k hHa')] ++ List.flatten [(wMO qO k widthO manyO cellsO movedO tapeO linesO (qHa 0) bridgeO cartO wardO frostAtO actO isKeptO loadNowO byNowO rowO memoryO whoseO deepNowO brokenByO brokenAtO goesByO comesToO sagMoreO creakOfO wipedByO deepAtO sagAtO loadAtO orderRowO oftenO lossOneO lossOtherO vO tO mO gO)]) t.heap) (va_A (List.flatten [(wmHa qHa k hHa)] ++ List.flatten [(wMO qO k widthO manyO cellsO movedO tapeO linesO (qHa 0) bridgeO cartO wardO frostAtO actO isKeptO loadNowO byNowO rowO memoryO whoseO deepNowO brokenByO brokenAtO goesByO comesToO sagMoreO creakOfO wipedByO deepAtO sagAtO loadAtO orderRowO oftenO lossOneO lossOtherO vO tO mO gO)]) sz)) 0 0 (va_A (List.flatten [(wmHa qHa k hHa)] ++ List.flatten [(wMO qO k widthO manyO cellsO movedO tapeO linesO (qHa 0) bridgeO cartO wardO frostAtO actO isKeptO loadNowO byNowO rowO memoryO whoseO deepNowO brokenByO brokenAtO goesByO comesToO sagMoreO creakOfO wipedByO deepAtO sagAtO loadAtO orderRowO oftenO lossOneO lossOtherO vO tO mO gO)]) sz) := by
  refine Met.ofW (cc := cX12_tells) (maxL := 3) (ret := none) (by decide) rfl ?_
  intro p e s m args below meth c s₁ B hml hv
  obtain ⟨rfl, hsz, hP, hK, hD0⟩ := hv
  have hx := B.exec
  have hb := B.bytes
  have hr := B.returns
  have hts := atoms_spec (ws := wk_c_tells_6) B.pre
  have hown : s.vm.findClass RX12 = some m.cls := findClass_of_methodNamed B.named
  have hlocks := B.notSynchronized
  subst hsz
  have hD := hD0.self (sz := s.heap.size)
  generalize hAe : va_A (List.flatten [(wmHa qHa k hHa)] ++ List.flatten [(wMO qO k widthO manyO cellsO movedO tapeO linesO (qHa 0) bridgeO cartO wardO frostAtO actO isKeptO loadNowO byNowO rowO memoryO whoseO deepNowO brokenByO brokenAtO goesByO comesToO sagMoreO creakOfO wipedByO deepAtO sagAtO loadAtO orderRowO oftenO lossOneO lossOtherO vO tO mO gO)]) s.heap.size = A at hD ⊢
  have hA : ∀ q : Nat, s.heap.size ≤ q → A q := fun q h => by rw [← hAe]; exact Or.inr h
  have hS : va_S A s.heap s.heap [] := va_S.rf
  have hP : va_P (dC, dI) vwCl (List.flatten [(wmHa qHa k hHa)] ++ List.flatten [(wMO qO k widthO manyO cellsO movedO tapeO linesO (qHa 0) bridgeO cartO wardO frostAtO actO isKeptO loadNowO byNowO rowO memoryO whoseO deepNowO brokenByO brokenAtO goesByO comesToO sagMoreO creakOfO wipedByO deepAtO sagAtO loadAtO orderRowO oftenO lossOneO lossOtherO vO tO mO gO)]) s.heap := hP
  have hl := lv_entry ([.ref (qO 0), .int 6, .int p2]) (n := 3) (Nat.le_of_ble_eq_true rfl)
  rw [lg_entry_eq]
  generalize (lg_sl ([.ref (qO 0), .int 6, .int p2]) ++ List.replicate (3 - (lg_sl ([.ref (qO 0), .int 6, .int p2])).length) Slot.unset).toArray = ls at hl ⊢
  have hl : lv_has ls 3 [(0, .ref (qO 0)), (1, .int 6), (2, .int p2)] := hl
  refine w_gen (fun Q hQ => ?_)
  refine lv_aload_n hx hb dX12_tells_0 rfl (lv_at hl 0 rfl) ?_
  refine va_get (D := (dC, dI)) (ci := 12) (v := .ref (qHa 0)) (C := RX12) (T := TX12) (N := 59) hx hb hts (fun w h => List.mem_cons_of_mem _ (List.mem_append_right _ (List.mem_append_left _ h))) hown hK hP 1 rfl rfl 17 (by decide) (hts (.fieldLink RX12 34 "SagMemoryModel" "has" "[I") (wl_mem 0 rfl)) (fun _ h9 => h9) rfl dX12_tells_1 ?_
  refine lv_bipush (v := 32) hx hb dX12_tells_4 (by decide) ?_
  refine lv_iload_n hx hb dX12_tells_6 rfl (lv_at hl 1 rfl) ?_
  refine lv_iadd hx hb dX12_tells_7 ?_
  refine lv_topi (fun xz1 exz1 => ?_)
  obtain rfl : xz1 = 38 := exz1.trans (by decide)
  refine lv_iload_n hx hb dX12_tells_8 rfl (lv_at hl 2 rfl) ?_
  refine va_iast hx hb hK hP hD hS 0 0 rfl rfl (by unfold vp_in; decide) dX12_tells_9 (fun H locs hP hD hS => ?_)
  obtain ⟨fz2, efz2, hP, hD⟩ : ∃ fz2 : Nat → Int32, fz2 = upd (hHa 0) (38 : Int32).toNatClampNeg p2 ∧ va_P (dC, dI) vwCl (List.flatten [(wmHa qHa k (va_up hHa 0 fz2))] ++ List.flatten [(wMO qO k widthO manyO cellsO movedO tapeO linesO (qHa 0) bridgeO cartO wardO frostAtO actO isKeptO loadNowO byNowO rowO memoryO whoseO deepNowO brokenByO brokenAtO goesByO comesToO sagMoreO creakOfO wipedByO deepAtO sagAtO loadAtO orderRowO oftenO lossOneO lossOtherO vO tO mO gO)]) H ∧ va_D A (List.flatten [(wmHa qHa k (va_up hHa 0 fz2))] ++ List.flatten [(wMO qO k widthO manyO cellsO movedO tapeO linesO (qHa 0) bridgeO cartO wardO frostAtO actO isKeptO loadNowO byNowO rowO memoryO whoseO deepNowO brokenByO brokenAtO goesByO comesToO sagMoreO creakOfO wipedByO deepAtO sagAtO loadAtO orderRowO oftenO lossOneO lossOtherO vO tO mO gO)]) := ⟨_, rfl, hP, hD⟩
  have hfz2 : Pd_h fz2 := by rw [efz2]; exact ⟨md_upd (hhHa 0).1 (by show 0 ≤ (38 : Int); omega) (by show (38 : Int) % 8 = 3 → 0 ≤ p2.toInt ∧ p2.toInt ≤ 3; omega), md_upd (hhHa 0).2.1 (by show 0 ≤ (38 : Int); omega) (by show (38 : Int) % 8 = 4 → 0 ≤ p2.toInt ∧ p2.toInt ≤ 7; omega), md_upd (hhHa 0).2.2.1 (by show 0 ≤ (38 : Int); omega) (by show (38 : Int) % 8 = 5 → 0 ≤ p2.toInt ∧ p2.toInt ≤ 5; omega), md_upd (hhHa 0).2.2.2.1 (by show 0 ≤ (38 : Int); omega) (by show (38 : Int) % 8 = 6 → 0 ≤ p2.toInt ∧ p2.toInt ≤ 4; omega), md_upd (hhHa 0).2.2.2.2 (by show 0 ≤ (38 : Int); omega) (by show (38 : Int) % 8 = 7 → 0 ≤ p2.toInt ∧ p2.toInt ≤ 30; omega)⟩
  have kfz2 : fz2 (38 : Int32).toNatClampNeg = p2 := by rw [efz2]; exact pk_us
  rw [hQ]
  exact W.vret hx hb hr (fun t ht hW => ⟨⟨(), rfl, trivial, (va_up hHa 0 fz2), (pa_up_h hhHa hfz2), by rw [ht]; exact hP⟩, hS.F ht⟩) hS.2.2 dX12_tells_10
def wk_c_tells_7 : List Cond := .code yX12_tells cX12_tells 3 none :: ([.fieldLink RX12 34 "SagMemoryModel" "has" "[I"] ++ (wsX120 ++ []))
theorem wkg_c_tells_7 : wk_c_tells_7.all goodWord = true := by decide +kernel
set_option maxHeartbeats 4000000 in
set_option maxRecDepth 100000 in
theorem c_tells_7 (l : Launch) (dC : Nat → ClassId) (dI : Nat → Nat → Nat) (k : Nat → ClassId) (sz : Nat) (qO : Nat → Nat) (widthO : Nat) (manyO : Nat) (cellsO : Nat) (movedO : Nat) (tapeO : Nat) (linesO : Nat) (bridgeO : Nat) (cartO : Nat) (wardO : Nat) (frostAtO : Nat) (actO : Nat) (isKeptO : Nat) (loadNowO : Nat) (byNowO : Nat) (rowO : Nat) (memoryO : Nat) (whoseO : Nat) (deepNowO : Nat) (brokenByO : Nat) (brokenAtO : Nat) (goesByO : Nat) (comesToO : Nat) (sagMoreO : Nat) (creakOfO : Nat) (wipedByO : Nat) (deepAtO : Nat) (sagAtO : Nat) (loadAtO : Nat) (orderRowO : Nat) (oftenO : Nat) (lossOneO : Nat) (lossOtherO : Nat) (vO : Nat → Int32) (tO : Nat → Int32) (mO : Nat → Int32) (gO : Nat → Int64) (qHa : Nat → Nat) (hHa : Nat → Nat → Int32) (p2 : Int32) (htO : Rg 0 700 tO) (hmO : Rg (-1) 127 mO) (hhHa : Pa_h hHa) (hp0 : 0 ≤ p2.toInt ∧ p2.toInt ≤ 30) : Met l yX12_tells wk_c_tells_7 ({ frames := 0, cells := 0, slots := 0, locals := 0 }) (va_Pc [.ref (qO 0), .int 7, .int p2] (fun U => U.heap.size = sz ∧ va_P (dC, dI) vwCl (List.flatten [(wmHa qHa k hHa)] ++ List.flatten [(wMO qO k widthO manyO cellsO movedO tapeO linesO (qHa 0) bridgeO cartO wardO frostAtO actO isKeptO loadNowO byNowO rowO memoryO whoseO deepNowO brokenByO brokenAtO goesByO comesToO sagMoreO creakOfO wipedByO deepAtO sagAtO loadAtO orderRowO oftenO lossOneO lossOtherO vO tO mO gO)]) U.heap ∧ va_K (dC, dI) vwCl (tK k) U ∧ va_D (fun _ => True) (List.flatten [(wmHa qHa k hHa)] ++ List.flatten [(wMO qO k widthO manyO cellsO movedO tapeO linesO (qHa 0) bridgeO cartO wardO frostAtO actO isKeptO loadNowO byNowO rowO memoryO whoseO deepNowO brokenByO brokenAtO goesByO comesToO sagMoreO creakOfO wipedByO deepAtO sagAtO loadAtO orderRowO oftenO lossOneO lossOtherO vO tO mO gO)]))) (va_Qv (fun _ : Unit => True) (fun (_ : Unit) (t : State) => ∃ (hHa' : Nat → Nat → Int32), Pa_h hHa' ∧ va_P (dC, dI) vwCl (List.flatten [(wmHa qHa k hHa')] ++ List.flatten [(wMO qO k widthO manyO cellsO movedO tapeO linesO (qHa 0) bridgeO cartO wardO frostAtO actO isKeptO loadNowO byNowO rowO memoryO whoseO deepNowO brokenByO brokenAtO goesByO comesToO sagMoreO creakOfO wipedByO deepAtO sagAtO loadAtO orderRowO oftenO lossOneO lossOtherO vO tO mO gO)]) t.heap) (va_A (List.flatten [(wmHa qHa k hHa)] ++ List.flatten [(wMO qO k widthO manyO cellsO movedO tapeO linesO (qHa 0) bridgeO cartO wardO frostAtO actO isKeptO loadNowO byNowO rowO memoryO whoseO deepNowO brokenByO brokenAtO goesByO comesToO sagMoreO creakOfO wipedByO deepAtO sagAtO loadAtO orderRowO oftenO lossOneO lossOtherO vO tO mO gO)]) sz)) 0 0 (va_A (List.flatten [(wmHa qHa k hHa)] ++ List.flatten [(wMO qO k widthO manyO cellsO movedO tapeO linesO (qHa 0) bridgeO cartO wardO frostAtO actO isKeptO loadNowO byNowO rowO memoryO whoseO deepNowO brokenByO brokenAtO goesByO comesToO sagMoreO creakOfO wipedByO deepAtO sagAtO loadAtO orderRowO oftenO lossOneO lossOtherO vO tO mO gO)]) sz) := by
  refine Met.ofW (cc := cX12_tells) (maxL := 3) (ret := none) (by decide) rfl ?_
  intro p e s m args below meth c s₁ B hml hv
  obtain ⟨rfl, hsz, hP, hK, hD0⟩ := hv
  have hx := B.exec
  have hb := B.bytes
  have hr := B.returns
  have hts := atoms_spec (ws := wk_c_tells_7) B.pre
  have hown : s.vm.findClass RX12 = some m.cls := findClass_of_methodNamed B.named
  have hlocks := B.notSynchronized
  subst hsz
  have hD := hD0.self (sz := s.heap.size)
  generalize hAe : va_A (List.flatten [(wmHa qHa k hHa)] ++ List.flatten [(wMO qO k widthO manyO cellsO movedO tapeO linesO (qHa 0) bridgeO cartO wardO frostAtO actO isKeptO loadNowO byNowO rowO memoryO whoseO deepNowO brokenByO brokenAtO goesByO comesToO sagMoreO creakOfO wipedByO deepAtO sagAtO loadAtO orderRowO oftenO lossOneO lossOtherO vO tO mO gO)]) s.heap.size = A at hD ⊢
  have hA : ∀ q : Nat, s.heap.size ≤ q → A q := fun q h => by rw [← hAe]; exact Or.inr h
  have hS : va_S A s.heap s.heap [] := va_S.rf
  have hP : va_P (dC, dI) vwCl (List.flatten [(wmHa qHa k hHa)] ++ List.flatten [(wMO qO k widthO manyO cellsO movedO tapeO linesO (qHa 0) bridgeO cartO wardO frostAtO actO isKeptO loadNowO byNowO rowO memoryO whoseO deepNowO brokenByO brokenAtO goesByO comesToO sagMoreO creakOfO wipedByO deepAtO sagAtO loadAtO orderRowO oftenO lossOneO lossOtherO vO tO mO gO)]) s.heap := hP
  have hl := lv_entry ([.ref (qO 0), .int 7, .int p2]) (n := 3) (Nat.le_of_ble_eq_true rfl)
  rw [lg_entry_eq]
  generalize (lg_sl ([.ref (qO 0), .int 7, .int p2]) ++ List.replicate (3 - (lg_sl ([.ref (qO 0), .int 7, .int p2])).length) Slot.unset).toArray = ls at hl ⊢
  have hl : lv_has ls 3 [(0, .ref (qO 0)), (1, .int 7), (2, .int p2)] := hl
  refine w_gen (fun Q hQ => ?_)
  refine lv_aload_n hx hb dX12_tells_0 rfl (lv_at hl 0 rfl) ?_
  refine va_get (D := (dC, dI)) (ci := 12) (v := .ref (qHa 0)) (C := RX12) (T := TX12) (N := 59) hx hb hts (fun w h => List.mem_cons_of_mem _ (List.mem_append_right _ (List.mem_append_left _ h))) hown hK hP 1 rfl rfl 17 (by decide) (hts (.fieldLink RX12 34 "SagMemoryModel" "has" "[I") (wl_mem 0 rfl)) (fun _ h9 => h9) rfl dX12_tells_1 ?_
  refine lv_bipush (v := 32) hx hb dX12_tells_4 (by decide) ?_
  refine lv_iload_n hx hb dX12_tells_6 rfl (lv_at hl 1 rfl) ?_
  refine lv_iadd hx hb dX12_tells_7 ?_
  refine lv_topi (fun xz1 exz1 => ?_)
  obtain rfl : xz1 = 39 := exz1.trans (by decide)
  refine lv_iload_n hx hb dX12_tells_8 rfl (lv_at hl 2 rfl) ?_
  refine va_iast hx hb hK hP hD hS 0 0 rfl rfl (by unfold vp_in; decide) dX12_tells_9 (fun H locs hP hD hS => ?_)
  obtain ⟨fz2, efz2, hP, hD⟩ : ∃ fz2 : Nat → Int32, fz2 = upd (hHa 0) (39 : Int32).toNatClampNeg p2 ∧ va_P (dC, dI) vwCl (List.flatten [(wmHa qHa k (va_up hHa 0 fz2))] ++ List.flatten [(wMO qO k widthO manyO cellsO movedO tapeO linesO (qHa 0) bridgeO cartO wardO frostAtO actO isKeptO loadNowO byNowO rowO memoryO whoseO deepNowO brokenByO brokenAtO goesByO comesToO sagMoreO creakOfO wipedByO deepAtO sagAtO loadAtO orderRowO oftenO lossOneO lossOtherO vO tO mO gO)]) H ∧ va_D A (List.flatten [(wmHa qHa k (va_up hHa 0 fz2))] ++ List.flatten [(wMO qO k widthO manyO cellsO movedO tapeO linesO (qHa 0) bridgeO cartO wardO frostAtO actO isKeptO loadNowO byNowO rowO memoryO whoseO deepNowO brokenByO brokenAtO goesByO comesToO sagMoreO creakOfO wipedByO deepAtO sagAtO loadAtO orderRowO oftenO lossOneO lossOtherO vO tO mO gO)]) := ⟨_, rfl, hP, hD⟩
  have hfz2 : Pd_h fz2 := by rw [efz2]; exact ⟨md_upd (hhHa 0).1 (by show 0 ≤ (39 : Int); omega) (by show (39 : Int) % 8 = 3 → 0 ≤ p2.toInt ∧ p2.toInt ≤ 3; omega), md_upd (hhHa 0).2.1 (by show 0 ≤ (39 : Int); omega) (by show (39 : Int) % 8 = 4 → 0 ≤ p2.toInt ∧ p2.toInt ≤ 7; omega), md_upd (hhHa 0).2.2.1 (by show 0 ≤ (39 : Int); omega) (by show (39 : Int) % 8 = 5 → 0 ≤ p2.toInt ∧ p2.toInt ≤ 5; omega), md_upd (hhHa 0).2.2.2.1 (by show 0 ≤ (39 : Int); omega) (by show (39 : Int) % 8 = 6 → 0 ≤ p2.toInt ∧ p2.toInt ≤ 4; omega), md_upd (hhHa 0).2.2.2.2 (by show 0 ≤ (39 : Int); omega) (by show (39 : Int) % 8 = 7 → 0 ≤ p2.toInt ∧ p2.toInt ≤ 30; omega)⟩
  have kfz2 : fz2 (39 : Int32).toNatClampNeg = p2 := by rw [efz2]; exact pk_us
  rw [hQ]
  exact W.vret hx hb hr (fun t ht hW => ⟨⟨(), rfl, trivial, (va_up hHa 0 fz2), (pa_up_h hhHa hfz2), by rw [ht]; exact hP⟩, hS.F ht⟩) hS.2.2 dX12_tells_10
