def wk_c_X12_four : List Cond := .code yX12_four cX12_four 3 none :: ([.fieldLink RX12 23 "SagMemoryModel" "tape" "[B", .fieldLink RX12 133 "SagMemoryModel" "taped" "I"] ++ (wsX120 ++ []))
theorem wkg_c_X12_four : wk_c_X12_four.all goodWord = true := by decide +kernel
set_option maxHeartbeats 4000000 in
set_option maxRecDepth 100000 in
theorem c_X12_four (l : Launch) (dC : Nat → ClassId) (dI : Nat → Nat → Nat) (k : Nat → ClassId) (sz : Nat) (qO : Nat → Nat) (widthO : Nat) (manyO : Nat) (cellsO : Nat) (movedO : Nat) (linesO : Nat) (hasO : Nat) (bridgeO : Nat) (cartO : Nat) (wardO : Nat) (frostAtO : Nat) (actO : Nat) (isKeptO : Nat) (loadNowO : Nat) (byNowO : Nat) (rowO : Nat) (memoryO : Nat) (whoseO : Nat) (deepNowO : Nat) (brokenByO : Nat) (brokenAtO : Nat) (goesByO : Nat) (comesToO : Nat) (sagMoreO : Nat) (creakOfO : Nat) (wipedByO : Nat) (deepAtO : Nat) (sagAtO : Nat) (loadAtO : Nat) (orderRowO : Nat) (oftenO : Nat) (lossOneO : Nat) (lossOtherO : Nat) (vO : Nat → Int32) (tO : Nat → Int32) (mO : Nat → Int32) (gO : Nat → Int64) (qTa : Nat → Nat) (aTa : Nat → Nat → Int32) (p1 : Int32) (htO : Rg 0 700 tO) (hmO : Rg (-1) 127 mO) (hp0 : (tO 0).toInt ≤ 696) : Met l yX12_four wk_c_X12_four ({ frames := 0, cells := 0, slots := 0, locals := 0 }) (va_Pc [.ref (qO 0), .int p1] (fun U => U.heap.size = sz ∧ va_P (dC, dI) vwCl (List.flatten [(wMO qO k widthO manyO cellsO movedO (qTa 0) linesO hasO bridgeO cartO wardO frostAtO actO isKeptO loadNowO byNowO rowO memoryO whoseO deepNowO brokenByO brokenAtO goesByO comesToO sagMoreO creakOfO wipedByO deepAtO sagAtO loadAtO orderRowO oftenO lossOneO lossOtherO vO tO mO gO), (wmTa qTa k aTa)] ++ List.flatten ([] : List va_W)) U.heap ∧ va_K (dC, dI) vwCl (tK k) U ∧ va_D (fun _ => True) (List.flatten [(wMO qO k widthO manyO cellsO movedO (qTa 0) linesO hasO bridgeO cartO wardO frostAtO actO isKeptO loadNowO byNowO rowO memoryO whoseO deepNowO brokenByO brokenAtO goesByO comesToO sagMoreO creakOfO wipedByO deepAtO sagAtO loadAtO orderRowO oftenO lossOneO lossOtherO vO tO mO gO), (wmTa qTa k aTa)] ++ List.flatten ([] : List va_W)))) (va_Qv (fun _ : Unit => True) (fun (_ : Unit) (t : State) => ∃ (vO' : Nat → Int32) (tO' : Nat → Int32) (mO' : Nat → Int32) (gO' : Nat → Int64) (aTa' : Nat → Nat → Int32), Rg 0 700 tO' ∧ Rg (-1) 127 mO' ∧ ((tO' 0).toInt = (tO 0).toInt + 4) ∧ va_P (dC, dI) vwCl (List.flatten [(wMO qO k widthO manyO cellsO movedO (qTa 0) linesO hasO bridgeO cartO wardO frostAtO actO isKeptO loadNowO byNowO rowO memoryO whoseO deepNowO brokenByO brokenAtO goesByO comesToO sagMoreO creakOfO wipedByO deepAtO sagAtO loadAtO orderRowO oftenO lossOneO lossOtherO vO' tO' mO' gO'), (wmTa qTa k aTa')] ++ List.flatten ([] : List va_W)) t.heap) (va_A (List.flatten [(wMO qO k widthO manyO cellsO movedO (qTa 0) linesO hasO bridgeO cartO wardO frostAtO actO isKeptO loadNowO byNowO rowO memoryO whoseO deepNowO brokenByO brokenAtO goesByO comesToO sagMoreO creakOfO wipedByO deepAtO sagAtO loadAtO orderRowO oftenO lossOneO lossOtherO vO tO mO gO), (wmTa qTa k aTa)] ++ List.flatten ([] : List va_W)) sz)) 0 0 (va_A (List.flatten [(wMO qO k widthO manyO cellsO movedO (qTa 0) linesO hasO bridgeO cartO wardO frostAtO actO isKeptO loadNowO byNowO rowO memoryO whoseO deepNowO brokenByO brokenAtO goesByO comesToO sagMoreO creakOfO wipedByO deepAtO sagAtO loadAtO orderRowO oftenO lossOneO lossOtherO vO tO mO gO), (wmTa qTa k aTa)] ++ List.flatten ([] : List va_W)) sz) := by
  refine Met.ofW (cc := cX12_four) (maxL := 3) (ret := none) (by decide) rfl ?_
  intro p e s m args below meth c s₁ B hml hv
  obtain ⟨rfl, hsz, hP, hK, hD0⟩ := hv
  have hx := B.exec
  have hb := B.bytes
  have hr := B.returns
  have hts := atoms_spec (ws := wk_c_X12_four) B.pre
  have hown : s.vm.findClass RX12 = some m.cls := findClass_of_methodNamed B.named
  have hlocks := B.notSynchronized
  subst hsz
  have hD := hD0.self (sz := s.heap.size)
  generalize hAe : va_A (List.flatten [(wMO qO k widthO manyO cellsO movedO (qTa 0) linesO hasO bridgeO cartO wardO frostAtO actO isKeptO loadNowO byNowO rowO memoryO whoseO deepNowO brokenByO brokenAtO goesByO comesToO sagMoreO creakOfO wipedByO deepAtO sagAtO loadAtO orderRowO oftenO lossOneO lossOtherO vO tO mO gO), (wmTa qTa k aTa)] ++ List.flatten ([] : List va_W)) s.heap.size = A at hD ⊢
  have hA : ∀ q : Nat, s.heap.size ≤ q → A q := fun q h => by rw [← hAe]; exact Or.inr h
  have hS : va_S A s.heap s.heap [] := va_S.rf
  have hP : va_P (dC, dI) vwCl (List.flatten [(wMO qO k widthO manyO cellsO movedO (qTa 0) linesO hasO bridgeO cartO wardO frostAtO actO isKeptO loadNowO byNowO rowO memoryO whoseO deepNowO brokenByO brokenAtO goesByO comesToO sagMoreO creakOfO wipedByO deepAtO sagAtO loadAtO orderRowO oftenO lossOneO lossOtherO vO tO mO gO), (wmTa qTa k aTa)] ++ List.flatten ([] : List va_W)) s.heap := hP
  have hl := lv_entry ([.ref (qO 0), .int p1]) (n := 3) (Nat.le_of_ble_eq_true rfl)
  rw [lg_entry_eq]
  generalize (lg_sl ([.ref (qO 0), .int p1]) ++ List.replicate (3 - (lg_sl ([.ref (qO 0), .int p1])).length) Slot.unset).toArray = ls at hl ⊢
  have hl : lv_has ls 3 [(0, .ref (qO 0)), (1, .int p1)] := hl
  refine w_gen (fun Q hQ => ?_)
  refine lv_bipush (v := 24) hx hb dX12_four_0 (by decide) ?_
  refine lv_istore_n (lv' := [(2, .int 24), (0, .ref (qO 0)), (1, .int p1)]) hx hb dX12_four_2 rfl hl (by decide) rfl (fun ls hl => ?_)
  refine lv_iload_n hx hb dX12_four_3 rfl (lv_at hl 0 rfl) ?_
  refine lv_if_lt (tgt := 36) hx hb dX12_four_4 (by decide) (fun cz1 => ?_) (fun cz1 => ?_)
  · skip
    exact absurd cz1 (by decide)
  · skip
    refine lv_aload_n hx hb dX12_four_7 rfl (lv_at hl 1 rfl) ?_
    refine va_get (D := (dC, dI)) (ci := 12) (v := .ref (qTa 0)) (C := RX12) (T := TX12) (N := 59) hx hb hts (fun w h => List.mem_cons_of_mem _ (List.mem_append_right _ (List.mem_append_left _ h))) hown hK hP 0 rfl rfl 5 (by decide) (hts (.fieldLink RX12 23 "SagMemoryModel" "tape" "[B") (wl_mem 0 rfl)) (fun _ h9 => h9) rfl dX12_four_8 ?_
    refine lv_aload_n hx hb dX12_four_11 rfl (lv_at hl 1 rfl) ?_
    refine va_get (D := (dC, dI)) (ci := 12) (v := .int (tO 0)) (C := RX12) (T := TX12) (N := 59) hx hb hts (fun w h => List.mem_cons_of_mem _ (List.mem_append_right _ (List.mem_append_left _ h))) hown hK hP 0 rfl rfl 6 (by decide) (hts (.fieldLink RX12 133 "SagMemoryModel" "taped" "I") (wl_mem 1 rfl)) (fun _ h9 => h9) rfl dX12_four_12 ?_
    have bz2 := htO 0
    refine lv_iload_n hx hb dX12_four_15 rfl (lv_at hl 2 rfl) ?_
    refine lv_iload_n hx hb dX12_four_16 rfl (lv_at hl 0 rfl) ?_
    refine lv_ishr hx hb dX12_four_17 ?_
    refine lv_topi (fun xz3 exz3 => ?_)
    refine lv_i2b hx hb dX12_four_18 rfl ?_
    refine lv_topi (fun xz4 exz4 => ?_)
    refine va_bast hx hb hK hP hD hS 1 2 rfl rfl (vp_in_iff.mpr ⟨by omega, by omega⟩) dX12_four_19 (fun H locs hP hD hS => ?_)
    obtain ⟨fz5, efz5, hP, hD⟩ : ∃ fz5 : Nat → Int32, fz5 = upd (aTa 0) (tO 0).toNatClampNeg (vp_nar .byte xz4) ∧ va_P (dC, dI) vwCl (List.flatten [(wMO qO k widthO manyO cellsO movedO (qTa 0) linesO hasO bridgeO cartO wardO frostAtO actO isKeptO loadNowO byNowO rowO memoryO whoseO deepNowO brokenByO brokenAtO goesByO comesToO sagMoreO creakOfO wipedByO deepAtO sagAtO loadAtO orderRowO oftenO lossOneO lossOtherO vO tO mO gO), (wmTa qTa k (va_up aTa 0 fz5))] ++ List.flatten ([] : List va_W)) H ∧ va_D A (List.flatten [(wMO qO k widthO manyO cellsO movedO (qTa 0) linesO hasO bridgeO cartO wardO frostAtO actO isKeptO loadNowO byNowO rowO memoryO whoseO deepNowO brokenByO brokenAtO goesByO comesToO sagMoreO creakOfO wipedByO deepAtO sagAtO loadAtO orderRowO oftenO lossOneO lossOtherO vO tO mO gO), (wmTa qTa k (va_up aTa 0 fz5))] ++ List.flatten ([] : List va_W)) := ⟨_, rfl, hP, hD⟩
    refine lv_aload_n hx hb dX12_four_20 rfl (lv_at hl 1 rfl) ?_
    refine lv_dup hx hb dX12_four_21 rfl ?_
    refine va_get (D := (dC, dI)) (ci := 12) (v := .int (tO 0)) (C := RX12) (T := TX12) (N := 59) hx hb hts (fun w h => List.mem_cons_of_mem _ (List.mem_append_right _ (List.mem_append_left _ h))) hown hK hP 0 rfl rfl 6 (by decide) (hts (.fieldLink RX12 133 "SagMemoryModel" "taped" "I") (wl_mem 1 rfl)) (fun _ h9 => h9) rfl dX12_four_22 ?_
    refine lv_iconst (v := 1) hx hb dX12_four_25 (by decide) ?_
    refine lv_iadd hx hb dX12_four_26 ?_
    refine lv_topi (fun xz6 exz6 => ?_)
    have fxz6 : xz6.toInt = (tO 0).toInt + (1 : Int) := by rw [exz6]; exact fb_addI (x := (tO 0)) (y := (1 : Int32)) (by show -2147483648 ≤ (tO 0).toInt + (1 : Int); omega) (by show (tO 0).toInt + (1 : Int) < 2147483648; omega)
    refine va_put (D := (dC, dI)) (ci := 12) (v := .int xz6) (ty := .int) (C := RX12) (T := TX12) (N := 59) hx hb hts (fun w h => List.mem_cons_of_mem _ (List.mem_append_right _ (List.mem_append_left _ h))) tyX12 tyX12_ok nmX12 hown hK hP hD hS 0 rfl rfl 6 (by decide) (hts (.fieldLink RX12 133 "SagMemoryModel" "taped" "I") (wl_mem 1 rfl)) (fun _ h9 => h9) rfl (by decide +kernel) rfl rfl (Nat.le_of_ble_eq_true rfl) dX12_four_27 (fun H locs hP hD hS => ?_)
    have hP : va_P (dC, dI) vwCl (List.flatten [(wMO qO k widthO manyO cellsO movedO (qTa 0) linesO hasO bridgeO cartO wardO frostAtO actO isKeptO loadNowO byNowO rowO memoryO whoseO deepNowO brokenByO brokenAtO goesByO comesToO sagMoreO creakOfO wipedByO deepAtO sagAtO loadAtO orderRowO oftenO lossOneO lossOtherO vO (va_up tO 0 xz6) mO gO), (wmTa qTa k (va_up aTa 0 fz5))] ++ List.flatten ([] : List va_W)) H := hP
    have hD : va_D A (List.flatten [(wMO qO k widthO manyO cellsO movedO (qTa 0) linesO hasO bridgeO cartO wardO frostAtO actO isKeptO loadNowO byNowO rowO memoryO whoseO deepNowO brokenByO brokenAtO goesByO comesToO sagMoreO creakOfO wipedByO deepAtO sagAtO loadAtO orderRowO oftenO lossOneO lossOtherO vO (va_up tO 0 xz6) mO gO), (wmTa qTa k (va_up aTa 0 fz5))] ++ List.flatten ([] : List va_W)) := hD
    refine lv_iinc (v := 16) (lv' := [(2, .int 16), (0, .ref (qO 0)), (1, .int p1)]) hx hb dX12_four_30 hl (k := 0) rfl (by decide) (by decide) rfl (fun ls hl => ?_)
    refine lv_goto (tgt := 3) hx hb dX12_four_33 (by decide) ?_
    refine lv_iload_n hx hb dX12_four_3 rfl (lv_at hl 0 rfl) ?_
    refine lv_if_lt (tgt := 36) hx hb dX12_four_4 (by decide) (fun cz7 => ?_) (fun cz7 => ?_)
    · skip
      exact absurd cz7 (by decide)
    · skip
      refine lv_aload_n hx hb dX12_four_7 rfl (lv_at hl 1 rfl) ?_
      refine va_get (D := (dC, dI)) (ci := 12) (v := .ref (qTa 0)) (C := RX12) (T := TX12) (N := 59) hx hb hts (fun w h => List.mem_cons_of_mem _ (List.mem_append_right _ (List.mem_append_left _ h))) hown hK hP 0 rfl rfl 5 (by decide) (hts (.fieldLink RX12 23 "SagMemoryModel" "tape" "[B") (wl_mem 0 rfl)) (fun _ h9 => h9) rfl dX12_four_8 ?_
      refine lv_aload_n hx hb dX12_four_11 rfl (lv_at hl 1 rfl) ?_
      refine va_get (D := (dC, dI)) (ci := 12) (v := .int xz6) (C := RX12) (T := TX12) (N := 59) hx hb hts (fun w h => List.mem_cons_of_mem _ (List.mem_append_right _ (List.mem_append_left _ h))) hown hK hP 0 rfl rfl 6 (by decide) (hts (.fieldLink RX12 133 "SagMemoryModel" "taped" "I") (wl_mem 1 rfl)) (fun _ h9 => h9) rfl dX12_four_12 ?_
      refine lv_iload_n hx hb dX12_four_15 rfl (lv_at hl 2 rfl) ?_
      refine lv_iload_n hx hb dX12_four_16 rfl (lv_at hl 0 rfl) ?_
      refine lv_ishr hx hb dX12_four_17 ?_
      refine lv_topi (fun xz8 exz8 => ?_)
      refine lv_i2b hx hb dX12_four_18 rfl ?_
      refine lv_topi (fun xz9 exz9 => ?_)
      refine va_bast hx hb hK hP hD hS 1 2 rfl rfl (vp_in_iff.mpr ⟨by omega, by omega⟩) dX12_four_19 (fun H locs hP hD hS => ?_)
      obtain ⟨fz10, efz10, hP, hD⟩ : ∃ fz10 : Nat → Int32, fz10 = upd fz5 xz6.toNatClampNeg (vp_nar .byte xz9) ∧ va_P (dC, dI) vwCl (List.flatten [(wMO qO k widthO manyO cellsO movedO (qTa 0) linesO hasO bridgeO cartO wardO frostAtO actO isKeptO loadNowO byNowO rowO memoryO whoseO deepNowO brokenByO brokenAtO goesByO comesToO sagMoreO creakOfO wipedByO deepAtO sagAtO loadAtO orderRowO oftenO lossOneO lossOtherO vO (va_up tO 0 xz6) mO gO), (wmTa qTa k (va_up aTa 0 fz10))] ++ List.flatten ([] : List va_W)) H ∧ va_D A (List.flatten [(wMO qO k widthO manyO cellsO movedO (qTa 0) linesO hasO bridgeO cartO wardO frostAtO actO isKeptO loadNowO byNowO rowO memoryO whoseO deepNowO brokenByO brokenAtO goesByO comesToO sagMoreO creakOfO wipedByO deepAtO sagAtO loadAtO orderRowO oftenO lossOneO lossOtherO vO (va_up tO 0 xz6) mO gO), (wmTa qTa k (va_up aTa 0 fz10))] ++ List.flatten ([] : List va_W)) := ⟨_, rfl, hP, hD⟩
      refine lv_aload_n hx hb dX12_four_20 rfl (lv_at hl 1 rfl) ?_
      refine lv_dup hx hb dX12_four_21 rfl ?_
      refine va_get (D := (dC, dI)) (ci := 12) (v := .int xz6) (C := RX12) (T := TX12) (N := 59) hx hb hts (fun w h => List.mem_cons_of_mem _ (List.mem_append_right _ (List.mem_append_left _ h))) hown hK hP 0 rfl rfl 6 (by decide) (hts (.fieldLink RX12 133 "SagMemoryModel" "taped" "I") (wl_mem 1 rfl)) (fun _ h9 => h9) rfl dX12_four_22 ?_
      refine lv_iconst (v := 1) hx hb dX12_four_25 (by decide) ?_
      refine lv_iadd hx hb dX12_four_26 ?_
      refine lv_topi (fun xz11 exz11 => ?_)
      have fxz11 : xz11.toInt = xz6.toInt + (1 : Int) := by rw [exz11]; exact fb_addI (x := xz6) (y := (1 : Int32)) (by show -2147483648 ≤ xz6.toInt + (1 : Int); omega) (by show xz6.toInt + (1 : Int) < 2147483648; omega)
      refine va_put (D := (dC, dI)) (ci := 12) (v := .int xz11) (ty := .int) (C := RX12) (T := TX12) (N := 59) hx hb hts (fun w h => List.mem_cons_of_mem _ (List.mem_append_right _ (List.mem_append_left _ h))) tyX12 tyX12_ok nmX12 hown hK hP hD hS 0 rfl rfl 6 (by decide) (hts (.fieldLink RX12 133 "SagMemoryModel" "taped" "I") (wl_mem 1 rfl)) (fun _ h9 => h9) rfl (by decide +kernel) rfl rfl (Nat.le_of_ble_eq_true rfl) dX12_four_27 (fun H locs hP hD hS => ?_)
      have hP : va_P (dC, dI) vwCl (List.flatten [(wMO qO k widthO manyO cellsO movedO (qTa 0) linesO hasO bridgeO cartO wardO frostAtO actO isKeptO loadNowO byNowO rowO memoryO whoseO deepNowO brokenByO brokenAtO goesByO comesToO sagMoreO creakOfO wipedByO deepAtO sagAtO loadAtO orderRowO oftenO lossOneO lossOtherO vO (va_up tO 0 xz11) mO gO), (wmTa qTa k (va_up aTa 0 fz10))] ++ List.flatten ([] : List va_W)) H := hP
      have hD : va_D A (List.flatten [(wMO qO k widthO manyO cellsO movedO (qTa 0) linesO hasO bridgeO cartO wardO frostAtO actO isKeptO loadNowO byNowO rowO memoryO whoseO deepNowO brokenByO brokenAtO goesByO comesToO sagMoreO creakOfO wipedByO deepAtO sagAtO loadAtO orderRowO oftenO lossOneO lossOtherO vO (va_up tO 0 xz11) mO gO), (wmTa qTa k (va_up aTa 0 fz10))] ++ List.flatten ([] : List va_W)) := hD
      refine lv_iinc (v := 8) (lv' := [(2, .int 8), (0, .ref (qO 0)), (1, .int p1)]) hx hb dX12_four_30 hl (k := 0) rfl (by decide) (by decide) rfl (fun ls hl => ?_)
      refine lv_goto (tgt := 3) hx hb dX12_four_33 (by decide) ?_
      refine lv_iload_n hx hb dX12_four_3 rfl (lv_at hl 0 rfl) ?_
      refine lv_if_lt (tgt := 36) hx hb dX12_four_4 (by decide) (fun cz12 => ?_) (fun cz12 => ?_)
      · skip
        exact absurd cz12 (by decide)
      · skip
        refine lv_aload_n hx hb dX12_four_7 rfl (lv_at hl 1 rfl) ?_
        refine va_get (D := (dC, dI)) (ci := 12) (v := .ref (qTa 0)) (C := RX12) (T := TX12) (N := 59) hx hb hts (fun w h => List.mem_cons_of_mem _ (List.mem_append_right _ (List.mem_append_left _ h))) hown hK hP 0 rfl rfl 5 (by decide) (hts (.fieldLink RX12 23 "SagMemoryModel" "tape" "[B") (wl_mem 0 rfl)) (fun _ h9 => h9) rfl dX12_four_8 ?_
        refine lv_aload_n hx hb dX12_four_11 rfl (lv_at hl 1 rfl) ?_
        refine va_get (D := (dC, dI)) (ci := 12) (v := .int xz11) (C := RX12) (T := TX12) (N := 59) hx hb hts (fun w h => List.mem_cons_of_mem _ (List.mem_append_right _ (List.mem_append_left _ h))) hown hK hP 0 rfl rfl 6 (by decide) (hts (.fieldLink RX12 133 "SagMemoryModel" "taped" "I") (wl_mem 1 rfl)) (fun _ h9 => h9) rfl dX12_four_12 ?_
        refine lv_iload_n hx hb dX12_four_15 rfl (lv_at hl 2 rfl) ?_
        refine lv_iload_n hx hb dX12_four_16 rfl (lv_at hl 0 rfl) ?_
        refine lv_ishr hx hb dX12_four_17 ?_
        refine lv_topi (fun xz13 exz13 => ?_)
        refine lv_i2b hx hb dX12_four_18 rfl ?_
        refine lv_topi (fun xz14 exz14 => ?_)
        refine va_bast hx hb hK hP hD hS 1 2 rfl rfl (vp_in_iff.mpr ⟨by omega, by omega⟩) dX12_four_19 (fun H locs hP hD hS => ?_)
        obtain ⟨fz15, efz15, hP, hD⟩ : ∃ fz15 : Nat → Int32, fz15 = upd fz10 xz11.toNatClampNeg (vp_nar .byte xz14) ∧ va_P (dC, dI) vwCl (List.flatten [(wMO qO k widthO manyO cellsO movedO (qTa 0) linesO hasO bridgeO cartO wardO frostAtO actO isKeptO loadNowO byNowO rowO memoryO whoseO deepNowO brokenByO brokenAtO goesByO comesToO sagMoreO creakOfO wipedByO deepAtO sagAtO loadAtO orderRowO oftenO lossOneO lossOtherO vO (va_up tO 0 xz11) mO gO), (wmTa qTa k (va_up aTa 0 fz15))] ++ List.flatten ([] : List va_W)) H ∧ va_D A (List.flatten [(wMO qO k widthO manyO cellsO movedO (qTa 0) linesO hasO bridgeO cartO wardO frostAtO actO isKeptO loadNowO byNowO rowO memoryO whoseO deepNowO brokenByO brokenAtO goesByO comesToO sagMoreO creakOfO wipedByO deepAtO sagAtO loadAtO orderRowO oftenO lossOneO lossOtherO vO (va_up tO 0 xz11) mO gO), (wmTa qTa k (va_up aTa 0 fz15))] ++ List.flatten ([] : List va_W)) := ⟨_, rfl, hP, hD⟩
        refine lv_aload_n hx hb dX12_four_20 rfl (lv_at hl 1 rfl) ?_
        refine lv_dup hx hb dX12_four_21 rfl ?_
        refine va_get (D := (dC, dI)) (ci := 12) (v := .int xz11) (C := RX12) (T := TX12) (N := 59) hx hb hts (fun w h => List.mem_cons_of_mem _ (List.mem_append_right _ (List.mem_append_left _ h))) hown hK hP 0 rfl rfl 6 (by decide) (hts (.fieldLink RX12 133 "SagMemoryModel" "taped" "I") (wl_mem 1 rfl)) (fun _ h9 => h9) rfl dX12_four_22 ?_
        refine lv_iconst (v := 1) hx hb dX12_four_25 (by decide) ?_
        refine lv_iadd hx hb dX12_four_26 ?_
        refine lv_topi (fun xz16 exz16 => ?_)
        have fxz16 : xz16.toInt = xz11.toInt + (1 : Int) := by rw [exz16]; exact fb_addI (x := xz11) (y := (1 : Int32)) (by show -2147483648 ≤ xz11.toInt + (1 : Int); omega) (by show xz11.toInt + (1 : Int) < 2147483648; omega)
        refine va_put (D := (dC, dI)) (ci := 12) (v := .int xz16) (ty := .int) (C := RX12) (T := TX12) (N := 59) hx hb hts (fun w h => List.mem_cons_of_mem _ (List.mem_append_right _ (List.mem_append_left _ h))) tyX12 tyX12_ok nmX12 hown hK hP hD hS 0 rfl rfl 6 (by decide) (hts (.fieldLink RX12 133 "SagMemoryModel" "taped" "I") (wl_mem 1 rfl)) (fun _ h9 => h9) rfl (by decide +kernel) rfl rfl (Nat.le_of_ble_eq_true rfl) dX12_four_27 (fun H locs hP hD hS => ?_)
        have hP : va_P (dC, dI) vwCl (List.flatten [(wMO qO k widthO manyO cellsO movedO (qTa 0) linesO hasO bridgeO cartO wardO frostAtO actO isKeptO loadNowO byNowO rowO memoryO whoseO deepNowO brokenByO brokenAtO goesByO comesToO sagMoreO creakOfO wipedByO deepAtO sagAtO loadAtO orderRowO oftenO lossOneO lossOtherO vO (va_up tO 0 xz16) mO gO), (wmTa qTa k (va_up aTa 0 fz15))] ++ List.flatten ([] : List va_W)) H := hP
        have hD : va_D A (List.flatten [(wMO qO k widthO manyO cellsO movedO (qTa 0) linesO hasO bridgeO cartO wardO frostAtO actO isKeptO loadNowO byNowO rowO memoryO whoseO deepNowO brokenByO brokenAtO goesByO comesToO sagMoreO creakOfO wipedByO deepAtO sagAtO loadAtO orderRowO oftenO lossOneO lossOtherO vO (va_up tO 0 xz16) mO gO), (wmTa qTa k (va_up aTa 0 fz15))] ++ List.flatten ([] : List va_W)) := hD
        refine lv_iinc (v := 0) (lv' := [(2, .int 0), (0, .ref (qO 0)), (1, .int p1)]) hx hb dX12_four_30 hl (k := 0) rfl (by decide) (by decide) rfl (fun ls hl => ?_)
        refine lv_goto (tgt := 3) hx hb dX12_four_33 (by decide) ?_
        refine lv_iload_n hx hb dX12_four_3 rfl (lv_at hl 0 rfl) ?_
        refine lv_if_lt (tgt := 36) hx hb dX12_four_4 (by decide) (fun cz17 => ?_) (fun cz17 => ?_)
        · skip
          exact absurd cz17 (by decide)
        · skip
          refine lv_aload_n hx hb dX12_four_7 rfl (lv_at hl 1 rfl) ?_
          refine va_get (D := (dC, dI)) (ci := 12) (v := .ref (qTa 0)) (C := RX12) (T := TX12) (N := 59) hx hb hts (fun w h => List.mem_cons_of_mem _ (List.mem_append_right _ (List.mem_append_left _ h))) hown hK hP 0 rfl rfl 5 (by decide) (hts (.fieldLink RX12 23 "SagMemoryModel" "tape" "[B") (wl_mem 0 rfl)) (fun _ h9 => h9) rfl dX12_four_8 ?_
          refine lv_aload_n hx hb dX12_four_11 rfl (lv_at hl 1 rfl) ?_
          refine va_get (D := (dC, dI)) (ci := 12) (v := .int xz16) (C := RX12) (T := TX12) (N := 59) hx hb hts (fun w h => List.mem_cons_of_mem _ (List.mem_append_right _ (List.mem_append_left _ h))) hown hK hP 0 rfl rfl 6 (by decide) (hts (.fieldLink RX12 133 "SagMemoryModel" "taped" "I") (wl_mem 1 rfl)) (fun _ h9 => h9) rfl dX12_four_12 ?_
          refine lv_iload_n hx hb dX12_four_15 rfl (lv_at hl 2 rfl) ?_
          refine lv_iload_n hx hb dX12_four_16 rfl (lv_at hl 0 rfl) ?_
          refine lv_ishr hx hb dX12_four_17 ?_
          refine lv_topi (fun xz18 exz18 => ?_)
          obtain rfl : p1 = xz18 := (exz18.trans (sb_shr0 _)).symm
          refine lv_i2b hx hb dX12_four_18 rfl ?_
          refine lv_topi (fun xz19 exz19 => ?_)
          refine va_bast hx hb hK hP hD hS 1 2 rfl rfl (vp_in_iff.mpr ⟨by omega, by omega⟩) dX12_four_19 (fun H locs hP hD hS => ?_)
          obtain ⟨fz20, efz20, hP, hD⟩ : ∃ fz20 : Nat → Int32, fz20 = upd fz15 xz16.toNatClampNeg (vp_nar .byte xz19) ∧ va_P (dC, dI) vwCl (List.flatten [(wMO qO k widthO manyO cellsO movedO (qTa 0) linesO hasO bridgeO cartO wardO frostAtO actO isKeptO loadNowO byNowO rowO memoryO whoseO deepNowO brokenByO brokenAtO goesByO comesToO sagMoreO creakOfO wipedByO deepAtO sagAtO loadAtO orderRowO oftenO lossOneO lossOtherO vO (va_up tO 0 xz16) mO gO), (wmTa qTa k (va_up aTa 0 fz20))] ++ List.flatten ([] : List va_W)) H ∧ va_D A (List.flatten [(wMO qO k widthO manyO cellsO movedO (qTa 0) linesO hasO bridgeO cartO wardO frostAtO actO isKeptO loadNowO byNowO rowO memoryO whoseO deepNowO brokenByO brokenAtO goesByO comesToO sagMoreO creakOfO wipedByO deepAtO sagAtO loadAtO orderRowO oftenO lossOneO lossOtherO vO (va_up tO 0 xz16) mO gO), (wmTa qTa k (va_up aTa 0 fz20))] ++ List.flatten ([] : List va_W)) := ⟨_, rfl, hP, hD⟩
          refine lv_aload_n hx hb dX12_four_20 rfl (lv_at hl 1 rfl) ?_
          refine lv_dup hx hb dX12_four_21 rfl ?_
          refine va_get (D := (dC, dI)) (ci := 12) (v := .int xz16) (C := RX12) (T := TX12) (N := 59) hx hb hts (fun w h => List.mem_cons_of_mem _ (List.mem_append_right _ (List.mem_append_left _ h))) hown hK hP 0 rfl rfl 6 (by decide) (hts (.fieldLink RX12 133 "SagMemoryModel" "taped" "I") (wl_mem 1 rfl)) (fun _ h9 => h9) rfl dX12_four_22 ?_
          refine lv_iconst (v := 1) hx hb dX12_four_25 (by decide) ?_
          refine lv_iadd hx hb dX12_four_26 ?_
          refine lv_topi (fun xz21 exz21 => ?_)
          have fxz21 : xz21.toInt = xz16.toInt + (1 : Int) := by rw [exz21]; exact fb_addI (x := xz16) (y := (1 : Int32)) (by show -2147483648 ≤ xz16.toInt + (1 : Int); omega) (by show xz16.toInt + (1 : Int) < 2147483648; omega)
          refine va_put (D := (dC, dI)) (ci := 12) (v := .int xz21) (ty := .int) (C := RX12) (T := TX12) (N := 59) hx hb hts (fun w h => List.mem_cons_of_mem _ (List.mem_append_right _ (List.mem_append_left _ h))) tyX12 tyX12_ok nmX12 hown hK hP hD hS 0 rfl rfl 6 (by decide) (hts (.fieldLink RX12 133 "SagMemoryModel" "taped" "I") (wl_mem 1 rfl)) (fun _ h9 => h9) rfl (by decide +kernel) rfl rfl (Nat.le_of_ble_eq_true rfl) dX12_four_27 (fun H locs hP hD hS => ?_)
          have hP : va_P (dC, dI) vwCl (List.flatten [(wMO qO k widthO manyO cellsO movedO (qTa 0) linesO hasO bridgeO cartO wardO frostAtO actO isKeptO loadNowO byNowO rowO memoryO whoseO deepNowO brokenByO brokenAtO goesByO comesToO sagMoreO creakOfO wipedByO deepAtO sagAtO loadAtO orderRowO oftenO lossOneO lossOtherO vO (va_up tO 0 xz21) mO gO), (wmTa qTa k (va_up aTa 0 fz20))] ++ List.flatten ([] : List va_W)) H := hP
          have hD : va_D A (List.flatten [(wMO qO k widthO manyO cellsO movedO (qTa 0) linesO hasO bridgeO cartO wardO frostAtO actO isKeptO loadNowO byNowO rowO memoryO whoseO deepNowO brokenByO brokenAtO goesByO comesToO sagMoreO creakOfO wipedByO deepAtO sagAtO loadAtO orderRowO oftenO lossOneO lossOtherO vO (va_up tO 0 xz21) mO gO), (wmTa qTa k (va_up aTa 0 fz20))] ++ List.flatten ([] : List va_W)) := hD
          refine lv_iinc (v := (-8)) (lv' := [(2, .int (-8)), (0, .ref (qO 0)), (1, .int p1)]) hx hb dX12_four_30 hl (k := 0) rfl (by decide) (by decide) rfl (fun ls hl => ?_)
          refine lv_goto (tgt := 3) hx hb dX12_four_33 (by decide) ?_
          refine lv_iload_n hx hb dX12_four_3 rfl (lv_at hl 0 rfl) ?_
          refine lv_if_lt (tgt := 36) hx hb dX12_four_4 (by decide) (fun cz22 => ?_) (fun cz22 => ?_)
          · skip
            rw [hQ]
            exact W.vret hx hb hr (fun t ht hW => ⟨⟨(), rfl, trivial, vO, (va_up tO 0 xz21), mO, gO, (va_up aTa 0 fz20), (rg_up htO (by show 0 ≤ xz21.toInt ∧ xz21.toInt ≤ 700; omega)), hmO, (by show xz21.toInt = (tO 0).toInt + 4; omega), by rw [ht]; exact hP⟩, hS.F ht⟩) hS.2.2 dX12_four_36
          · skip
            exact absurd cz22 (by decide)
def wk_c_X12_feed : List Cond := .code yX12_feed cX12_feed 6 (some .int) :: ([.fieldLink RX12 116 "SagMemoryModel" "thrown" "I", .fieldLink RX12 133 "SagMemoryModel" "taped" "I", .methodLink RX12 136 yX12_four, .instanceMethod yX12_four, .selects RX12 yX12_four yX12_four, .initialized RX12] ++ (wsX120 ++ (wk_c_X12_four ++ [])))
theorem wkg_c_X12_feed : wk_c_X12_feed.all goodWord = true := by decide +kernel
set_option maxHeartbeats 4000000 in
set_option maxRecDepth 100000 in
theorem c_X12_feed (l : Launch) (dC : Nat → ClassId) (dI : Nat → Nat → Nat) (k : Nat → ClassId) (sz : Nat) (qO : Nat → Nat) (widthO : Nat) (manyO : Nat) (cellsO : Nat) (movedO : Nat) (linesO : Nat) (hasO : Nat) (bridgeO : Nat) (cartO : Nat) (wardO : Nat) (frostAtO : Nat) (actO : Nat) (isKeptO : Nat) (loadNowO : Nat) (byNowO : Nat) (rowO : Nat) (memoryO : Nat) (whoseO : Nat) (deepNowO : Nat) (brokenByO : Nat) (brokenAtO : Nat) (goesByO : Nat) (comesToO : Nat) (sagMoreO : Nat) (creakOfO : Nat) (wipedByO : Nat) (deepAtO : Nat) (sagAtO : Nat) (loadAtO : Nat) (orderRowO : Nat) (oftenO : Nat) (lossOneO : Nat) (lossOtherO : Nat) (vO : Nat → Int32) (tO : Nat → Int32) (mO : Nat → Int32) (gO : Nat → Int64) (qTa : Nat → Nat) (aTa : Nat → Nat → Int32) (p1 : Int32) (p2 : Int32) (p3 : Int32) (p4 : Int32) (p5 : Int32) (htO : Rg 0 700 tO) (hmO : Rg (-1) 127 mO) : Met l yX12_feed wk_c_X12_feed ({ frames := 1, cells := 0, slots := 0, locals := 22 }) (va_Pc [.ref (qO 0), .int p1, .int p2, .int p3, .int p4, .int p5] (fun U => U.heap.size = sz ∧ va_P (dC, dI) vwCl (List.flatten [(wMO qO k widthO manyO cellsO movedO (qTa 0) linesO hasO bridgeO cartO wardO frostAtO actO isKeptO loadNowO byNowO rowO memoryO whoseO deepNowO brokenByO brokenAtO goesByO comesToO sagMoreO creakOfO wipedByO deepAtO sagAtO loadAtO orderRowO oftenO lossOneO lossOtherO vO tO mO gO), (wmTa qTa k aTa)] ++ List.flatten ([] : List va_W)) U.heap ∧ va_K (dC, dI) vwCl (tK k) U ∧ va_D (fun _ => True) (List.flatten [(wMO qO k widthO manyO cellsO movedO (qTa 0) linesO hasO bridgeO cartO wardO frostAtO actO isKeptO loadNowO byNowO rowO memoryO whoseO deepNowO brokenByO brokenAtO goesByO comesToO sagMoreO creakOfO wipedByO deepAtO sagAtO loadAtO orderRowO oftenO lossOneO lossOtherO vO tO mO gO), (wmTa qTa k aTa)] ++ List.flatten ([] : List va_W)))) (va_Qi (fun (r : Int32) (_ : Unit) => True) (fun (_ : Unit) (t : State) => ∃ (vO' : Nat → Int32) (tO' : Nat → Int32) (mO' : Nat → Int32) (gO' : Nat → Int64) (aTa' : Nat → Nat → Int32), Rg 0 700 tO' ∧ Rg (-1) 127 mO' ∧ va_P (dC, dI) vwCl (List.flatten [(wMO qO k widthO manyO cellsO movedO (qTa 0) linesO hasO bridgeO cartO wardO frostAtO actO isKeptO loadNowO byNowO rowO memoryO whoseO deepNowO brokenByO brokenAtO goesByO comesToO sagMoreO creakOfO wipedByO deepAtO sagAtO loadAtO orderRowO oftenO lossOneO lossOtherO vO' tO' mO' gO'), (wmTa qTa k aTa')] ++ List.flatten ([] : List va_W)) t.heap) (va_A (List.flatten [(wMO qO k widthO manyO cellsO movedO (qTa 0) linesO hasO bridgeO cartO wardO frostAtO actO isKeptO loadNowO byNowO rowO memoryO whoseO deepNowO brokenByO brokenAtO goesByO comesToO sagMoreO creakOfO wipedByO deepAtO sagAtO loadAtO orderRowO oftenO lossOneO lossOtherO vO tO mO gO), (wmTa qTa k aTa)] ++ List.flatten ([] : List va_W)) sz)) 0 0 (va_A (List.flatten [(wMO qO k widthO manyO cellsO movedO (qTa 0) linesO hasO bridgeO cartO wardO frostAtO actO isKeptO loadNowO byNowO rowO memoryO whoseO deepNowO brokenByO brokenAtO goesByO comesToO sagMoreO creakOfO wipedByO deepAtO sagAtO loadAtO orderRowO oftenO lossOneO lossOtherO vO tO mO gO), (wmTa qTa k aTa)] ++ List.flatten ([] : List va_W)) sz) := by
  refine Met.ofW (cc := cX12_feed) (maxL := 6) (ret := (some .int)) (by decide) rfl ?_
  intro p e s m args below meth c s₁ B hml hv
  obtain ⟨rfl, hsz, hP, hK, hD0⟩ := hv
  have hx := B.exec
  have hb := B.bytes
  have hr := B.returns
  have hts := atoms_spec (ws := wk_c_X12_feed) B.pre
  have hown : s.vm.findClass RX12 = some m.cls := findClass_of_methodNamed B.named
  have hlocks := B.notSynchronized
  subst hsz
  have hD := hD0.self (sz := s.heap.size)
  generalize hAe : va_A (List.flatten [(wMO qO k widthO manyO cellsO movedO (qTa 0) linesO hasO bridgeO cartO wardO frostAtO actO isKeptO loadNowO byNowO rowO memoryO whoseO deepNowO brokenByO brokenAtO goesByO comesToO sagMoreO creakOfO wipedByO deepAtO sagAtO loadAtO orderRowO oftenO lossOneO lossOtherO vO tO mO gO), (wmTa qTa k aTa)] ++ List.flatten ([] : List va_W)) s.heap.size = A at hD ⊢
  have hA : ∀ q : Nat, s.heap.size ≤ q → A q := fun q h => by rw [← hAe]; exact Or.inr h
  have hS : va_S A s.heap s.heap [] := va_S.rf
  have hP : va_P (dC, dI) vwCl (List.flatten [(wMO qO k widthO manyO cellsO movedO (qTa 0) linesO hasO bridgeO cartO wardO frostAtO actO isKeptO loadNowO byNowO rowO memoryO whoseO deepNowO brokenByO brokenAtO goesByO comesToO sagMoreO creakOfO wipedByO deepAtO sagAtO loadAtO orderRowO oftenO lossOneO lossOtherO vO tO mO gO), (wmTa qTa k aTa)] ++ List.flatten ([] : List va_W)) s.heap := hP
  have hl := lv_entry ([.ref (qO 0), .int p1, .int p2, .int p3, .int p4, .int p5]) (n := 6) (Nat.le_of_ble_eq_true rfl)
  rw [lg_entry_eq]
  generalize (lg_sl ([.ref (qO 0), .int p1, .int p2, .int p3, .int p4, .int p5]) ++ List.replicate (6 - (lg_sl ([.ref (qO 0), .int p1, .int p2, .int p3, .int p4, .int p5])).length) Slot.unset).toArray = ls at hl ⊢
  have hl : lv_has ls 6 [(0, .ref (qO 0)), (1, .int p1), (2, .int p2), (3, .int p3), (4, .int p4), (5, .int p5)] := hl
  refine w_gen (fun Q hQ => ?_)
  refine lv_aload_n hx hb dX12_feed_0 rfl (lv_at hl 0 rfl) ?_
  refine lv_iconst (v := 0) hx hb dX12_feed_1 (by decide) ?_
  refine va_put (D := (dC, dI)) (ci := 12) (v := .int 0) (ty := .int) (C := RX12) (T := TX12) (N := 59) hx hb hts (fun w h => List.mem_cons_of_mem _ (List.mem_append_right _ (List.mem_append_left _ h))) tyX12 tyX12_ok nmX12 hown hK hP hD hS 0 rfl rfl 0 (by decide) (hts (.fieldLink RX12 116 "SagMemoryModel" "thrown" "I") (wl_mem 0 rfl)) (fun _ h9 => h9) rfl (by decide +kernel) rfl rfl (Nat.le_of_ble_eq_true rfl) dX12_feed_2 (fun H locs hP hD hS => ?_)
  have hP : va_P (dC, dI) vwCl (List.flatten [(wMO qO k widthO manyO cellsO movedO (qTa 0) linesO hasO bridgeO cartO wardO frostAtO actO isKeptO loadNowO byNowO rowO memoryO whoseO deepNowO brokenByO brokenAtO goesByO comesToO sagMoreO creakOfO wipedByO deepAtO sagAtO loadAtO orderRowO oftenO lossOneO lossOtherO (va_up vO 0 (0 : Int32)) tO mO gO), (wmTa qTa k aTa)] ++ List.flatten ([] : List va_W)) H := hP
  have hD : va_D A (List.flatten [(wMO qO k widthO manyO cellsO movedO (qTa 0) linesO hasO bridgeO cartO wardO frostAtO actO isKeptO loadNowO byNowO rowO memoryO whoseO deepNowO brokenByO brokenAtO goesByO comesToO sagMoreO creakOfO wipedByO deepAtO sagAtO loadAtO orderRowO oftenO lossOneO lossOtherO (va_up vO 0 (0 : Int32)) tO mO gO), (wmTa qTa k aTa)] ++ List.flatten ([] : List va_W)) := hD
  refine lv_aload_n hx hb dX12_feed_5 rfl (lv_at hl 0 rfl) ?_
  refine va_get (D := (dC, dI)) (ci := 12) (v := .int (tO 0)) (C := RX12) (T := TX12) (N := 59) hx hb hts (fun w h => List.mem_cons_of_mem _ (List.mem_append_right _ (List.mem_append_left _ h))) hown hK hP 0 rfl rfl 6 (by decide) (hts (.fieldLink RX12 133 "SagMemoryModel" "taped" "I") (wl_mem 1 rfl)) (fun _ h9 => h9) rfl dX12_feed_6 ?_
  have bz1 := htO 0
  refine lv_bipush (v := 20) hx hb dX12_feed_9 (by decide) ?_
  refine lv_iadd hx hb dX12_feed_11 ?_
  refine lv_topi (fun xz2 exz2 => ?_)
  have fxz2 : xz2.toInt = (tO 0).toInt + (20 : Int) := by rw [exz2]; exact fb_addI (x := (tO 0)) (y := (20 : Int32)) (by show -2147483648 ≤ (tO 0).toInt + (20 : Int); omega) (by show (tO 0).toInt + (20 : Int) < 2147483648; omega)
  refine lv_sipush (v := 700) hx hb dX12_feed_12 (by decide) ?_
  refine lv_icmp_le (tgt := 20) hx hb dX12_feed_15 (by decide) (fun cz3 => ?_) (fun cz3 => ?_)
  · skip
    have zz4 : xz2.toInt ≤ (700 : Int) := zi_le.mp cz3
    refine lv_aload_n hx hb dX12_feed_20 rfl (lv_at hl 0 rfl) ?_
    refine lv_iload_n hx hb dX12_feed_21 rfl (lv_at hl 1 rfl) ?_
    have hPc := hP
    have hC : [0, 1].map (fun i => (List.flatten [(wMO qO k widthO manyO cellsO movedO (qTa 0) linesO hasO bridgeO cartO wardO frostAtO actO isKeptO loadNowO byNowO rowO memoryO whoseO deepNowO brokenByO brokenAtO goesByO comesToO sagMoreO creakOfO wipedByO deepAtO sagAtO loadAtO orderRowO oftenO lossOneO lossOtherO (va_up vO 0 (0 : Int32)) tO mO gO), (wmTa qTa k aTa)] ++ List.flatten ([] : List va_W))[i]?) = (List.flatten [(wMO qO k widthO manyO cellsO movedO (qTa 0) linesO hasO bridgeO cartO wardO frostAtO actO isKeptO loadNowO byNowO rowO memoryO whoseO deepNowO brokenByO brokenAtO goesByO comesToO sagMoreO creakOfO wipedByO deepAtO sagAtO loadAtO orderRowO oftenO lossOneO lossOtherO (va_up vO 0 (0 : Int32)) tO mO gO), (wmTa qTa k aTa)] ++ List.flatten ([] : List va_W)).map some := rfl
    have hDc := hD.sub [0, 1] (by decide) hC
    have hFc := va_free hD hS hA [0, 1] hC
    refine va_callv (va_runV (As := [.int p1]) (rest := []) ⟨hx, hb, hml, hown, hts⟩ (c_X12_four l dC dI k H.size qO widthO manyO cellsO movedO linesO hasO bridgeO cartO wardO frostAtO actO isKeptO loadNowO byNowO rowO memoryO whoseO deepNowO brokenByO brokenAtO goesByO comesToO sagMoreO creakOfO wipedByO deepAtO sagAtO loadAtO orderRowO oftenO lossOneO lossOtherO (va_up vO 0 (0 : Int32)) tO mO gO qTa aTa p1 htO hmO (by show (tO 0).toInt ≤ 696; omega)) (cwV 1 hts (gk_V (wl_mem 2 rfl) (wl_mem 3 rfl) (wl_mem 4 rfl) (wl_mem 5 rfl) (fun w h => List.mem_cons_of_mem _ (List.mem_append_right _ (List.mem_append_right _ (List.mem_append_left _ h)))) wkg_c_X12_four) rfl rfl rfl (by decide +kernel) ⟨Nat.le_of_ble_eq_true rfl, Nat.le_of_ble_eq_true rfl⟩) ⟨fun a U g mk q => by obtain ⟨q0, q1, qP, qK, qD⟩ := q; exact ⟨q0, q1, qP, va_K.moved (u := U) (U := U.calling g mk a) (Vm.Alike.refl U.vm) qK, qD⟩, va_recv hK hPc (ci := 12) (q0 := 0) rfl rfl, fun U hU hW => ⟨rfl, by rw [hU], by rw [hU]; exact hPc, va_K.moved hW.alike hK, hDc.weaken (fun _ _ _ _ => trivial)⟩⟩ rfl rfl hl.1 rfl (lv_room (Nat.le_of_ble_eq_true rfl)) dX12_feed_22 ⟨Nat.le_of_ble_eq_true rfl, Nat.le_of_ble_eq_true rfl⟩) hS (fun q _ h => hFc q h) hFc (fun u t H1 locs ht hvm gz5 hB hz1 hk1 hS => ?_)
    obtain ⟨vz7, tz8, mz9, gz10, az11, htz8, hmz9, pz12, hP1⟩ := hB
    rw [ht] at hP1
    obtain ⟨hP, hD⟩ := w_callR hP hD hk1 hP1 [0, 1] rfl rfl (fun _ h => absurd h List.not_mem_nil) rfl [some 0, some 1] rfl rfl
    clear hPc hC hDc hFc hk1 hP1
    generalize H1 = H at hP hS ⊢
    have hP : va_P (dC, dI) vwCl (List.flatten [(wMO qO k widthO manyO cellsO movedO (qTa 0) linesO hasO bridgeO cartO wardO frostAtO actO isKeptO loadNowO byNowO rowO memoryO whoseO deepNowO brokenByO brokenAtO goesByO comesToO sagMoreO creakOfO wipedByO deepAtO sagAtO loadAtO orderRowO oftenO lossOneO lossOtherO vz7 tz8 mz9 gz10), (wmTa qTa k az11)] ++ List.flatten ([] : List va_W)) H := hP
    have hD : va_D A (List.flatten [(wMO qO k widthO manyO cellsO movedO (qTa 0) linesO hasO bridgeO cartO wardO frostAtO actO isKeptO loadNowO byNowO rowO memoryO whoseO deepNowO brokenByO brokenAtO goesByO comesToO sagMoreO creakOfO wipedByO deepAtO sagAtO loadAtO orderRowO oftenO lossOneO lossOtherO vz7 tz8 mz9 gz10), (wmTa qTa k az11)] ++ List.flatten ([] : List va_W)) := hD
    refine W.widen (k := 0) (n := 0) (Nat.le_refl 0) (Nat.le_refl 0) ?_
    have pz12 : (tz8 0).toInt = (tO 0).toInt + 4 := pz12
    refine lv_aload_n hx hb dX12_feed_25 rfl (lv_at hl 0 rfl) ?_
    refine lv_iload_n hx hb dX12_feed_26 rfl (lv_at hl 2 rfl) ?_
    have bz13 := htz8 0
    have hPc := hP
    have hC : [0, 1].map (fun i => (List.flatten [(wMO qO k widthO manyO cellsO movedO (qTa 0) linesO hasO bridgeO cartO wardO frostAtO actO isKeptO loadNowO byNowO rowO memoryO whoseO deepNowO brokenByO brokenAtO goesByO comesToO sagMoreO creakOfO wipedByO deepAtO sagAtO loadAtO orderRowO oftenO lossOneO lossOtherO vz7 tz8 mz9 gz10), (wmTa qTa k az11)] ++ List.flatten ([] : List va_W))[i]?) = (List.flatten [(wMO qO k widthO manyO cellsO movedO (qTa 0) linesO hasO bridgeO cartO wardO frostAtO actO isKeptO loadNowO byNowO rowO memoryO whoseO deepNowO brokenByO brokenAtO goesByO comesToO sagMoreO creakOfO wipedByO deepAtO sagAtO loadAtO orderRowO oftenO lossOneO lossOtherO vz7 tz8 mz9 gz10), (wmTa qTa k az11)] ++ List.flatten ([] : List va_W)).map some := rfl
    have hDc := hD.sub [0, 1] (by decide) hC
    have hFc := va_free hD hS hA [0, 1] hC
    refine va_callv (va_runV (As := [.int p2]) (rest := []) ⟨hx, hb, hml, hown, hts⟩ (c_X12_four l dC dI k H.size qO widthO manyO cellsO movedO linesO hasO bridgeO cartO wardO frostAtO actO isKeptO loadNowO byNowO rowO memoryO whoseO deepNowO brokenByO brokenAtO goesByO comesToO sagMoreO creakOfO wipedByO deepAtO sagAtO loadAtO orderRowO oftenO lossOneO lossOtherO vz7 tz8 mz9 gz10 qTa az11 p2 htz8 hmz9 (by show (tz8 0).toInt ≤ 696; omega)) (cwV 1 hts (gk_V (wl_mem 2 rfl) (wl_mem 3 rfl) (wl_mem 4 rfl) (wl_mem 5 rfl) (fun w h => List.mem_cons_of_mem _ (List.mem_append_right _ (List.mem_append_right _ (List.mem_append_left _ h)))) wkg_c_X12_four) rfl rfl rfl (by decide +kernel) ⟨Nat.le_of_ble_eq_true rfl, Nat.le_of_ble_eq_true rfl⟩) ⟨fun a U g mk q => by obtain ⟨q0, q1, qP, qK, qD⟩ := q; exact ⟨q0, q1, qP, va_K.moved (u := U) (U := U.calling g mk a) (Vm.Alike.refl U.vm) qK, qD⟩, va_recv hK hPc (ci := 12) (q0 := 0) rfl rfl, fun U hU hW => ⟨rfl, by rw [hU], by rw [hU]; exact hPc, va_K.moved hW.alike hK, hDc.weaken (fun _ _ _ _ => trivial)⟩⟩ rfl rfl hl.1 rfl (lv_room (Nat.le_of_ble_eq_true rfl)) dX12_feed_27 ⟨Nat.le_of_ble_eq_true rfl, Nat.le_of_ble_eq_true rfl⟩) hS (fun q _ h => hFc q h) hFc (fun u t H1 locs ht hvm gz14 hB hz1 hk1 hS => ?_)
    obtain ⟨vz16, tz17, mz18, gz19, az20, htz17, hmz18, pz21, hP1⟩ := hB
    rw [ht] at hP1
    obtain ⟨hP, hD⟩ := w_callR hP hD hk1 hP1 [0, 1] rfl rfl (fun _ h => absurd h List.not_mem_nil) rfl [some 0, some 1] rfl rfl
    clear hPc hC hDc hFc hk1 hP1
    generalize H1 = H at hP hS ⊢
    have hP : va_P (dC, dI) vwCl (List.flatten [(wMO qO k widthO manyO cellsO movedO (qTa 0) linesO hasO bridgeO cartO wardO frostAtO actO isKeptO loadNowO byNowO rowO memoryO whoseO deepNowO brokenByO brokenAtO goesByO comesToO sagMoreO creakOfO wipedByO deepAtO sagAtO loadAtO orderRowO oftenO lossOneO lossOtherO vz16 tz17 mz18 gz19), (wmTa qTa k az20)] ++ List.flatten ([] : List va_W)) H := hP
    have hD : va_D A (List.flatten [(wMO qO k widthO manyO cellsO movedO (qTa 0) linesO hasO bridgeO cartO wardO frostAtO actO isKeptO loadNowO byNowO rowO memoryO whoseO deepNowO brokenByO brokenAtO goesByO comesToO sagMoreO creakOfO wipedByO deepAtO sagAtO loadAtO orderRowO oftenO lossOneO lossOtherO vz16 tz17 mz18 gz19), (wmTa qTa k az20)] ++ List.flatten ([] : List va_W)) := hD
    refine W.widen (k := 0) (n := 0) (Nat.le_refl 0) (Nat.le_refl 0) ?_
    have pz21 : (tz17 0).toInt = (tz8 0).toInt + 4 := pz21
    refine lv_aload_n hx hb dX12_feed_30 rfl (lv_at hl 0 rfl) ?_
    refine lv_iload_n hx hb dX12_feed_31 rfl (lv_at hl 3 rfl) ?_
    have bz22 := htz17 0
    have hPc := hP
    have hC : [0, 1].map (fun i => (List.flatten [(wMO qO k widthO manyO cellsO movedO (qTa 0) linesO hasO bridgeO cartO wardO frostAtO actO isKeptO loadNowO byNowO rowO memoryO whoseO deepNowO brokenByO brokenAtO goesByO comesToO sagMoreO creakOfO wipedByO deepAtO sagAtO loadAtO orderRowO oftenO lossOneO lossOtherO vz16 tz17 mz18 gz19), (wmTa qTa k az20)] ++ List.flatten ([] : List va_W))[i]?) = (List.flatten [(wMO qO k widthO manyO cellsO movedO (qTa 0) linesO hasO bridgeO cartO wardO frostAtO actO isKeptO loadNowO byNowO rowO memoryO whoseO deepNowO brokenByO brokenAtO goesByO comesToO sagMoreO creakOfO wipedByO deepAtO sagAtO loadAtO orderRowO oftenO lossOneO lossOtherO vz16 tz17 mz18 gz19), (wmTa qTa k az20)] ++ List.flatten ([] : List va_W)).map some := rfl
    have hDc := hD.sub [0, 1] (by decide) hC
    have hFc := va_free hD hS hA [0, 1] hC
    refine va_callv (va_runV (As := [.int p3]) (rest := []) ⟨hx, hb, hml, hown, hts⟩ (c_X12_four l dC dI k H.size qO widthO manyO cellsO movedO linesO hasO bridgeO cartO wardO frostAtO actO isKeptO loadNowO byNowO rowO memoryO whoseO deepNowO brokenByO brokenAtO goesByO comesToO sagMoreO creakOfO wipedByO deepAtO sagAtO loadAtO orderRowO oftenO lossOneO lossOtherO vz16 tz17 mz18 gz19 qTa az20 p3 htz17 hmz18 (by show (tz17 0).toInt ≤ 696; omega)) (cwV 1 hts (gk_V (wl_mem 2 rfl) (wl_mem 3 rfl) (wl_mem 4 rfl) (wl_mem 5 rfl) (fun w h => List.mem_cons_of_mem _ (List.mem_append_right _ (List.mem_append_right _ (List.mem_append_left _ h)))) wkg_c_X12_four) rfl rfl rfl (by decide +kernel) ⟨Nat.le_of_ble_eq_true rfl, Nat.le_of_ble_eq_true rfl⟩) ⟨fun a U g mk q => by obtain ⟨q0, q1, qP, qK, qD⟩ := q; exact ⟨q0, q1, qP, va_K.moved (u := U) (U := U.calling g mk a) (Vm.Alike.refl U.vm) qK, qD⟩, va_recv hK hPc (ci := 12) (q0 := 0) rfl rfl, fun U hU hW => ⟨rfl, by rw [hU], by rw [hU]; exact hPc, va_K.moved hW.alike hK, hDc.weaken (fun _ _ _ _ => trivial)⟩⟩ rfl rfl hl.1 rfl (lv_room (Nat.le_of_ble_eq_true rfl)) dX12_feed_32 ⟨Nat.le_of_ble_eq_true rfl, Nat.le_of_ble_eq_true rfl⟩) hS (fun q _ h => hFc q h) hFc (fun u t H1 locs ht hvm gz23 hB hz1 hk1 hS => ?_)
    obtain ⟨vz25, tz26, mz27, gz28, az29, htz26, hmz27, pz30, hP1⟩ := hB
    rw [ht] at hP1
    obtain ⟨hP, hD⟩ := w_callR hP hD hk1 hP1 [0, 1] rfl rfl (fun _ h => absurd h List.not_mem_nil) rfl [some 0, some 1] rfl rfl
    clear hPc hC hDc hFc hk1 hP1
    generalize H1 = H at hP hS ⊢
    have hP : va_P (dC, dI) vwCl (List.flatten [(wMO qO k widthO manyO cellsO movedO (qTa 0) linesO hasO bridgeO cartO wardO frostAtO actO isKeptO loadNowO byNowO rowO memoryO whoseO deepNowO brokenByO brokenAtO goesByO comesToO sagMoreO creakOfO wipedByO deepAtO sagAtO loadAtO orderRowO oftenO lossOneO lossOtherO vz25 tz26 mz27 gz28), (wmTa qTa k az29)] ++ List.flatten ([] : List va_W)) H := hP
    have hD : va_D A (List.flatten [(wMO qO k widthO manyO cellsO movedO (qTa 0) linesO hasO bridgeO cartO wardO frostAtO actO isKeptO loadNowO byNowO rowO memoryO whoseO deepNowO brokenByO brokenAtO goesByO comesToO sagMoreO creakOfO wipedByO deepAtO sagAtO loadAtO orderRowO oftenO lossOneO lossOtherO vz25 tz26 mz27 gz28), (wmTa qTa k az29)] ++ List.flatten ([] : List va_W)) := hD
    refine W.widen (k := 0) (n := 0) (Nat.le_refl 0) (Nat.le_refl 0) ?_
    have pz30 : (tz26 0).toInt = (tz17 0).toInt + 4 := pz30
    refine lv_aload_n hx hb dX12_feed_35 rfl (lv_at hl 0 rfl) ?_
    refine lv_iload hx hb dX12_feed_36 (lv_at hl 4 rfl) ?_
    have bz31 := htz26 0
    have hPc := hP
    have hC : [0, 1].map (fun i => (List.flatten [(wMO qO k widthO manyO cellsO movedO (qTa 0) linesO hasO bridgeO cartO wardO frostAtO actO isKeptO loadNowO byNowO rowO memoryO whoseO deepNowO brokenByO brokenAtO goesByO comesToO sagMoreO creakOfO wipedByO deepAtO sagAtO loadAtO orderRowO oftenO lossOneO lossOtherO vz25 tz26 mz27 gz28), (wmTa qTa k az29)] ++ List.flatten ([] : List va_W))[i]?) = (List.flatten [(wMO qO k widthO manyO cellsO movedO (qTa 0) linesO hasO bridgeO cartO wardO frostAtO actO isKeptO loadNowO byNowO rowO memoryO whoseO deepNowO brokenByO brokenAtO goesByO comesToO sagMoreO creakOfO wipedByO deepAtO sagAtO loadAtO orderRowO oftenO lossOneO lossOtherO vz25 tz26 mz27 gz28), (wmTa qTa k az29)] ++ List.flatten ([] : List va_W)).map some := rfl
    have hDc := hD.sub [0, 1] (by decide) hC
    have hFc := va_free hD hS hA [0, 1] hC
    refine va_callv (va_runV (As := [.int p4]) (rest := []) ⟨hx, hb, hml, hown, hts⟩ (c_X12_four l dC dI k H.size qO widthO manyO cellsO movedO linesO hasO bridgeO cartO wardO frostAtO actO isKeptO loadNowO byNowO rowO memoryO whoseO deepNowO brokenByO brokenAtO goesByO comesToO sagMoreO creakOfO wipedByO deepAtO sagAtO loadAtO orderRowO oftenO lossOneO lossOtherO vz25 tz26 mz27 gz28 qTa az29 p4 htz26 hmz27 (by show (tz26 0).toInt ≤ 696; omega)) (cwV 1 hts (gk_V (wl_mem 2 rfl) (wl_mem 3 rfl) (wl_mem 4 rfl) (wl_mem 5 rfl) (fun w h => List.mem_cons_of_mem _ (List.mem_append_right _ (List.mem_append_right _ (List.mem_append_left _ h)))) wkg_c_X12_four) rfl rfl rfl (by decide +kernel) ⟨Nat.le_of_ble_eq_true rfl, Nat.le_of_ble_eq_true rfl⟩) ⟨fun a U g mk q => by obtain ⟨q0, q1, qP, qK, qD⟩ := q; exact ⟨q0, q1, qP, va_K.moved (u := U) (U := U.calling g mk a) (Vm.Alike.refl U.vm) qK, qD⟩, va_recv hK hPc (ci := 12) (q0 := 0) rfl rfl, fun U hU hW => ⟨rfl, by rw [hU], by rw [hU]; exact hPc, va_K.moved hW.alike hK, hDc.weaken (fun _ _ _ _ => trivial)⟩⟩ rfl rfl hl.1 rfl (lv_room (Nat.le_of_ble_eq_true rfl)) dX12_feed_38 ⟨Nat.le_of_ble_eq_true rfl, Nat.le_of_ble_eq_true rfl⟩) hS (fun q _ h => hFc q h) hFc (fun u t H1 locs ht hvm gz32 hB hz1 hk1 hS => ?_)
    obtain ⟨vz34, tz35, mz36, gz37, az38, htz35, hmz36, pz39, hP1⟩ := hB
    rw [ht] at hP1
    obtain ⟨hP, hD⟩ := w_callR hP hD hk1 hP1 [0, 1] rfl rfl (fun _ h => absurd h List.not_mem_nil) rfl [some 0, some 1] rfl rfl
    clear hPc hC hDc hFc hk1 hP1
    generalize H1 = H at hP hS ⊢
    have hP : va_P (dC, dI) vwCl (List.flatten [(wMO qO k widthO manyO cellsO movedO (qTa 0) linesO hasO bridgeO cartO wardO frostAtO actO isKeptO loadNowO byNowO rowO memoryO whoseO deepNowO brokenByO brokenAtO goesByO comesToO sagMoreO creakOfO wipedByO deepAtO sagAtO loadAtO orderRowO oftenO lossOneO lossOtherO vz34 tz35 mz36 gz37), (wmTa qTa k az38)] ++ List.flatten ([] : List va_W)) H := hP
    have hD : va_D A (List.flatten [(wMO qO k widthO manyO cellsO movedO (qTa 0) linesO hasO bridgeO cartO wardO frostAtO actO isKeptO loadNowO byNowO rowO memoryO whoseO deepNowO brokenByO brokenAtO goesByO comesToO sagMoreO creakOfO wipedByO deepAtO sagAtO loadAtO orderRowO oftenO lossOneO lossOtherO vz34 tz35 mz36 gz37), (wmTa qTa k az38)] ++ List.flatten ([] : List va_W)) := hD
    refine W.widen (k := 0) (n := 0) (Nat.le_refl 0) (Nat.le_refl 0) ?_
    have pz39 : (tz35 0).toInt = (tz26 0).toInt + 4 := pz39
    refine lv_aload_n hx hb dX12_feed_41 rfl (lv_at hl 0 rfl) ?_
    refine lv_iload hx hb dX12_feed_42 (lv_at hl 5 rfl) ?_
    have bz40 := htz35 0
    have hPc := hP
    have hC : [0, 1].map (fun i => (List.flatten [(wMO qO k widthO manyO cellsO movedO (qTa 0) linesO hasO bridgeO cartO wardO frostAtO actO isKeptO loadNowO byNowO rowO memoryO whoseO deepNowO brokenByO brokenAtO goesByO comesToO sagMoreO creakOfO wipedByO deepAtO sagAtO loadAtO orderRowO oftenO lossOneO lossOtherO vz34 tz35 mz36 gz37), (wmTa qTa k az38)] ++ List.flatten ([] : List va_W))[i]?) = (List.flatten [(wMO qO k widthO manyO cellsO movedO (qTa 0) linesO hasO bridgeO cartO wardO frostAtO actO isKeptO loadNowO byNowO rowO memoryO whoseO deepNowO brokenByO brokenAtO goesByO comesToO sagMoreO creakOfO wipedByO deepAtO sagAtO loadAtO orderRowO oftenO lossOneO lossOtherO vz34 tz35 mz36 gz37), (wmTa qTa k az38)] ++ List.flatten ([] : List va_W)).map some := rfl
    have hDc := hD.sub [0, 1] (by decide) hC
    have hFc := va_free hD hS hA [0, 1] hC
    refine va_callv (va_runV (As := [.int p5]) (rest := []) ⟨hx, hb, hml, hown, hts⟩ (c_X12_four l dC dI k H.size qO widthO manyO cellsO movedO linesO hasO bridgeO cartO wardO frostAtO actO isKeptO loadNowO byNowO rowO memoryO whoseO deepNowO brokenByO brokenAtO goesByO comesToO sagMoreO creakOfO wipedByO deepAtO sagAtO loadAtO orderRowO oftenO lossOneO lossOtherO vz34 tz35 mz36 gz37 qTa az38 p5 htz35 hmz36 (by show (tz35 0).toInt ≤ 696; omega)) (cwV 1 hts (gk_V (wl_mem 2 rfl) (wl_mem 3 rfl) (wl_mem 4 rfl) (wl_mem 5 rfl) (fun w h => List.mem_cons_of_mem _ (List.mem_append_right _ (List.mem_append_right _ (List.mem_append_left _ h)))) wkg_c_X12_four) rfl rfl rfl (by decide +kernel) ⟨Nat.le_of_ble_eq_true rfl, Nat.le_of_ble_eq_true rfl⟩) ⟨fun a U g mk q => by obtain ⟨q0, q1, qP, qK, qD⟩ := q; exact ⟨q0, q1, qP, va_K.moved (u := U) (U := U.calling g mk a) (Vm.Alike.refl U.vm) qK, qD⟩, va_recv hK hPc (ci := 12) (q0 := 0) rfl rfl, fun U hU hW => ⟨rfl, by rw [hU], by rw [hU]; exact hPc, va_K.moved hW.alike hK, hDc.weaken (fun _ _ _ _ => trivial)⟩⟩ rfl rfl hl.1 rfl (lv_room (Nat.le_of_ble_eq_true rfl)) dX12_feed_44 ⟨Nat.le_of_ble_eq_true rfl, Nat.le_of_ble_eq_true rfl⟩) hS (fun q _ h => hFc q h) hFc (fun u t H1 locs ht hvm gz41 hB hz1 hk1 hS => ?_)
    obtain ⟨vz43, tz44, mz45, gz46, az47, htz44, hmz45, pz48, hP1⟩ := hB
    rw [ht] at hP1
    obtain ⟨hP, hD⟩ := w_callR hP hD hk1 hP1 [0, 1] rfl rfl (fun _ h => absurd h List.not_mem_nil) rfl [some 0, some 1] rfl rfl
    clear hPc hC hDc hFc hk1 hP1
    generalize H1 = H at hP hS ⊢
    have hP : va_P (dC, dI) vwCl (List.flatten [(wMO qO k widthO manyO cellsO movedO (qTa 0) linesO hasO bridgeO cartO wardO frostAtO actO isKeptO loadNowO byNowO rowO memoryO whoseO deepNowO brokenByO brokenAtO goesByO comesToO sagMoreO creakOfO wipedByO deepAtO sagAtO loadAtO orderRowO oftenO lossOneO lossOtherO vz43 tz44 mz45 gz46), (wmTa qTa k az47)] ++ List.flatten ([] : List va_W)) H := hP
    have hD : va_D A (List.flatten [(wMO qO k widthO manyO cellsO movedO (qTa 0) linesO hasO bridgeO cartO wardO frostAtO actO isKeptO loadNowO byNowO rowO memoryO whoseO deepNowO brokenByO brokenAtO goesByO comesToO sagMoreO creakOfO wipedByO deepAtO sagAtO loadAtO orderRowO oftenO lossOneO lossOtherO vz43 tz44 mz45 gz46), (wmTa qTa k az47)] ++ List.flatten ([] : List va_W)) := hD
    refine W.widen (k := 0) (n := 0) (Nat.le_refl 0) (Nat.le_refl 0) ?_
    have pz48 : (tz44 0).toInt = (tz35 0).toInt + 4 := pz48
    refine lv_aload_n hx hb dX12_feed_47 rfl (lv_at hl 0 rfl) ?_
    refine va_get (D := (dC, dI)) (ci := 12) (v := .int (tz44 0)) (C := RX12) (T := TX12) (N := 59) hx hb hts (fun w h => List.mem_cons_of_mem _ (List.mem_append_right _ (List.mem_append_left _ h))) hown hK hP 0 rfl rfl 6 (by decide) (hts (.fieldLink RX12 133 "SagMemoryModel" "taped" "I") (wl_mem 1 rfl)) (fun _ h9 => h9) rfl dX12_feed_48 ?_
    have bz49 := htz44 0
    rw [hQ]
    exact W.iret (v := (tz44 0)) hx hb hr (fun t ht hW => ⟨⟨(tz44 0), (), rfl, trivial, vz43, tz44, mz45, gz46, az47, htz44, hmz45, by rw [ht]; exact hP⟩, hS.F ht⟩) hS.2.2 dX12_feed_51
  · skip
    have zz50 : ¬ xz2.toInt ≤ (700 : Int) := fun h9 => cz3 (zi_le.mpr h9)
    refine lv_iconst (v := (-1)) hx hb dX12_feed_18 (by decide) ?_
    rw [hQ]
    exact W.iret (v := (-1 : Int32)) hx hb hr (fun t ht hW => ⟨⟨(-1 : Int32), (), rfl, trivial, (va_up vO 0 (0 : Int32)), tO, mO, gO, aTa, htO, hmO, by rw [ht]; exact hP⟩, hS.F ht⟩) hS.2.2 dX12_feed_19
def wk_c_X12_end : List Cond := .code yX12_end cX12_end 2 (some .int) :: ([.fieldLink RX12 116 "SagMemoryModel" "thrown" "I", .fieldLink RX12 133 "SagMemoryModel" "taped" "I", .methodLink RX12 121 yX12_in, .static yX12_in, .initialized RX12] ++ (wsX120 ++ (wk_c_X12_in ++ [])))
theorem wkg_c_X12_end : wk_c_X12_end.all goodWord = true := by decide +kernel
set_option maxHeartbeats 4000000 in
set_option maxRecDepth 100000 in
theorem c_X12_end (l : Launch) (dC : Nat → ClassId) (dI : Nat → Nat → Nat) (k : Nat → ClassId) (sz : Nat) (qO : Nat → Nat) (widthO : Nat) (manyO : Nat) (cellsO : Nat) (movedO : Nat) (tapeO : Nat) (linesO : Nat) (hasO : Nat) (bridgeO : Nat) (cartO : Nat) (wardO : Nat) (frostAtO : Nat) (actO : Nat) (isKeptO : Nat) (loadNowO : Nat) (byNowO : Nat) (rowO : Nat) (memoryO : Nat) (whoseO : Nat) (deepNowO : Nat) (brokenByO : Nat) (brokenAtO : Nat) (goesByO : Nat) (comesToO : Nat) (sagMoreO : Nat) (creakOfO : Nat) (wipedByO : Nat) (deepAtO : Nat) (sagAtO : Nat) (loadAtO : Nat) (orderRowO : Nat) (oftenO : Nat) (lossOneO : Nat) (lossOtherO : Nat) (vO : Nat → Int32) (tO : Nat → Int32) (mO : Nat → Int32) (gO : Nat → Int64) (p1 : Int32) (htO : Rg 0 700 tO) (hmO : Rg (-1) 127 mO) : Met l yX12_end wk_c_X12_end ({ frames := 1, cells := 0, slots := 0, locals := 25 }) (va_Pc [.ref (qO 0), .int p1] (fun U => U.heap.size = sz ∧ va_P (dC, dI) vwCl (List.flatten [(wMO qO k widthO manyO cellsO movedO tapeO linesO hasO bridgeO cartO wardO frostAtO actO isKeptO loadNowO byNowO rowO memoryO whoseO deepNowO brokenByO brokenAtO goesByO comesToO sagMoreO creakOfO wipedByO deepAtO sagAtO loadAtO orderRowO oftenO lossOneO lossOtherO vO tO mO gO)] ++ List.flatten ([] : List va_W)) U.heap ∧ va_K (dC, dI) vwCl (tK k) U ∧ va_D (fun _ => True) (List.flatten [(wMO qO k widthO manyO cellsO movedO tapeO linesO hasO bridgeO cartO wardO frostAtO actO isKeptO loadNowO byNowO rowO memoryO whoseO deepNowO brokenByO brokenAtO goesByO comesToO sagMoreO creakOfO wipedByO deepAtO sagAtO loadAtO orderRowO oftenO lossOneO lossOtherO vO tO mO gO)] ++ List.flatten ([] : List va_W)))) (va_Qi (fun (r : Int32) (_ : Unit) => True) (fun (_ : Unit) (t : State) => ∃ (vO' : Nat → Int32) (tO' : Nat → Int32) (mO' : Nat → Int32) (gO' : Nat → Int64), Rg 0 700 tO' ∧ Rg (-1) 127 mO' ∧ va_P (dC, dI) vwCl (List.flatten [(wMO qO k widthO manyO cellsO movedO tapeO linesO hasO bridgeO cartO wardO frostAtO actO isKeptO loadNowO byNowO rowO memoryO whoseO deepNowO brokenByO brokenAtO goesByO comesToO sagMoreO creakOfO wipedByO deepAtO sagAtO loadAtO orderRowO oftenO lossOneO lossOtherO vO' tO' mO' gO')] ++ List.flatten ([] : List va_W)) t.heap) (va_A (List.flatten [(wMO qO k widthO manyO cellsO movedO tapeO linesO hasO bridgeO cartO wardO frostAtO actO isKeptO loadNowO byNowO rowO memoryO whoseO deepNowO brokenByO brokenAtO goesByO comesToO sagMoreO creakOfO wipedByO deepAtO sagAtO loadAtO orderRowO oftenO lossOneO lossOtherO vO tO mO gO)] ++ List.flatten ([] : List va_W)) sz)) 0 0 (va_A (List.flatten [(wMO qO k widthO manyO cellsO movedO tapeO linesO hasO bridgeO cartO wardO frostAtO actO isKeptO loadNowO byNowO rowO memoryO whoseO deepNowO brokenByO brokenAtO goesByO comesToO sagMoreO creakOfO wipedByO deepAtO sagAtO loadAtO orderRowO oftenO lossOneO lossOtherO vO tO mO gO)] ++ List.flatten ([] : List va_W)) sz) := by
  refine Met.ofW (cc := cX12_end) (maxL := 2) (ret := (some .int)) (by decide) rfl ?_
  intro p e s m args below meth c s₁ B hml hv
  obtain ⟨rfl, hsz, hP, hK, hD0⟩ := hv
  have hx := B.exec
  have hb := B.bytes
  have hr := B.returns
  have hts := atoms_spec (ws := wk_c_X12_end) B.pre
  have hown : s.vm.findClass RX12 = some m.cls := findClass_of_methodNamed B.named
  have hlocks := B.notSynchronized
  subst hsz
  have hD := hD0.self (sz := s.heap.size)
  generalize hAe : va_A (List.flatten [(wMO qO k widthO manyO cellsO movedO tapeO linesO hasO bridgeO cartO wardO frostAtO actO isKeptO loadNowO byNowO rowO memoryO whoseO deepNowO brokenByO brokenAtO goesByO comesToO sagMoreO creakOfO wipedByO deepAtO sagAtO loadAtO orderRowO oftenO lossOneO lossOtherO vO tO mO gO)] ++ List.flatten ([] : List va_W)) s.heap.size = A at hD ⊢
  have hA : ∀ q : Nat, s.heap.size ≤ q → A q := fun q h => by rw [← hAe]; exact Or.inr h
  have hS : va_S A s.heap s.heap [] := va_S.rf
  have hP : va_P (dC, dI) vwCl (List.flatten [(wMO qO k widthO manyO cellsO movedO tapeO linesO hasO bridgeO cartO wardO frostAtO actO isKeptO loadNowO byNowO rowO memoryO whoseO deepNowO brokenByO brokenAtO goesByO comesToO sagMoreO creakOfO wipedByO deepAtO sagAtO loadAtO orderRowO oftenO lossOneO lossOtherO vO tO mO gO)] ++ List.flatten ([] : List va_W)) s.heap := hP
  have hl := lv_entry ([.ref (qO 0), .int p1]) (n := 2) (Nat.le_of_ble_eq_true rfl)
  rw [lg_entry_eq]
  generalize (lg_sl ([.ref (qO 0), .int p1]) ++ List.replicate (2 - (lg_sl ([.ref (qO 0), .int p1])).length) Slot.unset).toArray = ls at hl ⊢
  have hl : lv_has ls 2 [(0, .ref (qO 0)), (1, .int p1)] := hl
  refine w_gen (fun Q hQ => ?_)
  refine lv_aload_n hx hb dX12_end_0 rfl (lv_at hl 0 rfl) ?_
  refine lv_iconst (v := 0) hx hb dX12_end_1 (by decide) ?_
  refine va_put (D := (dC, dI)) (ci := 12) (v := .int 0) (ty := .int) (C := RX12) (T := TX12) (N := 59) hx hb hts (fun w h => List.mem_cons_of_mem _ (List.mem_append_right _ (List.mem_append_left _ h))) tyX12 tyX12_ok nmX12 hown hK hP hD hS 0 rfl rfl 0 (by decide) (hts (.fieldLink RX12 116 "SagMemoryModel" "thrown" "I") (wl_mem 0 rfl)) (fun _ h9 => h9) rfl (by decide +kernel) rfl rfl (Nat.le_of_ble_eq_true rfl) dX12_end_2 (fun H locs hP hD hS => ?_)
  have hP : va_P (dC, dI) vwCl (List.flatten [(wMO qO k widthO manyO cellsO movedO tapeO linesO hasO bridgeO cartO wardO frostAtO actO isKeptO loadNowO byNowO rowO memoryO whoseO deepNowO brokenByO brokenAtO goesByO comesToO sagMoreO creakOfO wipedByO deepAtO sagAtO loadAtO orderRowO oftenO lossOneO lossOtherO (va_up vO 0 (0 : Int32)) tO mO gO)] ++ List.flatten ([] : List va_W)) H := hP
  have hD : va_D A (List.flatten [(wMO qO k widthO manyO cellsO movedO tapeO linesO hasO bridgeO cartO wardO frostAtO actO isKeptO loadNowO byNowO rowO memoryO whoseO deepNowO brokenByO brokenAtO goesByO comesToO sagMoreO creakOfO wipedByO deepAtO sagAtO loadAtO orderRowO oftenO lossOneO lossOtherO (va_up vO 0 (0 : Int32)) tO mO gO)] ++ List.flatten ([] : List va_W)) := hD
  refine lv_iload_n hx hb dX12_end_5 rfl (lv_at hl 1 rfl) ?_
  refine lv_i2l hx hb dX12_end_6 rfl ?_
  refine lv_lconst (v := 0) hx hb dX12_end_7 (by decide) ?_
  refine lv_aload_n hx hb dX12_end_8 rfl (lv_at hl 0 rfl) ?_
  refine va_get (D := (dC, dI)) (ci := 12) (v := .int (tO 0)) (C := RX12) (T := TX12) (N := 59) hx hb hts (fun w h => List.mem_cons_of_mem _ (List.mem_append_right _ (List.mem_append_left _ h))) hown hK hP 0 rfl rfl 6 (by decide) (hts (.fieldLink RX12 133 "SagMemoryModel" "taped" "I") (wl_mem 1 rfl)) (fun _ h9 => h9) rfl dX12_end_9 ?_
  have bz1 := htO 0
  refine lv_i2l hx hb dX12_end_12 rfl ?_
  have hPc : va_P (dC, dI) vwCl (List.flatten ([] : List va_W)) H := fun k q h => by simp at h
  refine vp_callSi (va_Run.run (va_runS (As := [.long p1.toInt64, .long 0, .long ((tO 0).toInt64)]) (rest := []) ⟨hx, hb, hml, hown, hts⟩ (c_X12_in l dC dI k p1.toInt64 (0 : Int64) ((tO 0).toInt64)) (va_cwS 3 hts (gk_S (wl_mem 2 rfl) (wl_mem 3 rfl) (wl_mem 4 rfl) (fun w h => List.mem_cons_of_mem _ (List.mem_append_right _ (List.mem_append_right _ (List.mem_append_left _ h)))) wkg_c_X12_in) rfl rfl rfl (by decide +kernel) ⟨Nat.le_of_ble_eq_true rfl, Nat.le_of_ble_eq_true rfl⟩) ⟨fun a U g mk q => by obtain ⟨q0, qP, qK⟩ := q; exact ⟨q0, qP, va_K.moved (u := U) (U := U.calling g mk a) (Vm.Alike.refl U.vm) qK⟩, fun U hU hW => ⟨rfl, by rw [hU]; exact hPc, va_K.moved hW.alike hK⟩⟩ rfl rfl hl.1 rfl (lv_room (Nat.le_of_ble_eq_true rfl)) dX12_end_13 ⟨Nat.le_of_ble_eq_true rfl, Nat.le_of_ble_eq_true rfl⟩)) (fun rz3 gz2 => ?_)
  clear hPc
  rcases gz2 with ⟨er, cz4⟩ | ⟨er, cz5, cz6⟩ | ⟨er, cz7, cz8⟩
  · obtain rfl := er.symm
    have zz9 : p1.toInt < (0 : Int) := by have h9 := zi_ltL.mp cz4; simp only [Int32.toInt_toInt64] at h9; exact h9
    refine lv_if_ne (tgt := 21) hx hb dX12_end_16 (by decide) (fun cz10 => ?_) (fun cz10 => ?_)
    · skip
      exact absurd cz10 (by decide)
    · skip
      refine lv_iconst (v := (-1)) hx hb dX12_end_19 (by decide) ?_
      rw [hQ]
      exact W.iret (v := (-1 : Int32)) hx hb hr (fun t ht hW => ⟨⟨(-1 : Int32), (), rfl, trivial, (va_up vO 0 (0 : Int32)), tO, mO, gO, htO, hmO, by rw [ht]; exact hP⟩, hS.F ht⟩) hS.2.2 dX12_end_20
  · obtain rfl := er.symm
    have zz11 : ¬ p1.toInt < (0 : Int) := by intro h9; apply cz5; rw [zi_ltL]; simp only [Int32.toInt_toInt64]; exact h9
    have zz12 : (tO 0).toInt < p1.toInt := by have h9 := zi_ltL.mp cz6; simp only [Int32.toInt_toInt64] at h9; exact h9
    refine lv_if_ne (tgt := 21) hx hb dX12_end_16 (by decide) (fun cz13 => ?_) (fun cz13 => ?_)
    · skip
      exact absurd cz13 (by decide)
    · skip
      refine lv_iconst (v := (-1)) hx hb dX12_end_19 (by decide) ?_
      rw [hQ]
      exact W.iret (v := (-1 : Int32)) hx hb hr (fun t ht hW => ⟨⟨(-1 : Int32), (), rfl, trivial, (va_up vO 0 (0 : Int32)), tO, mO, gO, htO, hmO, by rw [ht]; exact hP⟩, hS.F ht⟩) hS.2.2 dX12_end_20
  · obtain rfl := er.symm
    have zz14 : ¬ p1.toInt < (0 : Int) := by intro h9; apply cz7; rw [zi_ltL]; simp only [Int32.toInt_toInt64]; exact h9
    have zz15 : ¬ (tO 0).toInt < p1.toInt := by intro h9; apply cz8; rw [zi_ltL]; simp only [Int32.toInt_toInt64]; exact h9
    refine lv_if_ne (tgt := 21) hx hb dX12_end_16 (by decide) (fun cz16 => ?_) (fun cz16 => ?_)
    · skip
      refine lv_aload_n hx hb dX12_end_21 rfl (lv_at hl 0 rfl) ?_
      refine lv_iload_n hx hb dX12_end_22 rfl (lv_at hl 1 rfl) ?_
      refine va_put (D := (dC, dI)) (ci := 12) (v := .int p1) (ty := .int) (C := RX12) (T := TX12) (N := 59) hx hb hts (fun w h => List.mem_cons_of_mem _ (List.mem_append_right _ (List.mem_append_left _ h))) tyX12 tyX12_ok nmX12 hown hK hP hD hS 0 rfl rfl 6 (by decide) (hts (.fieldLink RX12 133 "SagMemoryModel" "taped" "I") (wl_mem 1 rfl)) (fun _ h9 => h9) rfl (by decide +kernel) rfl rfl (Nat.le_of_ble_eq_true rfl) dX12_end_23 (fun H locs hP hD hS => ?_)
      have hP : va_P (dC, dI) vwCl (List.flatten [(wMO qO k widthO manyO cellsO movedO tapeO linesO hasO bridgeO cartO wardO frostAtO actO isKeptO loadNowO byNowO rowO memoryO whoseO deepNowO brokenByO brokenAtO goesByO comesToO sagMoreO creakOfO wipedByO deepAtO sagAtO loadAtO orderRowO oftenO lossOneO lossOtherO (va_up vO 0 (0 : Int32)) (va_up tO 0 p1) mO gO)] ++ List.flatten ([] : List va_W)) H := hP
      have hD : va_D A (List.flatten [(wMO qO k widthO manyO cellsO movedO tapeO linesO hasO bridgeO cartO wardO frostAtO actO isKeptO loadNowO byNowO rowO memoryO whoseO deepNowO brokenByO brokenAtO goesByO comesToO sagMoreO creakOfO wipedByO deepAtO sagAtO loadAtO orderRowO oftenO lossOneO lossOtherO (va_up vO 0 (0 : Int32)) (va_up tO 0 p1) mO gO)] ++ List.flatten ([] : List va_W)) := hD
      refine lv_iload_n hx hb dX12_end_26 rfl (lv_at hl 1 rfl) ?_
      rw [hQ]
      exact W.iret (v := p1) hx hb hr (fun t ht hW => ⟨⟨p1, (), rfl, trivial, (va_up vO 0 (0 : Int32)), (va_up tO 0 p1), mO, gO, (rg_up htO (by show 0 ≤ p1.toInt ∧ p1.toInt ≤ 700; omega)), hmO, by rw [ht]; exact hP⟩, hS.F ht⟩) hS.2.2 dX12_end_27
    · skip
      exact absurd cz16 (by decide)
def wk_c_X12_isGood : List Cond := .code yX12_isGood cX12_isGood 1 (some .boolean) :: ([.fieldLink RX12 168 "SagMemoryModel" "bad" "I"] ++ (wsX120 ++ []))
theorem wkg_c_X12_isGood : wk_c_X12_isGood.all goodWord = true := by decide +kernel
set_option maxHeartbeats 4000000 in
set_option maxRecDepth 100000 in
theorem c_X12_isGood (l : Launch) (dC : Nat → ClassId) (dI : Nat → Nat → Nat) (k : Nat → ClassId) (qO : Nat → Nat) (widthO : Nat) (manyO : Nat) (cellsO : Nat) (movedO : Nat) (tapeO : Nat) (linesO : Nat) (hasO : Nat) (bridgeO : Nat) (cartO : Nat) (wardO : Nat) (frostAtO : Nat) (actO : Nat) (isKeptO : Nat) (loadNowO : Nat) (byNowO : Nat) (rowO : Nat) (memoryO : Nat) (whoseO : Nat) (deepNowO : Nat) (brokenByO : Nat) (brokenAtO : Nat) (goesByO : Nat) (comesToO : Nat) (sagMoreO : Nat) (creakOfO : Nat) (wipedByO : Nat) (deepAtO : Nat) (sagAtO : Nat) (loadAtO : Nat) (orderRowO : Nat) (oftenO : Nat) (lossOneO : Nat) (lossOtherO : Nat) (vO : Nat → Int32) (tO : Nat → Int32) (mO : Nat → Int32) (gO : Nat → Int64) (htO : Rg 0 700 tO) (hmO : Rg (-1) 127 mO) : Met l yX12_isGood wk_c_X12_isGood ({ frames := 0, cells := 0, slots := 0, locals := 0 }) (va_Pc [.ref (qO 0)] (fun U => va_P (dC, dI) vwCl (List.flatten [(wMO qO k widthO manyO cellsO movedO tapeO linesO hasO bridgeO cartO wardO frostAtO actO isKeptO loadNowO byNowO rowO memoryO whoseO deepNowO brokenByO brokenAtO goesByO comesToO sagMoreO creakOfO wipedByO deepAtO sagAtO loadAtO orderRowO oftenO lossOneO lossOtherO vO tO mO gO)]) U.heap ∧ va_K (dC, dI) vwCl (tK k) U)) (vp_Si (fun r : Int32 => (r = 0 ∧ ¬ (vO 4) = (0 : Int32)) ∨ (r = 1 ∧ (vO 4) = (0 : Int32)))) 0 0 (fun _ => False) := by
  refine Met.ofW (cc := cX12_isGood) (maxL := 1) (ret := (some .boolean)) (by decide) rfl ?_
  intro p e s m args below meth c s₁ B hml hv
  obtain ⟨rfl, hP, hK⟩ := hv
  have hx := B.exec
  have hb := B.bytes
  have hr := B.returns
  have hts := atoms_spec (ws := wk_c_X12_isGood) B.pre
  have hown : s.vm.findClass RX12 = some m.cls := findClass_of_methodNamed B.named
  have hlocks := B.notSynchronized
  have hP : va_P (dC, dI) vwCl (List.flatten [(wMO qO k widthO manyO cellsO movedO tapeO linesO hasO bridgeO cartO wardO frostAtO actO isKeptO loadNowO byNowO rowO memoryO whoseO deepNowO brokenByO brokenAtO goesByO comesToO sagMoreO creakOfO wipedByO deepAtO sagAtO loadAtO orderRowO oftenO lossOneO lossOtherO vO tO mO gO)]) s.heap := hP
  have hl := lv_entry ([.ref (qO 0)]) (n := 1) (Nat.le_of_ble_eq_true rfl)
  rw [lg_entry_eq]
  generalize (lg_sl ([.ref (qO 0)]) ++ List.replicate (1 - (lg_sl ([.ref (qO 0)])).length) Slot.unset).toArray = ls at hl ⊢
  have hl : lv_has ls 1 [(0, .ref (qO 0))] := hl
  refine w_gen (fun Q hQ => ?_)
  refine lv_aload_n hx hb dX12_isGood_0 rfl (lv_at hl 0 rfl) ?_
  refine va_get (D := (dC, dI)) (ci := 12) (v := .int (vO 4)) (C := RX12) (T := TX12) (N := 59) hx hb hts (fun w h => List.mem_cons_of_mem _ (List.mem_append_right _ (List.mem_append_left _ h))) hown hK hP 0 rfl rfl 12 (by decide) (hts (.fieldLink RX12 168 "SagMemoryModel" "bad" "I") (wl_mem 0 rfl)) (fun _ h9 => h9) rfl dX12_isGood_1 ?_
  refine lv_if_ne (tgt := 11) hx hb dX12_isGood_4 (by decide) (fun cz1 => ?_) (fun cz1 => ?_)
  · skip
    have zz2 : ¬ (vO 4).toInt = (0 : Int) := fun h9 => cz1 (zi_eq.mpr h9)
    refine lv_iconst (v := 0) hx hb dX12_isGood_11 (by decide) ?_
    rw [hQ]
    exact W.zret (v := (0 : Int32)) hx hb hr rfl (fun t ht hW => ⟨(0 : Int32), rfl, Or.inl ⟨rfl, cz1⟩, ht⟩) (fun _ h => absurd h List.not_mem_nil) dX12_isGood_12
  · skip
    have zz3 : (vO 4).toInt = (0 : Int) := zi_eq.mp cz1
    refine lv_iconst (v := 1) hx hb dX12_isGood_7 (by decide) ?_
    refine lv_goto (tgt := 12) hx hb dX12_isGood_8 (by decide) ?_
    rw [hQ]
    exact W.zret (v := (1 : Int32)) hx hb hr rfl (fun t ht hW => ⟨(1 : Int32), rfl, Or.inr (⟨rfl, cz1⟩), ht⟩) (fun _ h => absurd h List.not_mem_nil) dX12_isGood_12
def wk_c_X12_fault : List Cond := .code yX12_fault cX12_fault 2 (some .int) :: ([.fieldLink RX12 116 "SagMemoryModel" "thrown" "I", .fieldLink RX12 27 "SagMemoryModel" "faultPlace" "I", .fieldLink RX12 195 "SagMemoryModel" "fault" "I"] ++ (wsX120 ++ []))
theorem wkg_c_X12_fault : wk_c_X12_fault.all goodWord = true := by decide +kernel
set_option maxHeartbeats 4000000 in
set_option maxRecDepth 100000 in
theorem c_X12_fault (l : Launch) (dC : Nat → ClassId) (dI : Nat → Nat → Nat) (k : Nat → ClassId) (sz : Nat) (qO : Nat → Nat) (widthO : Nat) (manyO : Nat) (cellsO : Nat) (movedO : Nat) (tapeO : Nat) (linesO : Nat) (hasO : Nat) (bridgeO : Nat) (cartO : Nat) (wardO : Nat) (frostAtO : Nat) (actO : Nat) (isKeptO : Nat) (loadNowO : Nat) (byNowO : Nat) (rowO : Nat) (memoryO : Nat) (whoseO : Nat) (deepNowO : Nat) (brokenByO : Nat) (brokenAtO : Nat) (goesByO : Nat) (comesToO : Nat) (sagMoreO : Nat) (creakOfO : Nat) (wipedByO : Nat) (deepAtO : Nat) (sagAtO : Nat) (loadAtO : Nat) (orderRowO : Nat) (oftenO : Nat) (lossOneO : Nat) (lossOtherO : Nat) (vO : Nat → Int32) (tO : Nat → Int32) (mO : Nat → Int32) (gO : Nat → Int64) (p1 : Int32) (htO : Rg 0 700 tO) (hmO : Rg (-1) 127 mO) : Met l yX12_fault wk_c_X12_fault ({ frames := 0, cells := 0, slots := 0, locals := 0 }) (va_Pc [.ref (qO 0), .int p1] (fun U => U.heap.size = sz ∧ va_P (dC, dI) vwCl (List.flatten [(wMO qO k widthO manyO cellsO movedO tapeO linesO hasO bridgeO cartO wardO frostAtO actO isKeptO loadNowO byNowO rowO memoryO whoseO deepNowO brokenByO brokenAtO goesByO comesToO sagMoreO creakOfO wipedByO deepAtO sagAtO loadAtO orderRowO oftenO lossOneO lossOtherO vO tO mO gO)] ++ List.flatten ([] : List va_W)) U.heap ∧ va_K (dC, dI) vwCl (tK k) U ∧ va_D (fun _ => True) (List.flatten [(wMO qO k widthO manyO cellsO movedO tapeO linesO hasO bridgeO cartO wardO frostAtO actO isKeptO loadNowO byNowO rowO memoryO whoseO deepNowO brokenByO brokenAtO goesByO comesToO sagMoreO creakOfO wipedByO deepAtO sagAtO loadAtO orderRowO oftenO lossOneO lossOtherO vO tO mO gO)] ++ List.flatten ([] : List va_W)))) (va_Qi (fun (r : Int32) (_ : Unit) => True) (fun (_ : Unit) (t : State) => ∃ (vO' : Nat → Int32) (tO' : Nat → Int32) (mO' : Nat → Int32) (gO' : Nat → Int64), Rg 0 700 tO' ∧ Rg (-1) 127 mO' ∧ va_P (dC, dI) vwCl (List.flatten [(wMO qO k widthO manyO cellsO movedO tapeO linesO hasO bridgeO cartO wardO frostAtO actO isKeptO loadNowO byNowO rowO memoryO whoseO deepNowO brokenByO brokenAtO goesByO comesToO sagMoreO creakOfO wipedByO deepAtO sagAtO loadAtO orderRowO oftenO lossOneO lossOtherO vO' tO' mO' gO')] ++ List.flatten ([] : List va_W)) t.heap) (va_A (List.flatten [(wMO qO k widthO manyO cellsO movedO tapeO linesO hasO bridgeO cartO wardO frostAtO actO isKeptO loadNowO byNowO rowO memoryO whoseO deepNowO brokenByO brokenAtO goesByO comesToO sagMoreO creakOfO wipedByO deepAtO sagAtO loadAtO orderRowO oftenO lossOneO lossOtherO vO tO mO gO)] ++ List.flatten ([] : List va_W)) sz)) 0 0 (va_A (List.flatten [(wMO qO k widthO manyO cellsO movedO tapeO linesO hasO bridgeO cartO wardO frostAtO actO isKeptO loadNowO byNowO rowO memoryO whoseO deepNowO brokenByO brokenAtO goesByO comesToO sagMoreO creakOfO wipedByO deepAtO sagAtO loadAtO orderRowO oftenO lossOneO lossOtherO vO tO mO gO)] ++ List.flatten ([] : List va_W)) sz) := by
  refine Met.ofW (cc := cX12_fault) (maxL := 2) (ret := (some .int)) (by decide) rfl ?_
  intro p e s m args below meth c s₁ B hml hv
  obtain ⟨rfl, hsz, hP, hK, hD0⟩ := hv
  have hx := B.exec
  have hb := B.bytes
  have hr := B.returns
  have hts := atoms_spec (ws := wk_c_X12_fault) B.pre
  have hown : s.vm.findClass RX12 = some m.cls := findClass_of_methodNamed B.named
  have hlocks := B.notSynchronized
  subst hsz
  have hD := hD0.self (sz := s.heap.size)
  generalize hAe : va_A (List.flatten [(wMO qO k widthO manyO cellsO movedO tapeO linesO hasO bridgeO cartO wardO frostAtO actO isKeptO loadNowO byNowO rowO memoryO whoseO deepNowO brokenByO brokenAtO goesByO comesToO sagMoreO creakOfO wipedByO deepAtO sagAtO loadAtO orderRowO oftenO lossOneO lossOtherO vO tO mO gO)] ++ List.flatten ([] : List va_W)) s.heap.size = A at hD ⊢
  have hA : ∀ q : Nat, s.heap.size ≤ q → A q := fun q h => by rw [← hAe]; exact Or.inr h
  have hS : va_S A s.heap s.heap [] := va_S.rf
  have hP : va_P (dC, dI) vwCl (List.flatten [(wMO qO k widthO manyO cellsO movedO tapeO linesO hasO bridgeO cartO wardO frostAtO actO isKeptO loadNowO byNowO rowO memoryO whoseO deepNowO brokenByO brokenAtO goesByO comesToO sagMoreO creakOfO wipedByO deepAtO sagAtO loadAtO orderRowO oftenO lossOneO lossOtherO vO tO mO gO)] ++ List.flatten ([] : List va_W)) s.heap := hP
  have hl := lv_entry ([.ref (qO 0), .int p1]) (n := 2) (Nat.le_of_ble_eq_true rfl)
  rw [lg_entry_eq]
  generalize (lg_sl ([.ref (qO 0), .int p1]) ++ List.replicate (2 - (lg_sl ([.ref (qO 0), .int p1])).length) Slot.unset).toArray = ls at hl ⊢
  have hl : lv_has ls 2 [(0, .ref (qO 0)), (1, .int p1)] := hl
  refine w_gen (fun Q hQ => ?_)
  refine lv_aload_n hx hb dX12_fault_0 rfl (lv_at hl 0 rfl) ?_
  refine lv_iconst (v := 0) hx hb dX12_fault_1 (by decide) ?_
  refine va_put (D := (dC, dI)) (ci := 12) (v := .int 0) (ty := .int) (C := RX12) (T := TX12) (N := 59) hx hb hts (fun w h => List.mem_cons_of_mem _ (List.mem_append_right _ (List.mem_append_left _ h))) tyX12 tyX12_ok nmX12 hown hK hP hD hS 0 rfl rfl 0 (by decide) (hts (.fieldLink RX12 116 "SagMemoryModel" "thrown" "I") (wl_mem 0 rfl)) (fun _ h9 => h9) rfl (by decide +kernel) rfl rfl (Nat.le_of_ble_eq_true rfl) dX12_fault_2 (fun H locs hP hD hS => ?_)
  have hP : va_P (dC, dI) vwCl (List.flatten [(wMO qO k widthO manyO cellsO movedO tapeO linesO hasO bridgeO cartO wardO frostAtO actO isKeptO loadNowO byNowO rowO memoryO whoseO deepNowO brokenByO brokenAtO goesByO comesToO sagMoreO creakOfO wipedByO deepAtO sagAtO loadAtO orderRowO oftenO lossOneO lossOtherO (va_up vO 0 (0 : Int32)) tO mO gO)] ++ List.flatten ([] : List va_W)) H := hP
  have hD : va_D A (List.flatten [(wMO qO k widthO manyO cellsO movedO tapeO linesO hasO bridgeO cartO wardO frostAtO actO isKeptO loadNowO byNowO rowO memoryO whoseO deepNowO brokenByO brokenAtO goesByO comesToO sagMoreO creakOfO wipedByO deepAtO sagAtO loadAtO orderRowO oftenO lossOneO lossOtherO (va_up vO 0 (0 : Int32)) tO mO gO)] ++ List.flatten ([] : List va_W)) := hD
  refine lv_iload_n hx hb dX12_fault_5 rfl (lv_at hl 1 rfl) ?_
  refine lv_if_ne (tgt := 16) hx hb dX12_fault_6 (by decide) (fun cz1 => ?_) (fun cz1 => ?_)
  · skip
    have zz2 : ¬ p1.toInt = (0 : Int) := fun h9 => cz1 (zi_eq.mpr h9)
    refine lv_iload_n hx hb dX12_fault_16 rfl (lv_at hl 1 rfl) ?_
    refine lv_iconst (v := 1) hx hb dX12_fault_17 (by decide) ?_
    refine lv_icmp_ne (tgt := 28) hx hb dX12_fault_18 (by decide) (fun cz3 => ?_) (fun cz3 => ?_)
    · skip
      have zz4 : ¬ p1.toInt = (1 : Int) := fun h9 => cz3 (zi_eq.mpr h9)
      refine lv_iconst (v := (-1)) hx hb dX12_fault_28 (by decide) ?_
      rw [hQ]
      exact W.iret (v := (-1 : Int32)) hx hb hr (fun t ht hW => ⟨⟨(-1 : Int32), (), rfl, trivial, (va_up vO 0 (0 : Int32)), tO, mO, gO, htO, hmO, by rw [ht]; exact hP⟩, hS.F ht⟩) hS.2.2 dX12_fault_29
    · skip
      have zz5 : p1.toInt = (1 : Int) := zi_eq.mp cz3
      refine lv_aload_n hx hb dX12_fault_21 rfl (lv_at hl 0 rfl) ?_
      refine va_get (D := (dC, dI)) (ci := 12) (v := .int (vO 7)) (C := RX12) (T := TX12) (N := 59) hx hb hts (fun w h => List.mem_cons_of_mem _ (List.mem_append_right _ (List.mem_append_left _ h))) hown hK hP 0 rfl rfl 15 (by decide) (hts (.fieldLink RX12 27 "SagMemoryModel" "faultPlace" "I") (wl_mem 1 rfl)) (fun _ h9 => h9) rfl dX12_fault_22 ?_
      refine lv_goto (tgt := 29) hx hb dX12_fault_25 (by decide) ?_
      rw [hQ]
      exact W.iret (v := (vO 7)) hx hb hr (fun t ht hW => ⟨⟨(vO 7), (), rfl, trivial, (va_up vO 0 (0 : Int32)), tO, mO, gO, htO, hmO, by rw [ht]; exact hP⟩, hS.F ht⟩) hS.2.2 dX12_fault_29
  · skip
    have zz6 : p1.toInt = (0 : Int) := zi_eq.mp cz1
    refine lv_aload_n hx hb dX12_fault_9 rfl (lv_at hl 0 rfl) ?_
    refine va_get (D := (dC, dI)) (ci := 12) (v := .int (vO 6)) (C := RX12) (T := TX12) (N := 59) hx hb hts (fun w h => List.mem_cons_of_mem _ (List.mem_append_right _ (List.mem_append_left _ h))) hown hK hP 0 rfl rfl 14 (by decide) (hts (.fieldLink RX12 195 "SagMemoryModel" "fault" "I") (wl_mem 2 rfl)) (fun _ h9 => h9) rfl dX12_fault_10 ?_
    refine lv_goto (tgt := 29) hx hb dX12_fault_13 (by decide) ?_
    rw [hQ]
    exact W.iret (v := (vO 6)) hx hb hr (fun t ht hW => ⟨⟨(vO 6), (), rfl, trivial, (va_up vO 0 (0 : Int32)), tO, mO, gO, htO, hmO, by rw [ht]; exact hP⟩, hS.F ht⟩) hS.2.2 dX12_fault_29
def wk_c_X12_fails : List Cond := .code yX12_fails cX12_fails 2 none :: ([.fieldLink RX12 168 "SagMemoryModel" "bad" "I", .fieldLink RX12 147 "SagMemoryModel" "place" "I", .fieldLink RX12 171 "SagMemoryModel" "badPlace" "I"] ++ (wsX120 ++ []))
theorem wkg_c_X12_fails : wk_c_X12_fails.all goodWord = true := by decide +kernel
set_option maxHeartbeats 4000000 in
set_option maxRecDepth 100000 in
theorem c_X12_fails (l : Launch) (dC : Nat → ClassId) (dI : Nat → Nat → Nat) (k : Nat → ClassId) (sz : Nat) (qO : Nat → Nat) (widthO : Nat) (manyO : Nat) (cellsO : Nat) (movedO : Nat) (tapeO : Nat) (linesO : Nat) (hasO : Nat) (bridgeO : Nat) (cartO : Nat) (wardO : Nat) (frostAtO : Nat) (actO : Nat) (isKeptO : Nat) (loadNowO : Nat) (byNowO : Nat) (rowO : Nat) (memoryO : Nat) (whoseO : Nat) (deepNowO : Nat) (brokenByO : Nat) (brokenAtO : Nat) (goesByO : Nat) (comesToO : Nat) (sagMoreO : Nat) (creakOfO : Nat) (wipedByO : Nat) (deepAtO : Nat) (sagAtO : Nat) (loadAtO : Nat) (orderRowO : Nat) (oftenO : Nat) (lossOneO : Nat) (lossOtherO : Nat) (vO : Nat → Int32) (tO : Nat → Int32) (mO : Nat → Int32) (gO : Nat → Int64) (p1 : Int32) (htO : Rg 0 700 tO) (hmO : Rg (-1) 127 mO) : Met l yX12_fails wk_c_X12_fails ({ frames := 0, cells := 0, slots := 0, locals := 0 }) (va_Pc [.ref (qO 0), .int p1] (fun U => U.heap.size = sz ∧ va_P (dC, dI) vwCl (List.flatten [(wMO qO k widthO manyO cellsO movedO tapeO linesO hasO bridgeO cartO wardO frostAtO actO isKeptO loadNowO byNowO rowO memoryO whoseO deepNowO brokenByO brokenAtO goesByO comesToO sagMoreO creakOfO wipedByO deepAtO sagAtO loadAtO orderRowO oftenO lossOneO lossOtherO vO tO mO gO)] ++ List.flatten ([] : List va_W)) U.heap ∧ va_K (dC, dI) vwCl (tK k) U ∧ va_D (fun _ => True) (List.flatten [(wMO qO k widthO manyO cellsO movedO tapeO linesO hasO bridgeO cartO wardO frostAtO actO isKeptO loadNowO byNowO rowO memoryO whoseO deepNowO brokenByO brokenAtO goesByO comesToO sagMoreO creakOfO wipedByO deepAtO sagAtO loadAtO orderRowO oftenO lossOneO lossOtherO vO tO mO gO)] ++ List.flatten ([] : List va_W)))) (va_Qv (fun _ : Unit => True) (fun (_ : Unit) (t : State) => ∃ (vO' : Nat → Int32) (tO' : Nat → Int32) (mO' : Nat → Int32) (gO' : Nat → Int64), Rg 0 700 tO' ∧ Rg (-1) 127 mO' ∧ (((vO 4).toInt ≠ 0 ∧ (vO' 4).toInt = (vO 4).toInt) ∨ ((vO 4).toInt = 0 ∧ (vO' 4).toInt = p1.toInt)) ∧ ((tO' 0).toInt = (tO 0).toInt) ∧ ((tO' 1).toInt = (tO 1).toInt) ∧ ((vO' 1).toInt = (vO 1).toInt) ∧ ((vO' 3).toInt = (vO 3).toInt) ∧ va_P (dC, dI) vwCl (List.flatten [(wMO qO k widthO manyO cellsO movedO tapeO linesO hasO bridgeO cartO wardO frostAtO actO isKeptO loadNowO byNowO rowO memoryO whoseO deepNowO brokenByO brokenAtO goesByO comesToO sagMoreO creakOfO wipedByO deepAtO sagAtO loadAtO orderRowO oftenO lossOneO lossOtherO vO' tO' mO' gO')] ++ List.flatten ([] : List va_W)) t.heap) (va_A (List.flatten [(wMO qO k widthO manyO cellsO movedO tapeO linesO hasO bridgeO cartO wardO frostAtO actO isKeptO loadNowO byNowO rowO memoryO whoseO deepNowO brokenByO brokenAtO goesByO comesToO sagMoreO creakOfO wipedByO deepAtO sagAtO loadAtO orderRowO oftenO lossOneO lossOtherO vO tO mO gO)] ++ List.flatten ([] : List va_W)) sz)) 0 0 (va_A (List.flatten [(wMO qO k widthO manyO cellsO movedO tapeO linesO hasO bridgeO cartO wardO frostAtO actO isKeptO loadNowO byNowO rowO memoryO whoseO deepNowO brokenByO brokenAtO goesByO comesToO sagMoreO creakOfO wipedByO deepAtO sagAtO loadAtO orderRowO oftenO lossOneO lossOtherO vO tO mO gO)] ++ List.flatten ([] : List va_W)) sz) := by
  refine Met.ofW (cc := cX12_fails) (maxL := 2) (ret := none) (by decide) rfl ?_
  intro p e s m args below meth c s₁ B hml hv
  obtain ⟨rfl, hsz, hP, hK, hD0⟩ := hv
  have hx := B.exec
  have hb := B.bytes
  have hr := B.returns
  have hts := atoms_spec (ws := wk_c_X12_fails) B.pre
  have hown : s.vm.findClass RX12 = some m.cls := findClass_of_methodNamed B.named
  have hlocks := B.notSynchronized
  subst hsz
  have hD := hD0.self (sz := s.heap.size)
  generalize hAe : va_A (List.flatten [(wMO qO k widthO manyO cellsO movedO tapeO linesO hasO bridgeO cartO wardO frostAtO actO isKeptO loadNowO byNowO rowO memoryO whoseO deepNowO brokenByO brokenAtO goesByO comesToO sagMoreO creakOfO wipedByO deepAtO sagAtO loadAtO orderRowO oftenO lossOneO lossOtherO vO tO mO gO)] ++ List.flatten ([] : List va_W)) s.heap.size = A at hD ⊢
  have hA : ∀ q : Nat, s.heap.size ≤ q → A q := fun q h => by rw [← hAe]; exact Or.inr h
  have hS : va_S A s.heap s.heap [] := va_S.rf
  have hP : va_P (dC, dI) vwCl (List.flatten [(wMO qO k widthO manyO cellsO movedO tapeO linesO hasO bridgeO cartO wardO frostAtO actO isKeptO loadNowO byNowO rowO memoryO whoseO deepNowO brokenByO brokenAtO goesByO comesToO sagMoreO creakOfO wipedByO deepAtO sagAtO loadAtO orderRowO oftenO lossOneO lossOtherO vO tO mO gO)] ++ List.flatten ([] : List va_W)) s.heap := hP
  have hl := lv_entry ([.ref (qO 0), .int p1]) (n := 2) (Nat.le_of_ble_eq_true rfl)
  rw [lg_entry_eq]
  generalize (lg_sl ([.ref (qO 0), .int p1]) ++ List.replicate (2 - (lg_sl ([.ref (qO 0), .int p1])).length) Slot.unset).toArray = ls at hl ⊢
  have hl : lv_has ls 2 [(0, .ref (qO 0)), (1, .int p1)] := hl
  refine w_gen (fun Q hQ => ?_)
  refine lv_aload_n hx hb dX12_fails_0 rfl (lv_at hl 0 rfl) ?_
  refine va_get (D := (dC, dI)) (ci := 12) (v := .int (vO 4)) (C := RX12) (T := TX12) (N := 59) hx hb hts (fun w h => List.mem_cons_of_mem _ (List.mem_append_right _ (List.mem_append_left _ h))) hown hK hP 0 rfl rfl 12 (by decide) (hts (.fieldLink RX12 168 "SagMemoryModel" "bad" "I") (wl_mem 0 rfl)) (fun _ h9 => h9) rfl dX12_fails_1 ?_
  refine lv_if_eq (tgt := 8) hx hb dX12_fails_4 (by decide) (fun cz1 => ?_) (fun cz1 => ?_)
  · skip
    have zz2 : (vO 4).toInt = (0 : Int) := zi_eq.mp cz1
    refine lv_aload_n hx hb dX12_fails_8 rfl (lv_at hl 0 rfl) ?_
    refine lv_iload_n hx hb dX12_fails_9 rfl (lv_at hl 1 rfl) ?_
    refine va_put (D := (dC, dI)) (ci := 12) (v := .int p1) (ty := .int) (C := RX12) (T := TX12) (N := 59) hx hb hts (fun w h => List.mem_cons_of_mem _ (List.mem_append_right _ (List.mem_append_left _ h))) tyX12 tyX12_ok nmX12 hown hK hP hD hS 0 rfl rfl 12 (by decide) (hts (.fieldLink RX12 168 "SagMemoryModel" "bad" "I") (wl_mem 0 rfl)) (fun _ h9 => h9) rfl (by decide +kernel) rfl rfl (Nat.le_of_ble_eq_true rfl) dX12_fails_10 (fun H locs hP hD hS => ?_)
    have hP : va_P (dC, dI) vwCl (List.flatten [(wMO qO k widthO manyO cellsO movedO tapeO linesO hasO bridgeO cartO wardO frostAtO actO isKeptO loadNowO byNowO rowO memoryO whoseO deepNowO brokenByO brokenAtO goesByO comesToO sagMoreO creakOfO wipedByO deepAtO sagAtO loadAtO orderRowO oftenO lossOneO lossOtherO (va_up vO 4 p1) tO mO gO)] ++ List.flatten ([] : List va_W)) H := hP
    have hD : va_D A (List.flatten [(wMO qO k widthO manyO cellsO movedO tapeO linesO hasO bridgeO cartO wardO frostAtO actO isKeptO loadNowO byNowO rowO memoryO whoseO deepNowO brokenByO brokenAtO goesByO comesToO sagMoreO creakOfO wipedByO deepAtO sagAtO loadAtO orderRowO oftenO lossOneO lossOtherO (va_up vO 4 p1) tO mO gO)] ++ List.flatten ([] : List va_W)) := hD
    refine lv_aload_n hx hb dX12_fails_13 rfl (lv_at hl 0 rfl) ?_
    refine lv_aload_n hx hb dX12_fails_14 rfl (lv_at hl 0 rfl) ?_
    refine va_get (D := (dC, dI)) (ci := 12) (v := .int (vO 2)) (C := RX12) (T := TX12) (N := 59) hx hb hts (fun w h => List.mem_cons_of_mem _ (List.mem_append_right _ (List.mem_append_left _ h))) hown hK hP 0 rfl rfl 9 (by decide) (hts (.fieldLink RX12 147 "SagMemoryModel" "place" "I") (wl_mem 1 rfl)) (fun _ h9 => h9) rfl dX12_fails_15 ?_
    refine va_put (D := (dC, dI)) (ci := 12) (v := .int (vO 2)) (ty := .int) (C := RX12) (T := TX12) (N := 59) hx hb hts (fun w h => List.mem_cons_of_mem _ (List.mem_append_right _ (List.mem_append_left _ h))) tyX12 tyX12_ok nmX12 hown hK hP hD hS 0 rfl rfl 13 (by decide) (hts (.fieldLink RX12 171 "SagMemoryModel" "badPlace" "I") (wl_mem 2 rfl)) (fun _ h9 => h9) rfl (by decide +kernel) rfl rfl (Nat.le_of_ble_eq_true rfl) dX12_fails_18 (fun H locs hP hD hS => ?_)
    have hP : va_P (dC, dI) vwCl (List.flatten [(wMO qO k widthO manyO cellsO movedO tapeO linesO hasO bridgeO cartO wardO frostAtO actO isKeptO loadNowO byNowO rowO memoryO whoseO deepNowO brokenByO brokenAtO goesByO comesToO sagMoreO creakOfO wipedByO deepAtO sagAtO loadAtO orderRowO oftenO lossOneO lossOtherO (va_up (va_up vO 4 p1) 5 (vO 2)) tO mO gO)] ++ List.flatten ([] : List va_W)) H := hP
    have hD : va_D A (List.flatten [(wMO qO k widthO manyO cellsO movedO tapeO linesO hasO bridgeO cartO wardO frostAtO actO isKeptO loadNowO byNowO rowO memoryO whoseO deepNowO brokenByO brokenAtO goesByO comesToO sagMoreO creakOfO wipedByO deepAtO sagAtO loadAtO orderRowO oftenO lossOneO lossOtherO (va_up (va_up vO 4 p1) 5 (vO 2)) tO mO gO)] ++ List.flatten ([] : List va_W)) := hD
    rw [hQ]
    exact W.vret hx hb hr (fun t ht hW => ⟨⟨(), rfl, trivial, (va_up (va_up vO 4 p1) 5 (vO 2)), tO, mO, gO, htO, hmO, (by show ((vO 4).toInt ≠ 0 ∧ p1.toInt = (vO 4).toInt) ∨ ((vO 4).toInt = 0 ∧ p1.toInt = p1.toInt); omega), (by show (tO 0).toInt = (tO 0).toInt; omega), (by show (tO 1).toInt = (tO 1).toInt; omega), (by show (vO 1).toInt = (vO 1).toInt; omega), (by show (vO 3).toInt = (vO 3).toInt; omega), by rw [ht]; exact hP⟩, hS.F ht⟩) hS.2.2 dX12_fails_21
  · skip
    have zz3 : ¬ (vO 4).toInt = (0 : Int) := fun h9 => cz1 (zi_eq.mpr h9)
    rw [hQ]
    exact W.vret hx hb hr (fun t ht hW => ⟨⟨(), rfl, trivial, vO, tO, mO, gO, htO, hmO, (by show ((vO 4).toInt ≠ 0 ∧ (vO 4).toInt = (vO 4).toInt) ∨ ((vO 4).toInt = 0 ∧ (vO 4).toInt = p1.toInt); omega), (by show (tO 0).toInt = (tO 0).toInt; omega), (by show (tO 1).toInt = (tO 1).toInt; omega), (by show (vO 1).toInt = (vO 1).toInt; omega), (by show (vO 3).toInt = (vO 3).toInt; omega), by rw [ht]; exact hP⟩, hS.F ht⟩) hS.2.2 dX12_fails_7
def wk_c_X12_is : List Cond := .code yX12_is cX12_is 3 (some .boolean) :: ([.fieldLink RX12 168 "SagMemoryModel" "bad" "I", .fieldLink RX12 157 "SagMemoryModel" "token" "I", .fieldLink RX12 153 "SagMemoryModel" "word" "J"] ++ (wsX120 ++ []))
theorem wkg_c_X12_is : wk_c_X12_is.all goodWord = true := by decide +kernel
set_option maxHeartbeats 4000000 in
set_option maxRecDepth 100000 in
theorem c_X12_is (l : Launch) (dC : Nat → ClassId) (dI : Nat → Nat → Nat) (k : Nat → ClassId) (qO : Nat → Nat) (widthO : Nat) (manyO : Nat) (cellsO : Nat) (movedO : Nat) (tapeO : Nat) (linesO : Nat) (hasO : Nat) (bridgeO : Nat) (cartO : Nat) (wardO : Nat) (frostAtO : Nat) (actO : Nat) (isKeptO : Nat) (loadNowO : Nat) (byNowO : Nat) (rowO : Nat) (memoryO : Nat) (whoseO : Nat) (deepNowO : Nat) (brokenByO : Nat) (brokenAtO : Nat) (goesByO : Nat) (comesToO : Nat) (sagMoreO : Nat) (creakOfO : Nat) (wipedByO : Nat) (deepAtO : Nat) (sagAtO : Nat) (loadAtO : Nat) (orderRowO : Nat) (oftenO : Nat) (lossOneO : Nat) (lossOtherO : Nat) (vO : Nat → Int32) (tO : Nat → Int32) (mO : Nat → Int32) (gO : Nat → Int64) (p1 : Int64) (htO : Rg 0 700 tO) (hmO : Rg (-1) 127 mO) : Met l yX12_is wk_c_X12_is ({ frames := 0, cells := 0, slots := 0, locals := 0 }) (va_Pc [.ref (qO 0), .long p1] (fun U => va_P (dC, dI) vwCl (List.flatten [(wMO qO k widthO manyO cellsO movedO tapeO linesO hasO bridgeO cartO wardO frostAtO actO isKeptO loadNowO byNowO rowO memoryO whoseO deepNowO brokenByO brokenAtO goesByO comesToO sagMoreO creakOfO wipedByO deepAtO sagAtO loadAtO orderRowO oftenO lossOneO lossOtherO vO tO mO gO)]) U.heap ∧ va_K (dC, dI) vwCl (tK k) U)) (vp_Si (fun r : Int32 => (r.toInt = 0 ∨ ((vO 4).toInt = 0 ∧ (vO 1).toInt = 1)) ∧ (r.toInt = 0 ∨ r.toInt = 1))) 0 0 (fun _ => False) := by
  refine Met.ofW (cc := cX12_is) (maxL := 3) (ret := (some .boolean)) (by decide) rfl ?_
  intro p e s m args below meth c s₁ B hml hv
  obtain ⟨rfl, hP, hK⟩ := hv
  have hx := B.exec
  have hb := B.bytes
  have hr := B.returns
  have hts := atoms_spec (ws := wk_c_X12_is) B.pre
  have hown : s.vm.findClass RX12 = some m.cls := findClass_of_methodNamed B.named
  have hlocks := B.notSynchronized
  have hP : va_P (dC, dI) vwCl (List.flatten [(wMO qO k widthO manyO cellsO movedO tapeO linesO hasO bridgeO cartO wardO frostAtO actO isKeptO loadNowO byNowO rowO memoryO whoseO deepNowO brokenByO brokenAtO goesByO comesToO sagMoreO creakOfO wipedByO deepAtO sagAtO loadAtO orderRowO oftenO lossOneO lossOtherO vO tO mO gO)]) s.heap := hP
  have hl := lv_entry ([.ref (qO 0), .long p1]) (n := 3) (Nat.le_of_ble_eq_true rfl)
  rw [lg_entry_eq]
  generalize (lg_sl ([.ref (qO 0), .long p1]) ++ List.replicate (3 - (lg_sl ([.ref (qO 0), .long p1])).length) Slot.unset).toArray = ls at hl ⊢
  have hl : lv_has ls 3 [(0, .ref (qO 0)), (1, .long p1)] := hl
  refine w_gen (fun Q hQ => ?_)
  refine lv_aload_n hx hb dX12_is_0 rfl (lv_at hl 0 rfl) ?_
  refine va_get (D := (dC, dI)) (ci := 12) (v := .int (vO 4)) (C := RX12) (T := TX12) (N := 59) hx hb hts (fun w h => List.mem_cons_of_mem _ (List.mem_append_right _ (List.mem_append_left _ h))) hown hK hP 0 rfl rfl 12 (by decide) (hts (.fieldLink RX12 168 "SagMemoryModel" "bad" "I") (wl_mem 0 rfl)) (fun _ h9 => h9) rfl dX12_is_1 ?_
  refine lv_if_ne (tgt := 28) hx hb dX12_is_4 (by decide) (fun cz1 => ?_) (fun cz1 => ?_)
  · skip
    have zz2 : ¬ (vO 4).toInt = (0 : Int) := fun h9 => cz1 (zi_eq.mpr h9)
    refine lv_iconst (v := 0) hx hb dX12_is_28 (by decide) ?_
    rw [hQ]
    exact W.zret (v := (0 : Int32)) hx hb hr rfl (fun t ht hW => ⟨(0 : Int32), rfl, ⟨(by show (0 : Int) = 0 ∨ ((vO 4).toInt = 0 ∧ (vO 1).toInt = 1); omega), (by show (0 : Int) = 0 ∨ (0 : Int) = 1; omega)⟩, ht⟩) (fun _ h => absurd h List.not_mem_nil) dX12_is_29
  · skip
    have zz3 : (vO 4).toInt = (0 : Int) := zi_eq.mp cz1
    refine lv_aload_n hx hb dX12_is_7 rfl (lv_at hl 0 rfl) ?_
    refine va_get (D := (dC, dI)) (ci := 12) (v := .int (vO 1)) (C := RX12) (T := TX12) (N := 59) hx hb hts (fun w h => List.mem_cons_of_mem _ (List.mem_append_right _ (List.mem_append_left _ h))) hown hK hP 0 rfl rfl 8 (by decide) (hts (.fieldLink RX12 157 "SagMemoryModel" "token" "I") (wl_mem 1 rfl)) (fun _ h9 => h9) rfl dX12_is_8 ?_
    refine lv_iconst (v := 1) hx hb dX12_is_11 (by decide) ?_
    refine lv_icmp_ne (tgt := 28) hx hb dX12_is_12 (by decide) (fun cz4 => ?_) (fun cz4 => ?_)
    · skip
      have zz5 : ¬ (vO 1).toInt = (1 : Int) := fun h9 => cz4 (zi_eq.mpr h9)
      refine lv_iconst (v := 0) hx hb dX12_is_28 (by decide) ?_
      rw [hQ]
      exact W.zret (v := (0 : Int32)) hx hb hr rfl (fun t ht hW => ⟨(0 : Int32), rfl, ⟨(by show (0 : Int) = 0 ∨ ((vO 4).toInt = 0 ∧ (vO 1).toInt = 1); omega), (by show (0 : Int) = 0 ∨ (0 : Int) = 1; omega)⟩, ht⟩) (fun _ h => absurd h List.not_mem_nil) dX12_is_29
    · skip
      have zz6 : (vO 1).toInt = (1 : Int) := zi_eq.mp cz4
      refine lv_aload_n hx hb dX12_is_15 rfl (lv_at hl 0 rfl) ?_
      refine va_get (D := (dC, dI)) (ci := 12) (v := .long (gO 0)) (C := RX12) (T := TX12) (N := 59) hx hb hts (fun w h => List.mem_cons_of_mem _ (List.mem_append_right _ (List.mem_append_left _ h))) hown hK hP 0 rfl rfl 11 (by decide) (hts (.fieldLink RX12 153 "SagMemoryModel" "word" "J") (wl_mem 2 rfl)) (fun _ h9 => h9) rfl dX12_is_16 ?_
      refine lv_lload_n hx hb dX12_is_19 rfl (lv_at hl 1 rfl) ?_
      refine W.lcmp hx hb dX12_is_20 ?_
      refine lv_if_ne (tgt := 28) hx hb dX12_is_21 (by decide) (fun cz7 => ?_) (fun cz7 => ?_)
      · skip
        rw [lg_cmp_eq] at cz7
        have zz8 : ¬ (gO 0).toInt = p1.toInt := fun h9 => cz7 (zi_eqL.mpr h9)
        refine lv_iconst (v := 0) hx hb dX12_is_28 (by decide) ?_
        rw [hQ]
        exact W.zret (v := (0 : Int32)) hx hb hr rfl (fun t ht hW => ⟨(0 : Int32), rfl, ⟨(by show (0 : Int) = 0 ∨ ((vO 4).toInt = 0 ∧ (vO 1).toInt = 1); omega), (by show (0 : Int) = 0 ∨ (0 : Int) = 1; omega)⟩, ht⟩) (fun _ h => absurd h List.not_mem_nil) dX12_is_29
      · skip
        rw [lg_cmp_eq] at cz7
        have zz9 : (gO 0).toInt = p1.toInt := zi_eqL.mp cz7
        refine lv_iconst (v := 1) hx hb dX12_is_24 (by decide) ?_
        refine lv_goto (tgt := 29) hx hb dX12_is_25 (by decide) ?_
        rw [hQ]
        exact W.zret (v := (1 : Int32)) hx hb hr rfl (fun t ht hW => ⟨(1 : Int32), rfl, ⟨(by show (1 : Int) = 0 ∨ ((vO 4).toInt = 0 ∧ (vO 1).toInt = 1); omega), (by show (1 : Int) = 0 ∨ (1 : Int) = 1; omega)⟩, ht⟩) (fun _ h => absurd h List.not_mem_nil) dX12_is_29
def wk_c_X12_takes : List Cond := .code yX12_takes cX12_takes 3 (some .boolean) :: ([.methodLink RX12 174 yX12_is, .instanceMethod yX12_is, .selects RX12 yX12_is yX12_is, .initialized RX12, .methodLink RX12 178 yX12_next, .instanceMethod yX12_next, .selects RX12 yX12_next yX12_next] ++ (wk_c_X12_is ++ (wk_c_X12_next ++ [])))
theorem wkg_c_X12_takes : wk_c_X12_takes.all goodWord = true := by decide +kernel
set_option maxHeartbeats 4000000 in
set_option maxRecDepth 100000 in
theorem c_X12_takes (l : Launch) (dC : Nat → ClassId) (dI : Nat → Nat → Nat) (k : Nat → ClassId) (sz : Nat) (qO : Nat → Nat) (widthO : Nat) (manyO : Nat) (cellsO : Nat) (movedO : Nat) (linesO : Nat) (hasO : Nat) (bridgeO : Nat) (cartO : Nat) (wardO : Nat) (frostAtO : Nat) (actO : Nat) (isKeptO : Nat) (loadNowO : Nat) (byNowO : Nat) (rowO : Nat) (memoryO : Nat) (whoseO : Nat) (deepNowO : Nat) (brokenByO : Nat) (brokenAtO : Nat) (goesByO : Nat) (comesToO : Nat) (sagMoreO : Nat) (creakOfO : Nat) (wipedByO : Nat) (deepAtO : Nat) (sagAtO : Nat) (loadAtO : Nat) (orderRowO : Nat) (oftenO : Nat) (lossOneO : Nat) (lossOtherO : Nat) (vO : Nat → Int32) (tO : Nat → Int32) (mO : Nat → Int32) (gO : Nat → Int64) (qTa : Nat → Nat) (aTa : Nat → Nat → Int32) (p1 : Int64) (htO : Rg 0 700 tO) (hmO : Rg (-1) 127 mO) (hp0 : (tO 1).toInt ≤ (tO 0).toInt) : Met l yX12_takes wk_c_X12_takes ({ frames := 2, cells := 0, slots := 0, locals := 44 }) (va_Pc [.ref (qO 0), .long p1] (fun U => U.heap.size = sz ∧ va_P (dC, dI) vwCl (List.flatten [(wMO qO k widthO manyO cellsO movedO (qTa 0) linesO hasO bridgeO cartO wardO frostAtO actO isKeptO loadNowO byNowO rowO memoryO whoseO deepNowO brokenByO brokenAtO goesByO comesToO sagMoreO creakOfO wipedByO deepAtO sagAtO loadAtO orderRowO oftenO lossOneO lossOtherO vO tO mO gO)] ++ List.flatten [(wmTa qTa k aTa)]) U.heap ∧ va_K (dC, dI) vwCl (tK k) U ∧ va_D (fun _ => True) (List.flatten [(wMO qO k widthO manyO cellsO movedO (qTa 0) linesO hasO bridgeO cartO wardO frostAtO actO isKeptO loadNowO byNowO rowO memoryO whoseO deepNowO brokenByO brokenAtO goesByO comesToO sagMoreO creakOfO wipedByO deepAtO sagAtO loadAtO orderRowO oftenO lossOneO lossOtherO vO tO mO gO)] ++ List.flatten [(wmTa qTa k aTa)]))) (va_Qi (fun (r : Int32) (_ : Unit) => (r.toInt = 0 ∨ r.toInt = 1)) (fun (_ : Unit) (t : State) => ∃ (vO' : Nat → Int32) (tO' : Nat → Int32) (mO' : Nat → Int32) (gO' : Nat → Int64), Rg 0 700 tO' ∧ Rg (-1) 127 mO' ∧ ((tO' 0).toInt = (tO 0).toInt) ∧ ((tO' 1).toInt ≤ (tO 0).toInt) ∧ ((tO 1).toInt ≤ (tO' 1).toInt) ∧ ((vO' 4).toInt = (vO 4).toInt) ∧ va_P (dC, dI) vwCl (List.flatten [(wMO qO k widthO manyO cellsO movedO (qTa 0) linesO hasO bridgeO cartO wardO frostAtO actO isKeptO loadNowO byNowO rowO memoryO whoseO deepNowO brokenByO brokenAtO goesByO comesToO sagMoreO creakOfO wipedByO deepAtO sagAtO loadAtO orderRowO oftenO lossOneO lossOtherO vO' tO' mO' gO')] ++ List.flatten [(wmTa qTa k aTa)]) t.heap) (va_A (List.flatten [(wMO qO k widthO manyO cellsO movedO (qTa 0) linesO hasO bridgeO cartO wardO frostAtO actO isKeptO loadNowO byNowO rowO memoryO whoseO deepNowO brokenByO brokenAtO goesByO comesToO sagMoreO creakOfO wipedByO deepAtO sagAtO loadAtO orderRowO oftenO lossOneO lossOtherO vO tO mO gO)] ++ List.flatten [(wmTa qTa k aTa)]) sz)) 0 0 (va_A (List.flatten [(wMO qO k widthO manyO cellsO movedO (qTa 0) linesO hasO bridgeO cartO wardO frostAtO actO isKeptO loadNowO byNowO rowO memoryO whoseO deepNowO brokenByO brokenAtO goesByO comesToO sagMoreO creakOfO wipedByO deepAtO sagAtO loadAtO orderRowO oftenO lossOneO lossOtherO vO tO mO gO)] ++ List.flatten [(wmTa qTa k aTa)]) sz) := by
  refine Met.ofW (cc := cX12_takes) (maxL := 3) (ret := (some .boolean)) (by decide) rfl ?_
  intro p e s m args below meth c s₁ B hml hv
  obtain ⟨rfl, hsz, hP, hK, hD0⟩ := hv
  have hx := B.exec
  have hb := B.bytes
  have hr := B.returns
  have hts := atoms_spec (ws := wk_c_X12_takes) B.pre
  have hown : s.vm.findClass RX12 = some m.cls := findClass_of_methodNamed B.named
  have hlocks := B.notSynchronized
  subst hsz
  have hD := hD0.self (sz := s.heap.size)
  generalize hAe : va_A (List.flatten [(wMO qO k widthO manyO cellsO movedO (qTa 0) linesO hasO bridgeO cartO wardO frostAtO actO isKeptO loadNowO byNowO rowO memoryO whoseO deepNowO brokenByO brokenAtO goesByO comesToO sagMoreO creakOfO wipedByO deepAtO sagAtO loadAtO orderRowO oftenO lossOneO lossOtherO vO tO mO gO)] ++ List.flatten [(wmTa qTa k aTa)]) s.heap.size = A at hD ⊢
  have hA : ∀ q : Nat, s.heap.size ≤ q → A q := fun q h => by rw [← hAe]; exact Or.inr h
  have hS : va_S A s.heap s.heap [] := va_S.rf
  have hP : va_P (dC, dI) vwCl (List.flatten [(wMO qO k widthO manyO cellsO movedO (qTa 0) linesO hasO bridgeO cartO wardO frostAtO actO isKeptO loadNowO byNowO rowO memoryO whoseO deepNowO brokenByO brokenAtO goesByO comesToO sagMoreO creakOfO wipedByO deepAtO sagAtO loadAtO orderRowO oftenO lossOneO lossOtherO vO tO mO gO)] ++ List.flatten [(wmTa qTa k aTa)]) s.heap := hP
  have hl := lv_entry ([.ref (qO 0), .long p1]) (n := 3) (Nat.le_of_ble_eq_true rfl)
  rw [lg_entry_eq]
  generalize (lg_sl ([.ref (qO 0), .long p1]) ++ List.replicate (3 - (lg_sl ([.ref (qO 0), .long p1])).length) Slot.unset).toArray = ls at hl ⊢
  have hl : lv_has ls 3 [(0, .ref (qO 0)), (1, .long p1)] := hl
  refine w_gen (fun Q hQ => ?_)
  refine lv_aload_n hx hb dX12_takes_0 rfl (lv_at hl 0 rfl) ?_
  refine lv_lload_n hx hb dX12_takes_1 rfl (lv_at hl 1 rfl) ?_
  have hPc := hP.sub (ws' := (List.flatten [(wMO qO k widthO manyO cellsO movedO (qTa 0) linesO hasO bridgeO cartO wardO frostAtO actO isKeptO loadNowO byNowO rowO memoryO whoseO deepNowO brokenByO brokenAtO goesByO comesToO sagMoreO creakOfO wipedByO deepAtO sagAtO loadAtO orderRowO oftenO lossOneO lossOtherO vO tO mO gO)])) [0] rfl
  refine vp_callSi (va_Run.run (va_runV (As := [.long p1]) (rest := []) ⟨hx, hb, hml, hown, hts⟩ (c_X12_is l dC dI k qO widthO manyO cellsO movedO (qTa 0) linesO hasO bridgeO cartO wardO frostAtO actO isKeptO loadNowO byNowO rowO memoryO whoseO deepNowO brokenByO brokenAtO goesByO comesToO sagMoreO creakOfO wipedByO deepAtO sagAtO loadAtO orderRowO oftenO lossOneO lossOtherO vO tO mO gO p1 htO hmO) (cwV 1 hts (gk_V (wl_mem 0 rfl) (wl_mem 1 rfl) (wl_mem 2 rfl) (wl_mem 3 rfl) (fun w h => List.mem_cons_of_mem _ (List.mem_append_right _ (List.mem_append_left _ h))) wkg_c_X12_is) rfl rfl rfl (by decide +kernel) ⟨Nat.le_of_ble_eq_true rfl, Nat.le_of_ble_eq_true rfl⟩) ⟨fun a U g mk q => by obtain ⟨q0, qP, qK⟩ := q; exact ⟨q0, qP, va_K.moved (u := U) (U := U.calling g mk a) (Vm.Alike.refl U.vm) qK⟩, va_recv hK hPc (ci := 12) (q0 := 0) rfl rfl, fun U hU hW => ⟨rfl, by rw [hU]; exact hPc, va_K.moved hW.alike hK⟩⟩ rfl rfl hl.1 rfl (lv_room (Nat.le_of_ble_eq_true rfl)) dX12_takes_2 ⟨Nat.le_of_ble_eq_true rfl, Nat.le_of_ble_eq_true rfl⟩)) (fun rz2 gz1 => ?_)
  clear hPc
  obtain ⟨pz3, pz4⟩ := gz1
  have pz3 : rz2.toInt = 0 ∨ ((vO 4).toInt = 0 ∧ (vO 1).toInt = 1) := pz3
  have pz4 : rz2.toInt = 0 ∨ rz2.toInt = 1 := pz4
  refine lv_if_ne (tgt := 10) hx hb dX12_takes_5 (by decide) (fun cz5 => ?_) (fun cz5 => ?_)
  · skip
    have zz6 : ¬ rz2.toInt = (0 : Int) := fun h9 => cz5 (zi_eq.mpr h9)
    refine lv_aload_n hx hb dX12_takes_10 rfl (lv_at hl 0 rfl) ?_
    have bz7 := htO 1
    have bz8 := htO 0
    have hPc := hP
    have hC : [0, 1].map (fun i => (List.flatten [(wMO qO k widthO manyO cellsO movedO (qTa 0) linesO hasO bridgeO cartO wardO frostAtO actO isKeptO loadNowO byNowO rowO memoryO whoseO deepNowO brokenByO brokenAtO goesByO comesToO sagMoreO creakOfO wipedByO deepAtO sagAtO loadAtO orderRowO oftenO lossOneO lossOtherO vO tO mO gO)] ++ List.flatten [(wmTa qTa k aTa)])[i]?) = (List.flatten [(wMO qO k widthO manyO cellsO movedO (qTa 0) linesO hasO bridgeO cartO wardO frostAtO actO isKeptO loadNowO byNowO rowO memoryO whoseO deepNowO brokenByO brokenAtO goesByO comesToO sagMoreO creakOfO wipedByO deepAtO sagAtO loadAtO orderRowO oftenO lossOneO lossOtherO vO tO mO gO)] ++ List.flatten [(wmTa qTa k aTa)]).map some := rfl
    have hDc := hD.sub [0, 1] (by decide) hC
    have hFc := va_free hD hS hA [0, 1] hC
    refine va_callv (va_runV (As := []) (rest := []) ⟨hx, hb, hml, hown, hts⟩ (c_X12_next l dC dI k s.heap.size qO widthO manyO cellsO movedO linesO hasO bridgeO cartO wardO frostAtO actO isKeptO loadNowO byNowO rowO memoryO whoseO deepNowO brokenByO brokenAtO goesByO comesToO sagMoreO creakOfO wipedByO deepAtO sagAtO loadAtO orderRowO oftenO lossOneO lossOtherO vO tO mO gO qTa aTa htO hmO (by show (tO 1).toInt ≤ (tO 0).toInt; omega)) (cwV 0 hts (gk_V (wl_mem 4 rfl) (wl_mem 5 rfl) (wl_mem 6 rfl) (wl_mem 3 rfl) (fun w h => List.mem_cons_of_mem _ (List.mem_append_right _ (List.mem_append_right _ (List.mem_append_left _ h)))) wkg_c_X12_next) rfl rfl rfl (by decide +kernel) ⟨Nat.le_of_ble_eq_true rfl, Nat.le_of_ble_eq_true rfl⟩) ⟨fun a U g mk q => by obtain ⟨q0, q1, qP, qK, qD⟩ := q; exact ⟨q0, q1, qP, va_K.moved (u := U) (U := U.calling g mk a) (Vm.Alike.refl U.vm) qK, qD⟩, va_recv hK hPc (ci := 12) (q0 := 0) rfl rfl, fun U hU hW => ⟨rfl, by rw [hU], by rw [hU]; exact hPc, va_K.moved hW.alike hK, hDc.weaken (fun _ _ _ _ => trivial)⟩⟩ rfl rfl hl.1 rfl (lv_room (Nat.le_of_ble_eq_true rfl)) dX12_takes_11 ⟨Nat.le_of_ble_eq_true rfl, Nat.le_of_ble_eq_true rfl⟩) hS (fun q _ h => hFc q h) hFc (fun u t H1 locs ht hvm gz9 hB hz1 hk1 hS => ?_)
    obtain ⟨vz11, tz12, mz13, gz14, htz12, hmz13, pz15, pz16, pz17, pz18, pz19, hP1⟩ := hB
    rw [ht] at hP1
    obtain ⟨hP, hD⟩ := w_callR hP hD hk1 hP1 [0] rfl rfl (wk_memC [1] rfl) rfl [some 0] rfl rfl
    clear hPc hC hDc hFc hk1 hP1
    generalize H1 = H at hP hS ⊢
    have hP : va_P (dC, dI) vwCl (List.flatten [(wMO qO k widthO manyO cellsO movedO (qTa 0) linesO hasO bridgeO cartO wardO frostAtO actO isKeptO loadNowO byNowO rowO memoryO whoseO deepNowO brokenByO brokenAtO goesByO comesToO sagMoreO creakOfO wipedByO deepAtO sagAtO loadAtO orderRowO oftenO lossOneO lossOtherO vz11 tz12 mz13 gz14)] ++ List.flatten [(wmTa qTa k aTa)]) H := hP
    have hD : va_D A (List.flatten [(wMO qO k widthO manyO cellsO movedO (qTa 0) linesO hasO bridgeO cartO wardO frostAtO actO isKeptO loadNowO byNowO rowO memoryO whoseO deepNowO brokenByO brokenAtO goesByO comesToO sagMoreO creakOfO wipedByO deepAtO sagAtO loadAtO orderRowO oftenO lossOneO lossOtherO vz11 tz12 mz13 gz14)] ++ List.flatten [(wmTa qTa k aTa)]) := hD
    refine W.widen (k := 0) (n := 0) (Nat.le_refl 0) (Nat.le_refl 0) ?_
    have pz15 : (tz12 0).toInt = (tO 0).toInt := pz15
    have pz16 : (tz12 1).toInt ≤ (tO 0).toInt := pz16
    have pz17 : (tO 1).toInt ≤ (tz12 1).toInt := pz17
    have pz18 : (vz11 1).toInt = 0 ∨ (tO 1).toInt < (tz12 1).toInt := pz18
    have pz19 : (vz11 4).toInt = (vO 4).toInt := pz19
    refine lv_iconst (v := 1) hx hb dX12_takes_14 (by decide) ?_
    rw [hQ]
    exact W.zret (v := (1 : Int32)) hx hb hr rfl (fun t ht hW => ⟨⟨(1 : Int32), (), rfl, (by show (1 : Int) = 0 ∨ (1 : Int) = 1; omega), vz11, tz12, mz13, gz14, htz12, hmz13, (by show (tz12 0).toInt = (tO 0).toInt; omega), (by show (tz12 1).toInt ≤ (tO 0).toInt; omega), (by show (tO 1).toInt ≤ (tz12 1).toInt; omega), (by show (vz11 4).toInt = (vO 4).toInt; omega), by rw [ht]; exact hP⟩, hS.F ht⟩) hS.2.2 dX12_takes_15
  · skip
    have zz20 : rz2.toInt = (0 : Int) := zi_eq.mp cz5
    refine lv_iconst (v := 0) hx hb dX12_takes_8 (by decide) ?_
    rw [hQ]
    exact W.zret (v := (0 : Int32)) hx hb hr rfl (fun t ht hW => ⟨⟨(0 : Int32), (), rfl, (by show (0 : Int) = 0 ∨ (0 : Int) = 1; omega), vO, tO, mO, gO, htO, hmO, (by show (tO 0).toInt = (tO 0).toInt; omega), (by show (tO 1).toInt ≤ (tO 0).toInt; omega), (by show (tO 1).toInt ≤ (tO 1).toInt; omega), (by show (vO 4).toInt = (vO 4).toInt; omega), by rw [ht]; exact hP⟩, hS.F ht⟩) hS.2.2 dX12_takes_9
def wk_c_X12_asks : List Cond := .code yX12_asks cX12_asks 3 none :: ([.methodLink RX12 181 yX12_takes, .instanceMethod yX12_takes, .selects RX12 yX12_takes yX12_takes, .initialized RX12, .methodLink RX12 184 yX12_fails, .instanceMethod yX12_fails, .selects RX12 yX12_fails yX12_fails] ++ (wk_c_X12_takes ++ (wk_c_X12_fails ++ [])))
theorem wkg_c_X12_asks : wk_c_X12_asks.all goodWord = true := by decide +kernel
set_option maxHeartbeats 4000000 in
set_option maxRecDepth 100000 in
theorem c_X12_asks (l : Launch) (dC : Nat → ClassId) (dI : Nat → Nat → Nat) (k : Nat → ClassId) (sz : Nat) (qO : Nat → Nat) (widthO : Nat) (manyO : Nat) (cellsO : Nat) (movedO : Nat) (linesO : Nat) (hasO : Nat) (bridgeO : Nat) (cartO : Nat) (wardO : Nat) (frostAtO : Nat) (actO : Nat) (isKeptO : Nat) (loadNowO : Nat) (byNowO : Nat) (rowO : Nat) (memoryO : Nat) (whoseO : Nat) (deepNowO : Nat) (brokenByO : Nat) (brokenAtO : Nat) (goesByO : Nat) (comesToO : Nat) (sagMoreO : Nat) (creakOfO : Nat) (wipedByO : Nat) (deepAtO : Nat) (sagAtO : Nat) (loadAtO : Nat) (orderRowO : Nat) (oftenO : Nat) (lossOneO : Nat) (lossOtherO : Nat) (vO : Nat → Int32) (tO : Nat → Int32) (mO : Nat → Int32) (gO : Nat → Int64) (qTa : Nat → Nat) (aTa : Nat → Nat → Int32) (p1 : Int64) (htO : Rg 0 700 tO) (hmO : Rg (-1) 127 mO) (hp0 : (tO 1).toInt ≤ (tO 0).toInt) : Met l yX12_asks wk_c_X12_asks ({ frames := 3, cells := 0, slots := 0, locals := 66 }) (va_Pc [.ref (qO 0), .long p1] (fun U => U.heap.size = sz ∧ va_P (dC, dI) vwCl (List.flatten [(wMO qO k widthO manyO cellsO movedO (qTa 0) linesO hasO bridgeO cartO wardO frostAtO actO isKeptO loadNowO byNowO rowO memoryO whoseO deepNowO brokenByO brokenAtO goesByO comesToO sagMoreO creakOfO wipedByO deepAtO sagAtO loadAtO orderRowO oftenO lossOneO lossOtherO vO tO mO gO)] ++ List.flatten [(wmTa qTa k aTa)]) U.heap ∧ va_K (dC, dI) vwCl (tK k) U ∧ va_D (fun _ => True) (List.flatten [(wMO qO k widthO manyO cellsO movedO (qTa 0) linesO hasO bridgeO cartO wardO frostAtO actO isKeptO loadNowO byNowO rowO memoryO whoseO deepNowO brokenByO brokenAtO goesByO comesToO sagMoreO creakOfO wipedByO deepAtO sagAtO loadAtO orderRowO oftenO lossOneO lossOtherO vO tO mO gO)] ++ List.flatten [(wmTa qTa k aTa)]))) (va_Qv (fun _ : Unit => True) (fun (_ : Unit) (t : State) => ∃ (vO' : Nat → Int32) (tO' : Nat → Int32) (mO' : Nat → Int32) (gO' : Nat → Int64), Rg 0 700 tO' ∧ Rg (-1) 127 mO' ∧ ((tO' 0).toInt = (tO 0).toInt) ∧ ((tO' 1).toInt ≤ (tO 0).toInt) ∧ ((tO 1).toInt ≤ (tO' 1).toInt) ∧ va_P (dC, dI) vwCl (List.flatten [(wMO qO k widthO manyO cellsO movedO (qTa 0) linesO hasO bridgeO cartO wardO frostAtO actO isKeptO loadNowO byNowO rowO memoryO whoseO deepNowO brokenByO brokenAtO goesByO comesToO sagMoreO creakOfO wipedByO deepAtO sagAtO loadAtO orderRowO oftenO lossOneO lossOtherO vO' tO' mO' gO')] ++ List.flatten [(wmTa qTa k aTa)]) t.heap) (va_A (List.flatten [(wMO qO k widthO manyO cellsO movedO (qTa 0) linesO hasO bridgeO cartO wardO frostAtO actO isKeptO loadNowO byNowO rowO memoryO whoseO deepNowO brokenByO brokenAtO goesByO comesToO sagMoreO creakOfO wipedByO deepAtO sagAtO loadAtO orderRowO oftenO lossOneO lossOtherO vO tO mO gO)] ++ List.flatten [(wmTa qTa k aTa)]) sz)) 0 0 (va_A (List.flatten [(wMO qO k widthO manyO cellsO movedO (qTa 0) linesO hasO bridgeO cartO wardO frostAtO actO isKeptO loadNowO byNowO rowO memoryO whoseO deepNowO brokenByO brokenAtO goesByO comesToO sagMoreO creakOfO wipedByO deepAtO sagAtO loadAtO orderRowO oftenO lossOneO lossOtherO vO tO mO gO)] ++ List.flatten [(wmTa qTa k aTa)]) sz) := by
  refine Met.ofW (cc := cX12_asks) (maxL := 3) (ret := none) (by decide) rfl ?_
  intro p e s m args below meth c s₁ B hml hv
  obtain ⟨rfl, hsz, hP, hK, hD0⟩ := hv
  have hx := B.exec
  have hb := B.bytes
  have hr := B.returns
  have hts := atoms_spec (ws := wk_c_X12_asks) B.pre
  have hown : s.vm.findClass RX12 = some m.cls := findClass_of_methodNamed B.named
  have hlocks := B.notSynchronized
  subst hsz
  have hD := hD0.self (sz := s.heap.size)
  generalize hAe : va_A (List.flatten [(wMO qO k widthO manyO cellsO movedO (qTa 0) linesO hasO bridgeO cartO wardO frostAtO actO isKeptO loadNowO byNowO rowO memoryO whoseO deepNowO brokenByO brokenAtO goesByO comesToO sagMoreO creakOfO wipedByO deepAtO sagAtO loadAtO orderRowO oftenO lossOneO lossOtherO vO tO mO gO)] ++ List.flatten [(wmTa qTa k aTa)]) s.heap.size = A at hD ⊢
  have hA : ∀ q : Nat, s.heap.size ≤ q → A q := fun q h => by rw [← hAe]; exact Or.inr h
  have hS : va_S A s.heap s.heap [] := va_S.rf
  have hP : va_P (dC, dI) vwCl (List.flatten [(wMO qO k widthO manyO cellsO movedO (qTa 0) linesO hasO bridgeO cartO wardO frostAtO actO isKeptO loadNowO byNowO rowO memoryO whoseO deepNowO brokenByO brokenAtO goesByO comesToO sagMoreO creakOfO wipedByO deepAtO sagAtO loadAtO orderRowO oftenO lossOneO lossOtherO vO tO mO gO)] ++ List.flatten [(wmTa qTa k aTa)]) s.heap := hP
  have hl := lv_entry ([.ref (qO 0), .long p1]) (n := 3) (Nat.le_of_ble_eq_true rfl)
  rw [lg_entry_eq]
  generalize (lg_sl ([.ref (qO 0), .long p1]) ++ List.replicate (3 - (lg_sl ([.ref (qO 0), .long p1])).length) Slot.unset).toArray = ls at hl ⊢
  have hl : lv_has ls 3 [(0, .ref (qO 0)), (1, .long p1)] := hl
  refine w_gen (fun Q hQ => ?_)
  refine lv_aload_n hx hb dX12_asks_0 rfl (lv_at hl 0 rfl) ?_
  refine lv_lload_n hx hb dX12_asks_1 rfl (lv_at hl 1 rfl) ?_
  have bz1 := htO 1
  have bz2 := htO 0
  have hPc := hP
  have hC : [0, 1].map (fun i => (List.flatten [(wMO qO k widthO manyO cellsO movedO (qTa 0) linesO hasO bridgeO cartO wardO frostAtO actO isKeptO loadNowO byNowO rowO memoryO whoseO deepNowO brokenByO brokenAtO goesByO comesToO sagMoreO creakOfO wipedByO deepAtO sagAtO loadAtO orderRowO oftenO lossOneO lossOtherO vO tO mO gO)] ++ List.flatten [(wmTa qTa k aTa)])[i]?) = (List.flatten [(wMO qO k widthO manyO cellsO movedO (qTa 0) linesO hasO bridgeO cartO wardO frostAtO actO isKeptO loadNowO byNowO rowO memoryO whoseO deepNowO brokenByO brokenAtO goesByO comesToO sagMoreO creakOfO wipedByO deepAtO sagAtO loadAtO orderRowO oftenO lossOneO lossOtherO vO tO mO gO)] ++ List.flatten [(wmTa qTa k aTa)]).map some := rfl
  have hDc := hD.sub [0, 1] (by decide) hC
  have hFc := va_free hD hS hA [0, 1] hC
  refine va_calli (va_runV (As := [.long p1]) (rest := []) ⟨hx, hb, hml, hown, hts⟩ (c_X12_takes l dC dI k s.heap.size qO widthO manyO cellsO movedO linesO hasO bridgeO cartO wardO frostAtO actO isKeptO loadNowO byNowO rowO memoryO whoseO deepNowO brokenByO brokenAtO goesByO comesToO sagMoreO creakOfO wipedByO deepAtO sagAtO loadAtO orderRowO oftenO lossOneO lossOtherO vO tO mO gO qTa aTa p1 htO hmO (by show (tO 1).toInt ≤ (tO 0).toInt; omega)) (cwV 1 hts (gk_V (wl_mem 0 rfl) (wl_mem 1 rfl) (wl_mem 2 rfl) (wl_mem 3 rfl) (fun w h => List.mem_cons_of_mem _ (List.mem_append_right _ (List.mem_append_left _ h))) wkg_c_X12_takes) rfl rfl rfl (by decide +kernel) ⟨Nat.le_of_ble_eq_true rfl, Nat.le_of_ble_eq_true rfl⟩) ⟨fun a U g mk q => by obtain ⟨q0, q1, qP, qK, qD⟩ := q; exact ⟨q0, q1, qP, va_K.moved (u := U) (U := U.calling g mk a) (Vm.Alike.refl U.vm) qK, qD⟩, va_recv hK hPc (ci := 12) (q0 := 0) rfl rfl, fun U hU hW => ⟨rfl, by rw [hU], by rw [hU]; exact hPc, va_K.moved hW.alike hK, hDc.weaken (fun _ _ _ _ => trivial)⟩⟩ rfl rfl hl.1 rfl (lv_room (Nat.le_of_ble_eq_true rfl)) dX12_asks_2 ⟨Nat.le_of_ble_eq_true rfl, Nat.le_of_ble_eq_true rfl⟩) hS (fun q _ h => hFc q h) hFc (fun rz4 u t H1 locs ht hvm gz3 hB hz1 hk1 hS => ?_)
  obtain ⟨vz5, tz6, mz7, gz8, htz6, hmz7, pz9, pz10, pz11, pz12, hP1⟩ := hB
  rw [ht] at hP1
  obtain ⟨hP, hD⟩ := w_callR hP hD hk1 hP1 [0] rfl rfl (wk_memC [1] rfl) rfl [some 0] rfl rfl
  clear hPc hC hDc hFc hk1 hP1
  generalize H1 = H at hP hS ⊢
  have hP : va_P (dC, dI) vwCl (List.flatten [(wMO qO k widthO manyO cellsO movedO (qTa 0) linesO hasO bridgeO cartO wardO frostAtO actO isKeptO loadNowO byNowO rowO memoryO whoseO deepNowO brokenByO brokenAtO goesByO comesToO sagMoreO creakOfO wipedByO deepAtO sagAtO loadAtO orderRowO oftenO lossOneO lossOtherO vz5 tz6 mz7 gz8)] ++ List.flatten [(wmTa qTa k aTa)]) H := hP
  have hD : va_D A (List.flatten [(wMO qO k widthO manyO cellsO movedO (qTa 0) linesO hasO bridgeO cartO wardO frostAtO actO isKeptO loadNowO byNowO rowO memoryO whoseO deepNowO brokenByO brokenAtO goesByO comesToO sagMoreO creakOfO wipedByO deepAtO sagAtO loadAtO orderRowO oftenO lossOneO lossOtherO vz5 tz6 mz7 gz8)] ++ List.flatten [(wmTa qTa k aTa)]) := hD
  refine W.widen (k := 0) (n := 0) (Nat.le_refl 0) (Nat.le_refl 0) ?_
  have pz9 : (tz6 0).toInt = (tO 0).toInt := pz9
  have pz10 : (tz6 1).toInt ≤ (tO 0).toInt := pz10
  have pz11 : (tO 1).toInt ≤ (tz6 1).toInt := pz11
  have pz12 : (vz5 4).toInt = (vO 4).toInt := pz12
  have pz13 := gz3
  have pz13 : rz4.toInt = 0 ∨ rz4.toInt = 1 := pz13
  refine lv_if_ne (tgt := 13) hx hb dX12_asks_5 (by decide) (fun cz14 => ?_) (fun cz14 => ?_)
  · skip
    have zz15 : ¬ rz4.toInt = (0 : Int) := fun h9 => cz14 (zi_eq.mpr h9)
    rw [hQ]
    exact W.vret hx hb hr (fun t ht hW => ⟨⟨(), rfl, trivial, vz5, tz6, mz7, gz8, htz6, hmz7, (by show (tz6 0).toInt = (tO 0).toInt; omega), (by show (tz6 1).toInt ≤ (tO 0).toInt; omega), (by show (tO 1).toInt ≤ (tz6 1).toInt; omega), by rw [ht]; exact hP⟩, hS.F ht⟩) hS.2.2 dX12_asks_13
  · skip
    have zz16 : rz4.toInt = (0 : Int) := zi_eq.mp cz14
    refine lv_aload_n hx hb dX12_asks_8 rfl (lv_at hl 0 rfl) ?_
    refine lv_iconst (v := 1) hx hb dX12_asks_9 (by decide) ?_
    have hPc := hP.sub (ws' := (List.flatten [(wMO qO k widthO manyO cellsO movedO (qTa 0) linesO hasO bridgeO cartO wardO frostAtO actO isKeptO loadNowO byNowO rowO memoryO whoseO deepNowO brokenByO brokenAtO goesByO comesToO sagMoreO creakOfO wipedByO deepAtO sagAtO loadAtO orderRowO oftenO lossOneO lossOtherO vz5 tz6 mz7 gz8)] ++ List.flatten ([] : List va_W))) [0] rfl
    have hC : [0].map (fun i => (List.flatten [(wMO qO k widthO manyO cellsO movedO (qTa 0) linesO hasO bridgeO cartO wardO frostAtO actO isKeptO loadNowO byNowO rowO memoryO whoseO deepNowO brokenByO brokenAtO goesByO comesToO sagMoreO creakOfO wipedByO deepAtO sagAtO loadAtO orderRowO oftenO lossOneO lossOtherO vz5 tz6 mz7 gz8)] ++ List.flatten [(wmTa qTa k aTa)])[i]?) = (List.flatten [(wMO qO k widthO manyO cellsO movedO (qTa 0) linesO hasO bridgeO cartO wardO frostAtO actO isKeptO loadNowO byNowO rowO memoryO whoseO deepNowO brokenByO brokenAtO goesByO comesToO sagMoreO creakOfO wipedByO deepAtO sagAtO loadAtO orderRowO oftenO lossOneO lossOtherO vz5 tz6 mz7 gz8)] ++ List.flatten ([] : List va_W)).map some := rfl
    have hDc := hD.sub [0] (by decide) hC
    have hFc := va_free hD hS hA [0] hC
    refine va_callv (va_runV (As := [.int 1]) (rest := []) ⟨hx, hb, hml, hown, hts⟩ (c_X12_fails l dC dI k H.size qO widthO manyO cellsO movedO (qTa 0) linesO hasO bridgeO cartO wardO frostAtO actO isKeptO loadNowO byNowO rowO memoryO whoseO deepNowO brokenByO brokenAtO goesByO comesToO sagMoreO creakOfO wipedByO deepAtO sagAtO loadAtO orderRowO oftenO lossOneO lossOtherO vz5 tz6 mz7 gz8 (1 : Int32) htz6 hmz7) (cwV 1 hts (gk_V (wl_mem 4 rfl) (wl_mem 5 rfl) (wl_mem 6 rfl) (wl_mem 3 rfl) (fun w h => List.mem_cons_of_mem _ (List.mem_append_right _ (List.mem_append_right _ (List.mem_append_left _ h)))) wkg_c_X12_fails) rfl rfl rfl (by decide +kernel) ⟨Nat.le_of_ble_eq_true rfl, Nat.le_of_ble_eq_true rfl⟩) ⟨fun a U g mk q => by obtain ⟨q0, q1, qP, qK, qD⟩ := q; exact ⟨q0, q1, qP, va_K.moved (u := U) (U := U.calling g mk a) (Vm.Alike.refl U.vm) qK, qD⟩, va_recv hK hPc (ci := 12) (q0 := 0) rfl rfl, fun U hU hW => ⟨rfl, by rw [hU], by rw [hU]; exact hPc, va_K.moved hW.alike hK, hDc.weaken (fun _ _ _ _ => trivial)⟩⟩ rfl rfl hl.1 rfl (lv_room (Nat.le_of_ble_eq_true rfl)) dX12_asks_10 ⟨Nat.le_of_ble_eq_true rfl, Nat.le_of_ble_eq_true rfl⟩) hS (fun q _ h => hFc q h) hFc (fun u t H1 locs ht hvm gz17 hB hz1 hk1 hS => ?_)
    obtain ⟨vz19, tz20, mz21, gz22, htz20, hmz21, pz23, pz24, pz25, pz26, pz27, hP1⟩ := hB
    rw [ht] at hP1
    obtain ⟨hP, hD⟩ := w_callR hP hD hk1 hP1 [0] rfl rfl (fun _ h => absurd h List.not_mem_nil) rfl [some 0] rfl rfl
    clear hPc hC hDc hFc hk1 hP1
    generalize H1 = H at hP hS ⊢
    have hP : va_P (dC, dI) vwCl (List.flatten [(wMO qO k widthO manyO cellsO movedO (qTa 0) linesO hasO bridgeO cartO wardO frostAtO actO isKeptO loadNowO byNowO rowO memoryO whoseO deepNowO brokenByO brokenAtO goesByO comesToO sagMoreO creakOfO wipedByO deepAtO sagAtO loadAtO orderRowO oftenO lossOneO lossOtherO vz19 tz20 mz21 gz22)] ++ List.flatten [(wmTa qTa k aTa)]) H := hP
    have hD : va_D A (List.flatten [(wMO qO k widthO manyO cellsO movedO (qTa 0) linesO hasO bridgeO cartO wardO frostAtO actO isKeptO loadNowO byNowO rowO memoryO whoseO deepNowO brokenByO brokenAtO goesByO comesToO sagMoreO creakOfO wipedByO deepAtO sagAtO loadAtO orderRowO oftenO lossOneO lossOtherO vz19 tz20 mz21 gz22)] ++ List.flatten [(wmTa qTa k aTa)]) := hD
    refine W.widen (k := 0) (n := 0) (Nat.le_refl 0) (Nat.le_refl 0) ?_
    have pz23 : ((vz5 4).toInt ≠ 0 ∧ (vz19 4).toInt = (vz5 4).toInt) ∨ ((vz5 4).toInt = 0 ∧ (vz19 4).toInt = (1 : Int)) := pz23
    have pz24 : (tz20 0).toInt = (tz6 0).toInt := pz24
    have pz25 : (tz20 1).toInt = (tz6 1).toInt := pz25
    have pz26 : (vz19 1).toInt = (vz5 1).toInt := pz26
    have pz27 : (vz19 3).toInt = (vz5 3).toInt := pz27
    have bz28 := htz6 0
    have bz29 := htz6 1
    rw [hQ]
    exact W.vret hx hb hr (fun t ht hW => ⟨⟨(), rfl, trivial, vz19, tz20, mz21, gz22, htz20, hmz21, (by show (tz20 0).toInt = (tO 0).toInt; omega), (by show (tz20 1).toInt ≤ (tO 0).toInt; omega), (by show (tO 1).toInt ≤ (tz20 1).toInt; omega), by rw [ht]; exact hP⟩, hS.F ht⟩) hS.2.2 dX12_asks_13
def wk_c_X12_number : List Cond := .code yX12_number cX12_number 4 (some .int) :: ([.fieldLink RX12 168 "SagMemoryModel" "bad" "I", .fieldLink RX12 157 "SagMemoryModel" "token" "I", .fieldLink RX12 150 "SagMemoryModel" "value" "I", .methodLink RX12 121 yX12_in, .static yX12_in, .initialized RX12, .methodLink RX12 184 yX12_fails, .instanceMethod yX12_fails, .selects RX12 yX12_fails yX12_fails, .methodLink RX12 178 yX12_next, .instanceMethod yX12_next, .selects RX12 yX12_next yX12_next] ++ (wsX120 ++ (wk_c_X12_in ++ (wk_c_X12_fails ++ (wk_c_X12_next ++ [])))))
theorem wkg_c_X12_number : wk_c_X12_number.all goodWord = true := by decide +kernel
set_option maxHeartbeats 4000000 in
set_option maxRecDepth 100000 in
theorem c_X12_number (l : Launch) (dC : Nat → ClassId) (dI : Nat → Nat → Nat) (k : Nat → ClassId) (sz : Nat) (qO : Nat → Nat) (widthO : Nat) (manyO : Nat) (cellsO : Nat) (movedO : Nat) (linesO : Nat) (hasO : Nat) (bridgeO : Nat) (cartO : Nat) (wardO : Nat) (frostAtO : Nat) (actO : Nat) (isKeptO : Nat) (loadNowO : Nat) (byNowO : Nat) (rowO : Nat) (memoryO : Nat) (whoseO : Nat) (deepNowO : Nat) (brokenByO : Nat) (brokenAtO : Nat) (goesByO : Nat) (comesToO : Nat) (sagMoreO : Nat) (creakOfO : Nat) (wipedByO : Nat) (deepAtO : Nat) (sagAtO : Nat) (loadAtO : Nat) (orderRowO : Nat) (oftenO : Nat) (lossOneO : Nat) (lossOtherO : Nat) (vO : Nat → Int32) (tO : Nat → Int32) (mO : Nat → Int32) (gO : Nat → Int64) (qTa : Nat → Nat) (aTa : Nat → Nat → Int32) (p1 : Int32) (p2 : Int32) (htO : Rg 0 700 tO) (hmO : Rg (-1) 127 mO) (hp0 : (tO 1).toInt ≤ (tO 0).toInt) : Met l yX12_number wk_c_X12_number ({ frames := 2, cells := 0, slots := 0, locals := 44 }) (va_Pc [.ref (qO 0), .int p1, .int p2] (fun U => U.heap.size = sz ∧ va_P (dC, dI) vwCl (List.flatten [(wMO qO k widthO manyO cellsO movedO (qTa 0) linesO hasO bridgeO cartO wardO frostAtO actO isKeptO loadNowO byNowO rowO memoryO whoseO deepNowO brokenByO brokenAtO goesByO comesToO sagMoreO creakOfO wipedByO deepAtO sagAtO loadAtO orderRowO oftenO lossOneO lossOtherO vO tO mO gO)] ++ List.flatten [(wmTa qTa k aTa)]) U.heap ∧ va_K (dC, dI) vwCl (tK k) U ∧ va_D (fun _ => True) (List.flatten [(wMO qO k widthO manyO cellsO movedO (qTa 0) linesO hasO bridgeO cartO wardO frostAtO actO isKeptO loadNowO byNowO rowO memoryO whoseO deepNowO brokenByO brokenAtO goesByO comesToO sagMoreO creakOfO wipedByO deepAtO sagAtO loadAtO orderRowO oftenO lossOneO lossOtherO vO tO mO gO)] ++ List.flatten [(wmTa qTa k aTa)]))) (va_Qi (fun (r : Int32) (_ : Unit) => (r.toInt = p1.toInt ∨ (p1.toInt ≤ r.toInt ∧ r.toInt ≤ p2.toInt))) (fun (_ : Unit) (t : State) => ∃ (vO' : Nat → Int32) (tO' : Nat → Int32) (mO' : Nat → Int32) (gO' : Nat → Int64), Rg 0 700 tO' ∧ Rg (-1) 127 mO' ∧ ((tO' 0).toInt = (tO 0).toInt) ∧ ((tO' 1).toInt ≤ (tO 0).toInt) ∧ ((tO 1).toInt ≤ (tO' 1).toInt) ∧ va_P (dC, dI) vwCl (List.flatten [(wMO qO k widthO manyO cellsO movedO (qTa 0) linesO hasO bridgeO cartO wardO frostAtO actO isKeptO loadNowO byNowO rowO memoryO whoseO deepNowO brokenByO brokenAtO goesByO comesToO sagMoreO creakOfO wipedByO deepAtO sagAtO loadAtO orderRowO oftenO lossOneO lossOtherO vO' tO' mO' gO')] ++ List.flatten [(wmTa qTa k aTa)]) t.heap) (va_A (List.flatten [(wMO qO k widthO manyO cellsO movedO (qTa 0) linesO hasO bridgeO cartO wardO frostAtO actO isKeptO loadNowO byNowO rowO memoryO whoseO deepNowO brokenByO brokenAtO goesByO comesToO sagMoreO creakOfO wipedByO deepAtO sagAtO loadAtO orderRowO oftenO lossOneO lossOtherO vO tO mO gO)] ++ List.flatten [(wmTa qTa k aTa)]) sz)) 0 0 (va_A (List.flatten [(wMO qO k widthO manyO cellsO movedO (qTa 0) linesO hasO bridgeO cartO wardO frostAtO actO isKeptO loadNowO byNowO rowO memoryO whoseO deepNowO brokenByO brokenAtO goesByO comesToO sagMoreO creakOfO wipedByO deepAtO sagAtO loadAtO orderRowO oftenO lossOneO lossOtherO vO tO mO gO)] ++ List.flatten [(wmTa qTa k aTa)]) sz) := by
  refine Met.ofW (cc := cX12_number) (maxL := 4) (ret := (some .int)) (by decide) rfl ?_
  intro p e s m args below meth c s₁ B hml hv
  obtain ⟨rfl, hsz, hP, hK, hD0⟩ := hv
  have hx := B.exec
  have hb := B.bytes
  have hr := B.returns
  have hts := atoms_spec (ws := wk_c_X12_number) B.pre
  have hown : s.vm.findClass RX12 = some m.cls := findClass_of_methodNamed B.named
  have hlocks := B.notSynchronized
  subst hsz
  have hD := hD0.self (sz := s.heap.size)
  generalize hAe : va_A (List.flatten [(wMO qO k widthO manyO cellsO movedO (qTa 0) linesO hasO bridgeO cartO wardO frostAtO actO isKeptO loadNowO byNowO rowO memoryO whoseO deepNowO brokenByO brokenAtO goesByO comesToO sagMoreO creakOfO wipedByO deepAtO sagAtO loadAtO orderRowO oftenO lossOneO lossOtherO vO tO mO gO)] ++ List.flatten [(wmTa qTa k aTa)]) s.heap.size = A at hD ⊢
  have hA : ∀ q : Nat, s.heap.size ≤ q → A q := fun q h => by rw [← hAe]; exact Or.inr h
  have hS : va_S A s.heap s.heap [] := va_S.rf
  have hP : va_P (dC, dI) vwCl (List.flatten [(wMO qO k widthO manyO cellsO movedO (qTa 0) linesO hasO bridgeO cartO wardO frostAtO actO isKeptO loadNowO byNowO rowO memoryO whoseO deepNowO brokenByO brokenAtO goesByO comesToO sagMoreO creakOfO wipedByO deepAtO sagAtO loadAtO orderRowO oftenO lossOneO lossOtherO vO tO mO gO)] ++ List.flatten [(wmTa qTa k aTa)]) s.heap := hP
  have hl := lv_entry ([.ref (qO 0), .int p1, .int p2]) (n := 4) (Nat.le_of_ble_eq_true rfl)
  rw [lg_entry_eq]
  generalize (lg_sl ([.ref (qO 0), .int p1, .int p2]) ++ List.replicate (4 - (lg_sl ([.ref (qO 0), .int p1, .int p2])).length) Slot.unset).toArray = ls at hl ⊢
  have hl : lv_has ls 4 [(0, .ref (qO 0)), (1, .int p1), (2, .int p2)] := hl
  refine w_gen (fun Q hQ => ?_)
  refine lv_aload_n hx hb dX12_number_0 rfl (lv_at hl 0 rfl) ?_
  refine va_get (D := (dC, dI)) (ci := 12) (v := .int (vO 4)) (C := RX12) (T := TX12) (N := 59) hx hb hts (fun w h => List.mem_cons_of_mem _ (List.mem_append_right _ (List.mem_append_left _ h))) hown hK hP 0 rfl rfl 12 (by decide) (hts (.fieldLink RX12 168 "SagMemoryModel" "bad" "I") (wl_mem 0 rfl)) (fun _ h9 => h9) rfl dX12_number_1 ?_
  refine lv_if_eq (tgt := 9) hx hb dX12_number_4 (by decide) (fun cz1 => ?_) (fun cz1 => ?_)
  · skip
    have zz2 : (vO 4).toInt = (0 : Int) := zi_eq.mp cz1
    refine lv_aload_n hx hb dX12_number_9 rfl (lv_at hl 0 rfl) ?_
    refine va_get (D := (dC, dI)) (ci := 12) (v := .int (vO 1)) (C := RX12) (T := TX12) (N := 59) hx hb hts (fun w h => List.mem_cons_of_mem _ (List.mem_append_right _ (List.mem_append_left _ h))) hown hK hP 0 rfl rfl 8 (by decide) (hts (.fieldLink RX12 157 "SagMemoryModel" "token" "I") (wl_mem 1 rfl)) (fun _ h9 => h9) rfl dX12_number_10 ?_
    refine lv_iconst (v := 2) hx hb dX12_number_13 (by decide) ?_
    refine lv_icmp_eq (tgt := 24) hx hb dX12_number_14 (by decide) (fun cz3 => ?_) (fun cz3 => ?_)
    · skip
      have zz4 : (vO 1).toInt = (2 : Int) := zi_eq.mp cz3
      refine lv_aload_n hx hb dX12_number_24 rfl (lv_at hl 0 rfl) ?_
      refine va_get (D := (dC, dI)) (ci := 12) (v := .int (vO 3)) (C := RX12) (T := TX12) (N := 59) hx hb hts (fun w h => List.mem_cons_of_mem _ (List.mem_append_right _ (List.mem_append_left _ h))) hown hK hP 0 rfl rfl 10 (by decide) (hts (.fieldLink RX12 150 "SagMemoryModel" "value" "I") (wl_mem 2 rfl)) (fun _ h9 => h9) rfl dX12_number_25 ?_
      refine lv_i2l hx hb dX12_number_28 rfl ?_
      refine lv_iload_n hx hb dX12_number_29 rfl (lv_at hl 1 rfl) ?_
      refine lv_i2l hx hb dX12_number_30 rfl ?_
      refine lv_iload_n hx hb dX12_number_31 rfl (lv_at hl 2 rfl) ?_
      refine lv_i2l hx hb dX12_number_32 rfl ?_
      have hPc : va_P (dC, dI) vwCl (List.flatten ([] : List va_W)) s.heap := fun k q h => by simp at h
      refine vp_callSi (va_Run.run (va_runS (As := [.long ((vO 3).toInt64), .long p1.toInt64, .long p2.toInt64]) (rest := []) ⟨hx, hb, hml, hown, hts⟩ (c_X12_in l dC dI k ((vO 3).toInt64) p1.toInt64 p2.toInt64) (va_cwS 3 hts (gk_S (wl_mem 3 rfl) (wl_mem 4 rfl) (wl_mem 5 rfl) (fun w h => List.mem_cons_of_mem _ (List.mem_append_right _ (List.mem_append_right _ (List.mem_append_left _ h)))) wkg_c_X12_in) rfl rfl rfl (by decide +kernel) ⟨Nat.le_of_ble_eq_true rfl, Nat.le_of_ble_eq_true rfl⟩) ⟨fun a U g mk q => by obtain ⟨q0, qP, qK⟩ := q; exact ⟨q0, qP, va_K.moved (u := U) (U := U.calling g mk a) (Vm.Alike.refl U.vm) qK⟩, fun U hU hW => ⟨rfl, by rw [hU]; exact hPc, va_K.moved hW.alike hK⟩⟩ rfl rfl hl.1 rfl (lv_room (Nat.le_of_ble_eq_true rfl)) dX12_number_33 ⟨Nat.le_of_ble_eq_true rfl, Nat.le_of_ble_eq_true rfl⟩)) (fun rz6 gz5 => ?_)
      clear hPc
      rcases gz5 with ⟨er, cz7⟩ | ⟨er, cz8, cz9⟩ | ⟨er, cz10, cz11⟩
      · obtain rfl := er.symm
        have zz12 : (vO 3).toInt < p1.toInt := by have h9 := zi_ltL.mp cz7; simp only [Int32.toInt_toInt64] at h9; exact h9
        refine lv_if_ne (tgt := 46) hx hb dX12_number_36 (by decide) (fun cz13 => ?_) (fun cz13 => ?_)
        · skip
          exact absurd cz13 (by decide)
        · skip
          refine lv_aload_n hx hb dX12_number_39 rfl (lv_at hl 0 rfl) ?_
          refine lv_iconst (v := 2) hx hb dX12_number_40 (by decide) ?_
          have hPc := hP.sub (ws' := (List.flatten [(wMO qO k widthO manyO cellsO movedO (qTa 0) linesO hasO bridgeO cartO wardO frostAtO actO isKeptO loadNowO byNowO rowO memoryO whoseO deepNowO brokenByO brokenAtO goesByO comesToO sagMoreO creakOfO wipedByO deepAtO sagAtO loadAtO orderRowO oftenO lossOneO lossOtherO vO tO mO gO)] ++ List.flatten ([] : List va_W))) [0] rfl
          have hC : [0].map (fun i => (List.flatten [(wMO qO k widthO manyO cellsO movedO (qTa 0) linesO hasO bridgeO cartO wardO frostAtO actO isKeptO loadNowO byNowO rowO memoryO whoseO deepNowO brokenByO brokenAtO goesByO comesToO sagMoreO creakOfO wipedByO deepAtO sagAtO loadAtO orderRowO oftenO lossOneO lossOtherO vO tO mO gO)] ++ List.flatten [(wmTa qTa k aTa)])[i]?) = (List.flatten [(wMO qO k widthO manyO cellsO movedO (qTa 0) linesO hasO bridgeO cartO wardO frostAtO actO isKeptO loadNowO byNowO rowO memoryO whoseO deepNowO brokenByO brokenAtO goesByO comesToO sagMoreO creakOfO wipedByO deepAtO sagAtO loadAtO orderRowO oftenO lossOneO lossOtherO vO tO mO gO)] ++ List.flatten ([] : List va_W)).map some := rfl
          have hDc := hD.sub [0] (by decide) hC
          have hFc := va_free hD hS hA [0] hC
          refine va_callv (va_runV (As := [.int 2]) (rest := []) ⟨hx, hb, hml, hown, hts⟩ (c_X12_fails l dC dI k s.heap.size qO widthO manyO cellsO movedO (qTa 0) linesO hasO bridgeO cartO wardO frostAtO actO isKeptO loadNowO byNowO rowO memoryO whoseO deepNowO brokenByO brokenAtO goesByO comesToO sagMoreO creakOfO wipedByO deepAtO sagAtO loadAtO orderRowO oftenO lossOneO lossOtherO vO tO mO gO (2 : Int32) htO hmO) (cwV 1 hts (gk_V (wl_mem 6 rfl) (wl_mem 7 rfl) (wl_mem 8 rfl) (wl_mem 5 rfl) (fun w h => List.mem_cons_of_mem _ (List.mem_append_right _ (List.mem_append_right _ (List.mem_append_right _ (List.mem_append_left _ h))))) wkg_c_X12_fails) rfl rfl rfl (by decide +kernel) ⟨Nat.le_of_ble_eq_true rfl, Nat.le_of_ble_eq_true rfl⟩) ⟨fun a U g mk q => by obtain ⟨q0, q1, qP, qK, qD⟩ := q; exact ⟨q0, q1, qP, va_K.moved (u := U) (U := U.calling g mk a) (Vm.Alike.refl U.vm) qK, qD⟩, va_recv hK hPc (ci := 12) (q0 := 0) rfl rfl, fun U hU hW => ⟨rfl, by rw [hU], by rw [hU]; exact hPc, va_K.moved hW.alike hK, hDc.weaken (fun _ _ _ _ => trivial)⟩⟩ rfl rfl hl.1 rfl (lv_room (Nat.le_of_ble_eq_true rfl)) dX12_number_41 ⟨Nat.le_of_ble_eq_true rfl, Nat.le_of_ble_eq_true rfl⟩) hS (fun q _ h => hFc q h) hFc (fun u t H1 locs ht hvm gz14 hB hz1 hk1 hS => ?_)
          obtain ⟨vz16, tz17, mz18, gz19, htz17, hmz18, pz20, pz21, pz22, pz23, pz24, hP1⟩ := hB
          rw [ht] at hP1
          obtain ⟨hP, hD⟩ := w_callR hP hD hk1 hP1 [0] rfl rfl (fun _ h => absurd h List.not_mem_nil) rfl [some 0] rfl rfl
          clear hPc hC hDc hFc hk1 hP1
          generalize H1 = H at hP hS ⊢
          have hP : va_P (dC, dI) vwCl (List.flatten [(wMO qO k widthO manyO cellsO movedO (qTa 0) linesO hasO bridgeO cartO wardO frostAtO actO isKeptO loadNowO byNowO rowO memoryO whoseO deepNowO brokenByO brokenAtO goesByO comesToO sagMoreO creakOfO wipedByO deepAtO sagAtO loadAtO orderRowO oftenO lossOneO lossOtherO vz16 tz17 mz18 gz19)] ++ List.flatten [(wmTa qTa k aTa)]) H := hP
          have hD : va_D A (List.flatten [(wMO qO k widthO manyO cellsO movedO (qTa 0) linesO hasO bridgeO cartO wardO frostAtO actO isKeptO loadNowO byNowO rowO memoryO whoseO deepNowO brokenByO brokenAtO goesByO comesToO sagMoreO creakOfO wipedByO deepAtO sagAtO loadAtO orderRowO oftenO lossOneO lossOtherO vz16 tz17 mz18 gz19)] ++ List.flatten [(wmTa qTa k aTa)]) := hD
          refine W.widen (k := 0) (n := 0) (Nat.le_refl 0) (Nat.le_refl 0) ?_
          have pz20 : ((vO 4).toInt ≠ 0 ∧ (vz16 4).toInt = (vO 4).toInt) ∨ ((vO 4).toInt = 0 ∧ (vz16 4).toInt = (2 : Int)) := pz20
          have pz21 : (tz17 0).toInt = (tO 0).toInt := pz21
          have pz22 : (tz17 1).toInt = (tO 1).toInt := pz22
          have pz23 : (vz16 1).toInt = (vO 1).toInt := pz23
          have pz24 : (vz16 3).toInt = (vO 3).toInt := pz24
          have bz25 := htO 0
          have bz26 := htO 1
          refine lv_iload_n hx hb dX12_number_44 rfl (lv_at hl 1 rfl) ?_
          rw [hQ]
          exact W.iret (v := p1) hx hb hr (fun t ht hW => ⟨⟨p1, (), rfl, (by show p1.toInt = p1.toInt ∨ (p1.toInt ≤ p1.toInt ∧ p1.toInt ≤ p2.toInt); omega), vz16, tz17, mz18, gz19, htz17, hmz18, (by show (tz17 0).toInt = (tO 0).toInt; omega), (by show (tz17 1).toInt ≤ (tO 0).toInt; omega), (by show (tO 1).toInt ≤ (tz17 1).toInt; omega), by rw [ht]; exact hP⟩, hS.F ht⟩) hS.2.2 dX12_number_45
      · obtain rfl := er.symm
        have zz27 : ¬ (vO 3).toInt < p1.toInt := by intro h9; apply cz8; rw [zi_ltL]; simp only [Int32.toInt_toInt64]; exact h9
        have zz28 : p2.toInt < (vO 3).toInt := by have h9 := zi_ltL.mp cz9; simp only [Int32.toInt_toInt64] at h9; exact h9
        refine lv_if_ne (tgt := 46) hx hb dX12_number_36 (by decide) (fun cz29 => ?_) (fun cz29 => ?_)
        · skip
          exact absurd cz29 (by decide)
        · skip
          refine lv_aload_n hx hb dX12_number_39 rfl (lv_at hl 0 rfl) ?_
          refine lv_iconst (v := 2) hx hb dX12_number_40 (by decide) ?_
          have hPc := hP.sub (ws' := (List.flatten [(wMO qO k widthO manyO cellsO movedO (qTa 0) linesO hasO bridgeO cartO wardO frostAtO actO isKeptO loadNowO byNowO rowO memoryO whoseO deepNowO brokenByO brokenAtO goesByO comesToO sagMoreO creakOfO wipedByO deepAtO sagAtO loadAtO orderRowO oftenO lossOneO lossOtherO vO tO mO gO)] ++ List.flatten ([] : List va_W))) [0] rfl
          have hC : [0].map (fun i => (List.flatten [(wMO qO k widthO manyO cellsO movedO (qTa 0) linesO hasO bridgeO cartO wardO frostAtO actO isKeptO loadNowO byNowO rowO memoryO whoseO deepNowO brokenByO brokenAtO goesByO comesToO sagMoreO creakOfO wipedByO deepAtO sagAtO loadAtO orderRowO oftenO lossOneO lossOtherO vO tO mO gO)] ++ List.flatten [(wmTa qTa k aTa)])[i]?) = (List.flatten [(wMO qO k widthO manyO cellsO movedO (qTa 0) linesO hasO bridgeO cartO wardO frostAtO actO isKeptO loadNowO byNowO rowO memoryO whoseO deepNowO brokenByO brokenAtO goesByO comesToO sagMoreO creakOfO wipedByO deepAtO sagAtO loadAtO orderRowO oftenO lossOneO lossOtherO vO tO mO gO)] ++ List.flatten ([] : List va_W)).map some := rfl
          have hDc := hD.sub [0] (by decide) hC
          have hFc := va_free hD hS hA [0] hC
          refine va_callv (va_runV (As := [.int 2]) (rest := []) ⟨hx, hb, hml, hown, hts⟩ (c_X12_fails l dC dI k s.heap.size qO widthO manyO cellsO movedO (qTa 0) linesO hasO bridgeO cartO wardO frostAtO actO isKeptO loadNowO byNowO rowO memoryO whoseO deepNowO brokenByO brokenAtO goesByO comesToO sagMoreO creakOfO wipedByO deepAtO sagAtO loadAtO orderRowO oftenO lossOneO lossOtherO vO tO mO gO (2 : Int32) htO hmO) (cwV 1 hts (gk_V (wl_mem 6 rfl) (wl_mem 7 rfl) (wl_mem 8 rfl) (wl_mem 5 rfl) (fun w h => List.mem_cons_of_mem _ (List.mem_append_right _ (List.mem_append_right _ (List.mem_append_right _ (List.mem_append_left _ h))))) wkg_c_X12_fails) rfl rfl rfl (by decide +kernel) ⟨Nat.le_of_ble_eq_true rfl, Nat.le_of_ble_eq_true rfl⟩) ⟨fun a U g mk q => by obtain ⟨q0, q1, qP, qK, qD⟩ := q; exact ⟨q0, q1, qP, va_K.moved (u := U) (U := U.calling g mk a) (Vm.Alike.refl U.vm) qK, qD⟩, va_recv hK hPc (ci := 12) (q0 := 0) rfl rfl, fun U hU hW => ⟨rfl, by rw [hU], by rw [hU]; exact hPc, va_K.moved hW.alike hK, hDc.weaken (fun _ _ _ _ => trivial)⟩⟩ rfl rfl hl.1 rfl (lv_room (Nat.le_of_ble_eq_true rfl)) dX12_number_41 ⟨Nat.le_of_ble_eq_true rfl, Nat.le_of_ble_eq_true rfl⟩) hS (fun q _ h => hFc q h) hFc (fun u t H1 locs ht hvm gz30 hB hz1 hk1 hS => ?_)
          obtain ⟨vz32, tz33, mz34, gz35, htz33, hmz34, pz36, pz37, pz38, pz39, pz40, hP1⟩ := hB
          rw [ht] at hP1
          obtain ⟨hP, hD⟩ := w_callR hP hD hk1 hP1 [0] rfl rfl (fun _ h => absurd h List.not_mem_nil) rfl [some 0] rfl rfl
          clear hPc hC hDc hFc hk1 hP1
          generalize H1 = H at hP hS ⊢
          have hP : va_P (dC, dI) vwCl (List.flatten [(wMO qO k widthO manyO cellsO movedO (qTa 0) linesO hasO bridgeO cartO wardO frostAtO actO isKeptO loadNowO byNowO rowO memoryO whoseO deepNowO brokenByO brokenAtO goesByO comesToO sagMoreO creakOfO wipedByO deepAtO sagAtO loadAtO orderRowO oftenO lossOneO lossOtherO vz32 tz33 mz34 gz35)] ++ List.flatten [(wmTa qTa k aTa)]) H := hP
          have hD : va_D A (List.flatten [(wMO qO k widthO manyO cellsO movedO (qTa 0) linesO hasO bridgeO cartO wardO frostAtO actO isKeptO loadNowO byNowO rowO memoryO whoseO deepNowO brokenByO brokenAtO goesByO comesToO sagMoreO creakOfO wipedByO deepAtO sagAtO loadAtO orderRowO oftenO lossOneO lossOtherO vz32 tz33 mz34 gz35)] ++ List.flatten [(wmTa qTa k aTa)]) := hD
          refine W.widen (k := 0) (n := 0) (Nat.le_refl 0) (Nat.le_refl 0) ?_
          have pz36 : ((vO 4).toInt ≠ 0 ∧ (vz32 4).toInt = (vO 4).toInt) ∨ ((vO 4).toInt = 0 ∧ (vz32 4).toInt = (2 : Int)) := pz36
          have pz37 : (tz33 0).toInt = (tO 0).toInt := pz37
          have pz38 : (tz33 1).toInt = (tO 1).toInt := pz38
          have pz39 : (vz32 1).toInt = (vO 1).toInt := pz39
          have pz40 : (vz32 3).toInt = (vO 3).toInt := pz40
          have bz41 := htO 0
          have bz42 := htO 1
          refine lv_iload_n hx hb dX12_number_44 rfl (lv_at hl 1 rfl) ?_
          rw [hQ]
          exact W.iret (v := p1) hx hb hr (fun t ht hW => ⟨⟨p1, (), rfl, (by show p1.toInt = p1.toInt ∨ (p1.toInt ≤ p1.toInt ∧ p1.toInt ≤ p2.toInt); omega), vz32, tz33, mz34, gz35, htz33, hmz34, (by show (tz33 0).toInt = (tO 0).toInt; omega), (by show (tz33 1).toInt ≤ (tO 0).toInt; omega), (by show (tO 1).toInt ≤ (tz33 1).toInt; omega), by rw [ht]; exact hP⟩, hS.F ht⟩) hS.2.2 dX12_number_45
      · obtain rfl := er.symm
        have zz43 : ¬ (vO 3).toInt < p1.toInt := by intro h9; apply cz10; rw [zi_ltL]; simp only [Int32.toInt_toInt64]; exact h9
        have zz44 : ¬ p2.toInt < (vO 3).toInt := by intro h9; apply cz11; rw [zi_ltL]; simp only [Int32.toInt_toInt64]; exact h9
        refine lv_if_ne (tgt := 46) hx hb dX12_number_36 (by decide) (fun cz45 => ?_) (fun cz45 => ?_)
        · skip
          refine lv_aload_n hx hb dX12_number_46 rfl (lv_at hl 0 rfl) ?_
          refine va_get (D := (dC, dI)) (ci := 12) (v := .int (vO 3)) (C := RX12) (T := TX12) (N := 59) hx hb hts (fun w h => List.mem_cons_of_mem _ (List.mem_append_right _ (List.mem_append_left _ h))) hown hK hP 0 rfl rfl 10 (by decide) (hts (.fieldLink RX12 150 "SagMemoryModel" "value" "I") (wl_mem 2 rfl)) (fun _ h9 => h9) rfl dX12_number_47 ?_
          refine lv_istore_n (lv' := [(3, .int (vO 3)), (0, .ref (qO 0)), (1, .int p1), (2, .int p2)]) hx hb dX12_number_50 rfl hl (by decide) rfl (fun ls hl => ?_)
          refine lv_aload_n hx hb dX12_number_51 rfl (lv_at hl 1 rfl) ?_
          have bz46 := htO 1
          have bz47 := htO 0
          have hPc := hP
          have hC : [0, 1].map (fun i => (List.flatten [(wMO qO k widthO manyO cellsO movedO (qTa 0) linesO hasO bridgeO cartO wardO frostAtO actO isKeptO loadNowO byNowO rowO memoryO whoseO deepNowO brokenByO brokenAtO goesByO comesToO sagMoreO creakOfO wipedByO deepAtO sagAtO loadAtO orderRowO oftenO lossOneO lossOtherO vO tO mO gO)] ++ List.flatten [(wmTa qTa k aTa)])[i]?) = (List.flatten [(wMO qO k widthO manyO cellsO movedO (qTa 0) linesO hasO bridgeO cartO wardO frostAtO actO isKeptO loadNowO byNowO rowO memoryO whoseO deepNowO brokenByO brokenAtO goesByO comesToO sagMoreO creakOfO wipedByO deepAtO sagAtO loadAtO orderRowO oftenO lossOneO lossOtherO vO tO mO gO)] ++ List.flatten [(wmTa qTa k aTa)]).map some := rfl
          have hDc := hD.sub [0, 1] (by decide) hC
          have hFc := va_free hD hS hA [0, 1] hC
          refine va_callv (va_runV (As := []) (rest := []) ⟨hx, hb, hml, hown, hts⟩ (c_X12_next l dC dI k s.heap.size qO widthO manyO cellsO movedO linesO hasO bridgeO cartO wardO frostAtO actO isKeptO loadNowO byNowO rowO memoryO whoseO deepNowO brokenByO brokenAtO goesByO comesToO sagMoreO creakOfO wipedByO deepAtO sagAtO loadAtO orderRowO oftenO lossOneO lossOtherO vO tO mO gO qTa aTa htO hmO (by show (tO 1).toInt ≤ (tO 0).toInt; omega)) (cwV 0 hts (gk_V (wl_mem 9 rfl) (wl_mem 10 rfl) (wl_mem 11 rfl) (wl_mem 5 rfl) (fun w h => List.mem_cons_of_mem _ (List.mem_append_right _ (List.mem_append_right _ (List.mem_append_right _ (List.mem_append_right _ (List.mem_append_left _ h)))))) wkg_c_X12_next) rfl rfl rfl (by decide +kernel) ⟨Nat.le_of_ble_eq_true rfl, Nat.le_of_ble_eq_true rfl⟩) ⟨fun a U g mk q => by obtain ⟨q0, q1, qP, qK, qD⟩ := q; exact ⟨q0, q1, qP, va_K.moved (u := U) (U := U.calling g mk a) (Vm.Alike.refl U.vm) qK, qD⟩, va_recv hK hPc (ci := 12) (q0 := 0) rfl rfl, fun U hU hW => ⟨rfl, by rw [hU], by rw [hU]; exact hPc, va_K.moved hW.alike hK, hDc.weaken (fun _ _ _ _ => trivial)⟩⟩ rfl rfl hl.1 rfl (lv_room (Nat.le_of_ble_eq_true rfl)) dX12_number_52 ⟨Nat.le_of_ble_eq_true rfl, Nat.le_of_ble_eq_true rfl⟩) hS (fun q _ h => hFc q h) hFc (fun u t H1 locs ht hvm gz48 hB hz1 hk1 hS => ?_)
          obtain ⟨vz50, tz51, mz52, gz53, htz51, hmz52, pz54, pz55, pz56, pz57, pz58, hP1⟩ := hB
          rw [ht] at hP1
          obtain ⟨hP, hD⟩ := w_callR hP hD hk1 hP1 [0] rfl rfl (wk_memC [1] rfl) rfl [some 0] rfl rfl
          clear hPc hC hDc hFc hk1 hP1
          generalize H1 = H at hP hS ⊢
          have hP : va_P (dC, dI) vwCl (List.flatten [(wMO qO k widthO manyO cellsO movedO (qTa 0) linesO hasO bridgeO cartO wardO frostAtO actO isKeptO loadNowO byNowO rowO memoryO whoseO deepNowO brokenByO brokenAtO goesByO comesToO sagMoreO creakOfO wipedByO deepAtO sagAtO loadAtO orderRowO oftenO lossOneO lossOtherO vz50 tz51 mz52 gz53)] ++ List.flatten [(wmTa qTa k aTa)]) H := hP
          have hD : va_D A (List.flatten [(wMO qO k widthO manyO cellsO movedO (qTa 0) linesO hasO bridgeO cartO wardO frostAtO actO isKeptO loadNowO byNowO rowO memoryO whoseO deepNowO brokenByO brokenAtO goesByO comesToO sagMoreO creakOfO wipedByO deepAtO sagAtO loadAtO orderRowO oftenO lossOneO lossOtherO vz50 tz51 mz52 gz53)] ++ List.flatten [(wmTa qTa k aTa)]) := hD
          refine W.widen (k := 0) (n := 0) (Nat.le_refl 0) (Nat.le_refl 0) ?_
          have pz54 : (tz51 0).toInt = (tO 0).toInt := pz54
          have pz55 : (tz51 1).toInt ≤ (tO 0).toInt := pz55
          have pz56 : (tO 1).toInt ≤ (tz51 1).toInt := pz56
          have pz57 : (vz50 1).toInt = 0 ∨ (tO 1).toInt < (tz51 1).toInt := pz57
          have pz58 : (vz50 4).toInt = (vO 4).toInt := pz58
          refine lv_iload_n hx hb dX12_number_55 rfl (lv_at hl 0 rfl) ?_
          rw [hQ]
          exact W.iret (v := (vO 3)) hx hb hr (fun t ht hW => ⟨⟨(vO 3), (), rfl, (by show (vO 3).toInt = p1.toInt ∨ (p1.toInt ≤ (vO 3).toInt ∧ (vO 3).toInt ≤ p2.toInt); omega), vz50, tz51, mz52, gz53, htz51, hmz52, (by show (tz51 0).toInt = (tO 0).toInt; omega), (by show (tz51 1).toInt ≤ (tO 0).toInt; omega), (by show (tO 1).toInt ≤ (tz51 1).toInt; omega), by rw [ht]; exact hP⟩, hS.F ht⟩) hS.2.2 dX12_number_56
        · skip
          exact absurd cz45 (by decide)
    · skip
      have zz59 : ¬ (vO 1).toInt = (2 : Int) := fun h9 => cz3 (zi_eq.mpr h9)
      refine lv_aload_n hx hb dX12_number_17 rfl (lv_at hl 0 rfl) ?_
      refine lv_iconst (v := 1) hx hb dX12_number_18 (by decide) ?_
      have hPc := hP.sub (ws' := (List.flatten [(wMO qO k widthO manyO cellsO movedO (qTa 0) linesO hasO bridgeO cartO wardO frostAtO actO isKeptO loadNowO byNowO rowO memoryO whoseO deepNowO brokenByO brokenAtO goesByO comesToO sagMoreO creakOfO wipedByO deepAtO sagAtO loadAtO orderRowO oftenO lossOneO lossOtherO vO tO mO gO)] ++ List.flatten ([] : List va_W))) [0] rfl
      have hC : [0].map (fun i => (List.flatten [(wMO qO k widthO manyO cellsO movedO (qTa 0) linesO hasO bridgeO cartO wardO frostAtO actO isKeptO loadNowO byNowO rowO memoryO whoseO deepNowO brokenByO brokenAtO goesByO comesToO sagMoreO creakOfO wipedByO deepAtO sagAtO loadAtO orderRowO oftenO lossOneO lossOtherO vO tO mO gO)] ++ List.flatten [(wmTa qTa k aTa)])[i]?) = (List.flatten [(wMO qO k widthO manyO cellsO movedO (qTa 0) linesO hasO bridgeO cartO wardO frostAtO actO isKeptO loadNowO byNowO rowO memoryO whoseO deepNowO brokenByO brokenAtO goesByO comesToO sagMoreO creakOfO wipedByO deepAtO sagAtO loadAtO orderRowO oftenO lossOneO lossOtherO vO tO mO gO)] ++ List.flatten ([] : List va_W)).map some := rfl
      have hDc := hD.sub [0] (by decide) hC
      have hFc := va_free hD hS hA [0] hC
      refine va_callv (va_runV (As := [.int 1]) (rest := []) ⟨hx, hb, hml, hown, hts⟩ (c_X12_fails l dC dI k s.heap.size qO widthO manyO cellsO movedO (qTa 0) linesO hasO bridgeO cartO wardO frostAtO actO isKeptO loadNowO byNowO rowO memoryO whoseO deepNowO brokenByO brokenAtO goesByO comesToO sagMoreO creakOfO wipedByO deepAtO sagAtO loadAtO orderRowO oftenO lossOneO lossOtherO vO tO mO gO (1 : Int32) htO hmO) (cwV 1 hts (gk_V (wl_mem 6 rfl) (wl_mem 7 rfl) (wl_mem 8 rfl) (wl_mem 5 rfl) (fun w h => List.mem_cons_of_mem _ (List.mem_append_right _ (List.mem_append_right _ (List.mem_append_right _ (List.mem_append_left _ h))))) wkg_c_X12_fails) rfl rfl rfl (by decide +kernel) ⟨Nat.le_of_ble_eq_true rfl, Nat.le_of_ble_eq_true rfl⟩) ⟨fun a U g mk q => by obtain ⟨q0, q1, qP, qK, qD⟩ := q; exact ⟨q0, q1, qP, va_K.moved (u := U) (U := U.calling g mk a) (Vm.Alike.refl U.vm) qK, qD⟩, va_recv hK hPc (ci := 12) (q0 := 0) rfl rfl, fun U hU hW => ⟨rfl, by rw [hU], by rw [hU]; exact hPc, va_K.moved hW.alike hK, hDc.weaken (fun _ _ _ _ => trivial)⟩⟩ rfl rfl hl.1 rfl (lv_room (Nat.le_of_ble_eq_true rfl)) dX12_number_19 ⟨Nat.le_of_ble_eq_true rfl, Nat.le_of_ble_eq_true rfl⟩) hS (fun q _ h => hFc q h) hFc (fun u t H1 locs ht hvm gz60 hB hz1 hk1 hS => ?_)
      obtain ⟨vz62, tz63, mz64, gz65, htz63, hmz64, pz66, pz67, pz68, pz69, pz70, hP1⟩ := hB
      rw [ht] at hP1
      obtain ⟨hP, hD⟩ := w_callR hP hD hk1 hP1 [0] rfl rfl (fun _ h => absurd h List.not_mem_nil) rfl [some 0] rfl rfl
      clear hPc hC hDc hFc hk1 hP1
      generalize H1 = H at hP hS ⊢
      have hP : va_P (dC, dI) vwCl (List.flatten [(wMO qO k widthO manyO cellsO movedO (qTa 0) linesO hasO bridgeO cartO wardO frostAtO actO isKeptO loadNowO byNowO rowO memoryO whoseO deepNowO brokenByO brokenAtO goesByO comesToO sagMoreO creakOfO wipedByO deepAtO sagAtO loadAtO orderRowO oftenO lossOneO lossOtherO vz62 tz63 mz64 gz65)] ++ List.flatten [(wmTa qTa k aTa)]) H := hP
      have hD : va_D A (List.flatten [(wMO qO k widthO manyO cellsO movedO (qTa 0) linesO hasO bridgeO cartO wardO frostAtO actO isKeptO loadNowO byNowO rowO memoryO whoseO deepNowO brokenByO brokenAtO goesByO comesToO sagMoreO creakOfO wipedByO deepAtO sagAtO loadAtO orderRowO oftenO lossOneO lossOtherO vz62 tz63 mz64 gz65)] ++ List.flatten [(wmTa qTa k aTa)]) := hD
      refine W.widen (k := 0) (n := 0) (Nat.le_refl 0) (Nat.le_refl 0) ?_
      have pz66 : ((vO 4).toInt ≠ 0 ∧ (vz62 4).toInt = (vO 4).toInt) ∨ ((vO 4).toInt = 0 ∧ (vz62 4).toInt = (1 : Int)) := pz66
      have pz67 : (tz63 0).toInt = (tO 0).toInt := pz67
      have pz68 : (tz63 1).toInt = (tO 1).toInt := pz68
      have pz69 : (vz62 1).toInt = (vO 1).toInt := pz69
      have pz70 : (vz62 3).toInt = (vO 3).toInt := pz70
      have bz71 := htO 0
      have bz72 := htO 1
      refine lv_iload_n hx hb dX12_number_22 rfl (lv_at hl 1 rfl) ?_
      rw [hQ]
      exact W.iret (v := p1) hx hb hr (fun t ht hW => ⟨⟨p1, (), rfl, (by show p1.toInt = p1.toInt ∨ (p1.toInt ≤ p1.toInt ∧ p1.toInt ≤ p2.toInt); omega), vz62, tz63, mz64, gz65, htz63, hmz64, (by show (tz63 0).toInt = (tO 0).toInt; omega), (by show (tz63 1).toInt ≤ (tO 0).toInt; omega), (by show (tO 1).toInt ≤ (tz63 1).toInt; omega), by rw [ht]; exact hP⟩, hS.F ht⟩) hS.2.2 dX12_number_23
  · skip
    have zz73 : ¬ (vO 4).toInt = (0 : Int) := fun h9 => cz1 (zi_eq.mpr h9)
    refine lv_iload_n hx hb dX12_number_7 rfl (lv_at hl 1 rfl) ?_
    rw [hQ]
    exact W.iret (v := p1) hx hb hr (fun t ht hW => ⟨⟨p1, (), rfl, (by show p1.toInt = p1.toInt ∨ (p1.toInt ≤ p1.toInt ∧ p1.toInt ≤ p2.toInt); omega), vO, tO, mO, gO, htO, hmO, (by show (tO 0).toInt = (tO 0).toInt; omega), (by show (tO 1).toInt ≤ (tO 0).toInt; omega), (by show (tO 1).toInt ≤ (tO 1).toInt; omega), by rw [ht]; exact hP⟩, hS.F ht⟩) hS.2.2 dX12_number_8
def wk_c_X12_number_ : List Cond := .code yX12_number_ cX12_number_ 5 (some .int) :: ([.methodLink RX12 187 yX12_asks, .instanceMethod yX12_asks, .selects RX12 yX12_asks yX12_asks, .initialized RX12, .methodLink RX12 191 yX12_number, .instanceMethod yX12_number, .selects RX12 yX12_number yX12_number] ++ (wk_c_X12_asks ++ (wk_c_X12_number ++ [])))
theorem wkg_c_X12_number_ : wk_c_X12_number_.all goodWord = true := by decide +kernel
set_option maxHeartbeats 4000000 in
set_option maxRecDepth 100000 in
theorem c_X12_number_ (l : Launch) (dC : Nat → ClassId) (dI : Nat → Nat → Nat) (k : Nat → ClassId) (sz : Nat) (qO : Nat → Nat) (widthO : Nat) (manyO : Nat) (cellsO : Nat) (movedO : Nat) (linesO : Nat) (hasO : Nat) (bridgeO : Nat) (cartO : Nat) (wardO : Nat) (frostAtO : Nat) (actO : Nat) (isKeptO : Nat) (loadNowO : Nat) (byNowO : Nat) (rowO : Nat) (memoryO : Nat) (whoseO : Nat) (deepNowO : Nat) (brokenByO : Nat) (brokenAtO : Nat) (goesByO : Nat) (comesToO : Nat) (sagMoreO : Nat) (creakOfO : Nat) (wipedByO : Nat) (deepAtO : Nat) (sagAtO : Nat) (loadAtO : Nat) (orderRowO : Nat) (oftenO : Nat) (lossOneO : Nat) (lossOtherO : Nat) (vO : Nat → Int32) (tO : Nat → Int32) (mO : Nat → Int32) (gO : Nat → Int64) (qTa : Nat → Nat) (aTa : Nat → Nat → Int32) (p1 : Int64) (p2 : Int32) (p3 : Int32) (htO : Rg 0 700 tO) (hmO : Rg (-1) 127 mO) (hp0 : (tO 1).toInt ≤ (tO 0).toInt) : Met l yX12_number_ wk_c_X12_number_ ({ frames := 4, cells := 0, slots := 0, locals := 88 }) (va_Pc [.ref (qO 0), .long p1, .int p2, .int p3] (fun U => U.heap.size = sz ∧ va_P (dC, dI) vwCl (List.flatten [(wMO qO k widthO manyO cellsO movedO (qTa 0) linesO hasO bridgeO cartO wardO frostAtO actO isKeptO loadNowO byNowO rowO memoryO whoseO deepNowO brokenByO brokenAtO goesByO comesToO sagMoreO creakOfO wipedByO deepAtO sagAtO loadAtO orderRowO oftenO lossOneO lossOtherO vO tO mO gO)] ++ List.flatten [(wmTa qTa k aTa)]) U.heap ∧ va_K (dC, dI) vwCl (tK k) U ∧ va_D (fun _ => True) (List.flatten [(wMO qO k widthO manyO cellsO movedO (qTa 0) linesO hasO bridgeO cartO wardO frostAtO actO isKeptO loadNowO byNowO rowO memoryO whoseO deepNowO brokenByO brokenAtO goesByO comesToO sagMoreO creakOfO wipedByO deepAtO sagAtO loadAtO orderRowO oftenO lossOneO lossOtherO vO tO mO gO)] ++ List.flatten [(wmTa qTa k aTa)]))) (va_Qi (fun (r : Int32) (_ : Unit) => (r.toInt = p2.toInt ∨ (p2.toInt ≤ r.toInt ∧ r.toInt ≤ p3.toInt))) (fun (_ : Unit) (t : State) => ∃ (vO' : Nat → Int32) (tO' : Nat → Int32) (mO' : Nat → Int32) (gO' : Nat → Int64), Rg 0 700 tO' ∧ Rg (-1) 127 mO' ∧ ((tO' 0).toInt = (tO 0).toInt) ∧ ((tO' 1).toInt ≤ (tO 0).toInt) ∧ ((tO 1).toInt ≤ (tO' 1).toInt) ∧ va_P (dC, dI) vwCl (List.flatten [(wMO qO k widthO manyO cellsO movedO (qTa 0) linesO hasO bridgeO cartO wardO frostAtO actO isKeptO loadNowO byNowO rowO memoryO whoseO deepNowO brokenByO brokenAtO goesByO comesToO sagMoreO creakOfO wipedByO deepAtO sagAtO loadAtO orderRowO oftenO lossOneO lossOtherO vO' tO' mO' gO')] ++ List.flatten [(wmTa qTa k aTa)]) t.heap) (va_A (List.flatten [(wMO qO k widthO manyO cellsO movedO (qTa 0) linesO hasO bridgeO cartO wardO frostAtO actO isKeptO loadNowO byNowO rowO memoryO whoseO deepNowO brokenByO brokenAtO goesByO comesToO sagMoreO creakOfO wipedByO deepAtO sagAtO loadAtO orderRowO oftenO lossOneO lossOtherO vO tO mO gO)] ++ List.flatten [(wmTa qTa k aTa)]) sz)) 0 0 (va_A (List.flatten [(wMO qO k widthO manyO cellsO movedO (qTa 0) linesO hasO bridgeO cartO wardO frostAtO actO isKeptO loadNowO byNowO rowO memoryO whoseO deepNowO brokenByO brokenAtO goesByO comesToO sagMoreO creakOfO wipedByO deepAtO sagAtO loadAtO orderRowO oftenO lossOneO lossOtherO vO tO mO gO)] ++ List.flatten [(wmTa qTa k aTa)]) sz) := by
  refine Met.ofW (cc := cX12_number_) (maxL := 5) (ret := (some .int)) (by decide) rfl ?_
  intro p e s m args below meth c s₁ B hml hv
  obtain ⟨rfl, hsz, hP, hK, hD0⟩ := hv
  have hx := B.exec
  have hb := B.bytes
  have hr := B.returns
  have hts := atoms_spec (ws := wk_c_X12_number_) B.pre
  have hown : s.vm.findClass RX12 = some m.cls := findClass_of_methodNamed B.named
  have hlocks := B.notSynchronized
  subst hsz
  have hD := hD0.self (sz := s.heap.size)
  generalize hAe : va_A (List.flatten [(wMO qO k widthO manyO cellsO movedO (qTa 0) linesO hasO bridgeO cartO wardO frostAtO actO isKeptO loadNowO byNowO rowO memoryO whoseO deepNowO brokenByO brokenAtO goesByO comesToO sagMoreO creakOfO wipedByO deepAtO sagAtO loadAtO orderRowO oftenO lossOneO lossOtherO vO tO mO gO)] ++ List.flatten [(wmTa qTa k aTa)]) s.heap.size = A at hD ⊢
  have hA : ∀ q : Nat, s.heap.size ≤ q → A q := fun q h => by rw [← hAe]; exact Or.inr h
  have hS : va_S A s.heap s.heap [] := va_S.rf
  have hP : va_P (dC, dI) vwCl (List.flatten [(wMO qO k widthO manyO cellsO movedO (qTa 0) linesO hasO bridgeO cartO wardO frostAtO actO isKeptO loadNowO byNowO rowO memoryO whoseO deepNowO brokenByO brokenAtO goesByO comesToO sagMoreO creakOfO wipedByO deepAtO sagAtO loadAtO orderRowO oftenO lossOneO lossOtherO vO tO mO gO)] ++ List.flatten [(wmTa qTa k aTa)]) s.heap := hP
  have hl := lv_entry ([.ref (qO 0), .long p1, .int p2, .int p3]) (n := 5) (Nat.le_of_ble_eq_true rfl)
  rw [lg_entry_eq]
  generalize (lg_sl ([.ref (qO 0), .long p1, .int p2, .int p3]) ++ List.replicate (5 - (lg_sl ([.ref (qO 0), .long p1, .int p2, .int p3])).length) Slot.unset).toArray = ls at hl ⊢
  have hl : lv_has ls 5 [(0, .ref (qO 0)), (1, .long p1), (3, .int p2), (4, .int p3)] := hl
  refine w_gen (fun Q hQ => ?_)
  refine lv_aload_n hx hb dX12_number__0 rfl (lv_at hl 0 rfl) ?_
  refine lv_lload_n hx hb dX12_number__1 rfl (lv_at hl 1 rfl) ?_
  have bz1 := htO 1
  have bz2 := htO 0
  have hPc := hP
  have hC : [0, 1].map (fun i => (List.flatten [(wMO qO k widthO manyO cellsO movedO (qTa 0) linesO hasO bridgeO cartO wardO frostAtO actO isKeptO loadNowO byNowO rowO memoryO whoseO deepNowO brokenByO brokenAtO goesByO comesToO sagMoreO creakOfO wipedByO deepAtO sagAtO loadAtO orderRowO oftenO lossOneO lossOtherO vO tO mO gO)] ++ List.flatten [(wmTa qTa k aTa)])[i]?) = (List.flatten [(wMO qO k widthO manyO cellsO movedO (qTa 0) linesO hasO bridgeO cartO wardO frostAtO actO isKeptO loadNowO byNowO rowO memoryO whoseO deepNowO brokenByO brokenAtO goesByO comesToO sagMoreO creakOfO wipedByO deepAtO sagAtO loadAtO orderRowO oftenO lossOneO lossOtherO vO tO mO gO)] ++ List.flatten [(wmTa qTa k aTa)]).map some := rfl
  have hDc := hD.sub [0, 1] (by decide) hC
  have hFc := va_free hD hS hA [0, 1] hC
  refine va_callv (va_runV (As := [.long p1]) (rest := []) ⟨hx, hb, hml, hown, hts⟩ (c_X12_asks l dC dI k s.heap.size qO widthO manyO cellsO movedO linesO hasO bridgeO cartO wardO frostAtO actO isKeptO loadNowO byNowO rowO memoryO whoseO deepNowO brokenByO brokenAtO goesByO comesToO sagMoreO creakOfO wipedByO deepAtO sagAtO loadAtO orderRowO oftenO lossOneO lossOtherO vO tO mO gO qTa aTa p1 htO hmO (by show (tO 1).toInt ≤ (tO 0).toInt; omega)) (cwV 1 hts (gk_V (wl_mem 0 rfl) (wl_mem 1 rfl) (wl_mem 2 rfl) (wl_mem 3 rfl) (fun w h => List.mem_cons_of_mem _ (List.mem_append_right _ (List.mem_append_left _ h))) wkg_c_X12_asks) rfl rfl rfl (by decide +kernel) ⟨Nat.le_of_ble_eq_true rfl, Nat.le_of_ble_eq_true rfl⟩) ⟨fun a U g mk q => by obtain ⟨q0, q1, qP, qK, qD⟩ := q; exact ⟨q0, q1, qP, va_K.moved (u := U) (U := U.calling g mk a) (Vm.Alike.refl U.vm) qK, qD⟩, va_recv hK hPc (ci := 12) (q0 := 0) rfl rfl, fun U hU hW => ⟨rfl, by rw [hU], by rw [hU]; exact hPc, va_K.moved hW.alike hK, hDc.weaken (fun _ _ _ _ => trivial)⟩⟩ rfl rfl hl.1 rfl (lv_room (Nat.le_of_ble_eq_true rfl)) dX12_number__2 ⟨Nat.le_of_ble_eq_true rfl, Nat.le_of_ble_eq_true rfl⟩) hS (fun q _ h => hFc q h) hFc (fun u t H1 locs ht hvm gz3 hB hz1 hk1 hS => ?_)
  obtain ⟨vz5, tz6, mz7, gz8, htz6, hmz7, pz9, pz10, pz11, hP1⟩ := hB
  rw [ht] at hP1
  obtain ⟨hP, hD⟩ := w_callR hP hD hk1 hP1 [0] rfl rfl (wk_memC [1] rfl) rfl [some 0] rfl rfl
  clear hPc hC hDc hFc hk1 hP1
  generalize H1 = H at hP hS ⊢
  have hP : va_P (dC, dI) vwCl (List.flatten [(wMO qO k widthO manyO cellsO movedO (qTa 0) linesO hasO bridgeO cartO wardO frostAtO actO isKeptO loadNowO byNowO rowO memoryO whoseO deepNowO brokenByO brokenAtO goesByO comesToO sagMoreO creakOfO wipedByO deepAtO sagAtO loadAtO orderRowO oftenO lossOneO lossOtherO vz5 tz6 mz7 gz8)] ++ List.flatten [(wmTa qTa k aTa)]) H := hP
  have hD : va_D A (List.flatten [(wMO qO k widthO manyO cellsO movedO (qTa 0) linesO hasO bridgeO cartO wardO frostAtO actO isKeptO loadNowO byNowO rowO memoryO whoseO deepNowO brokenByO brokenAtO goesByO comesToO sagMoreO creakOfO wipedByO deepAtO sagAtO loadAtO orderRowO oftenO lossOneO lossOtherO vz5 tz6 mz7 gz8)] ++ List.flatten [(wmTa qTa k aTa)]) := hD
  refine W.widen (k := 0) (n := 0) (Nat.le_refl 0) (Nat.le_refl 0) ?_
  have pz9 : (tz6 0).toInt = (tO 0).toInt := pz9
  have pz10 : (tz6 1).toInt ≤ (tO 0).toInt := pz10
  have pz11 : (tO 1).toInt ≤ (tz6 1).toInt := pz11
  refine lv_aload_n hx hb dX12_number__5 rfl (lv_at hl 0 rfl) ?_
  refine lv_iload_n hx hb dX12_number__6 rfl (lv_at hl 2 rfl) ?_
  refine lv_iload hx hb dX12_number__7 (lv_at hl 3 rfl) ?_
  have bz12 := htz6 1
  have bz13 := htz6 0
  have hPc := hP
  have hC : [0, 1].map (fun i => (List.flatten [(wMO qO k widthO manyO cellsO movedO (qTa 0) linesO hasO bridgeO cartO wardO frostAtO actO isKeptO loadNowO byNowO rowO memoryO whoseO deepNowO brokenByO brokenAtO goesByO comesToO sagMoreO creakOfO wipedByO deepAtO sagAtO loadAtO orderRowO oftenO lossOneO lossOtherO vz5 tz6 mz7 gz8)] ++ List.flatten [(wmTa qTa k aTa)])[i]?) = (List.flatten [(wMO qO k widthO manyO cellsO movedO (qTa 0) linesO hasO bridgeO cartO wardO frostAtO actO isKeptO loadNowO byNowO rowO memoryO whoseO deepNowO brokenByO brokenAtO goesByO comesToO sagMoreO creakOfO wipedByO deepAtO sagAtO loadAtO orderRowO oftenO lossOneO lossOtherO vz5 tz6 mz7 gz8)] ++ List.flatten [(wmTa qTa k aTa)]).map some := rfl
  have hDc := hD.sub [0, 1] (by decide) hC
  have hFc := va_free hD hS hA [0, 1] hC
  refine va_calli (va_runV (As := [.int p2, .int p3]) (rest := []) ⟨hx, hb, hml, hown, hts⟩ (c_X12_number l dC dI k H.size qO widthO manyO cellsO movedO linesO hasO bridgeO cartO wardO frostAtO actO isKeptO loadNowO byNowO rowO memoryO whoseO deepNowO brokenByO brokenAtO goesByO comesToO sagMoreO creakOfO wipedByO deepAtO sagAtO loadAtO orderRowO oftenO lossOneO lossOtherO vz5 tz6 mz7 gz8 qTa aTa p2 p3 htz6 hmz7 (by show (tz6 1).toInt ≤ (tz6 0).toInt; omega)) (cwV 2 hts (gk_V (wl_mem 4 rfl) (wl_mem 5 rfl) (wl_mem 6 rfl) (wl_mem 3 rfl) (fun w h => List.mem_cons_of_mem _ (List.mem_append_right _ (List.mem_append_right _ (List.mem_append_left _ h)))) wkg_c_X12_number) rfl rfl rfl (by decide +kernel) ⟨Nat.le_of_ble_eq_true rfl, Nat.le_of_ble_eq_true rfl⟩) ⟨fun a U g mk q => by obtain ⟨q0, q1, qP, qK, qD⟩ := q; exact ⟨q0, q1, qP, va_K.moved (u := U) (U := U.calling g mk a) (Vm.Alike.refl U.vm) qK, qD⟩, va_recv hK hPc (ci := 12) (q0 := 0) rfl rfl, fun U hU hW => ⟨rfl, by rw [hU], by rw [hU]; exact hPc, va_K.moved hW.alike hK, hDc.weaken (fun _ _ _ _ => trivial)⟩⟩ rfl rfl hl.1 rfl (lv_room (Nat.le_of_ble_eq_true rfl)) dX12_number__9 ⟨Nat.le_of_ble_eq_true rfl, Nat.le_of_ble_eq_true rfl⟩) hS (fun q _ h => hFc q h) hFc (fun rz15 u t H1 locs ht hvm gz14 hB hz1 hk1 hS => ?_)
  obtain ⟨vz16, tz17, mz18, gz19, htz17, hmz18, pz20, pz21, pz22, hP1⟩ := hB
  rw [ht] at hP1
  obtain ⟨hP, hD⟩ := w_callR hP hD hk1 hP1 [0] rfl rfl (wk_memC [1] rfl) rfl [some 0] rfl rfl
  clear hPc hC hDc hFc hk1 hP1
  generalize H1 = H at hP hS ⊢
  have hP : va_P (dC, dI) vwCl (List.flatten [(wMO qO k widthO manyO cellsO movedO (qTa 0) linesO hasO bridgeO cartO wardO frostAtO actO isKeptO loadNowO byNowO rowO memoryO whoseO deepNowO brokenByO brokenAtO goesByO comesToO sagMoreO creakOfO wipedByO deepAtO sagAtO loadAtO orderRowO oftenO lossOneO lossOtherO vz16 tz17 mz18 gz19)] ++ List.flatten [(wmTa qTa k aTa)]) H := hP
  have hD : va_D A (List.flatten [(wMO qO k widthO manyO cellsO movedO (qTa 0) linesO hasO bridgeO cartO wardO frostAtO actO isKeptO loadNowO byNowO rowO memoryO whoseO deepNowO brokenByO brokenAtO goesByO comesToO sagMoreO creakOfO wipedByO deepAtO sagAtO loadAtO orderRowO oftenO lossOneO lossOtherO vz16 tz17 mz18 gz19)] ++ List.flatten [(wmTa qTa k aTa)]) := hD
  refine W.widen (k := 0) (n := 0) (Nat.le_refl 0) (Nat.le_refl 0) ?_
  have pz20 : (tz17 0).toInt = (tz6 0).toInt := pz20
  have pz21 : (tz17 1).toInt ≤ (tz6 0).toInt := pz21
  have pz22 : (tz6 1).toInt ≤ (tz17 1).toInt := pz22
  have pz23 := gz14
  have pz23 : rz15.toInt = p2.toInt ∨ (p2.toInt ≤ rz15.toInt ∧ rz15.toInt ≤ p3.toInt) := pz23
  rw [hQ]
  exact W.iret (v := rz15) hx hb hr (fun t ht hW => ⟨⟨rz15, (), rfl, (by show rz15.toInt = p2.toInt ∨ (p2.toInt ≤ rz15.toInt ∧ rz15.toInt ≤ p3.toInt); omega), vz16, tz17, mz18, gz19, htz17, hmz18, (by show (tz17 0).toInt = (tO 0).toInt; omega), (by show (tz17 1).toInt ≤ (tO 0).toInt; omega), (by show (tO 1).toInt ≤ (tz17 1).toInt; omega), by rw [ht]; exact hP⟩, hS.F ht⟩) hS.2.2 dX12_number__12
def wk_c_X12_ends : List Cond := .code yX12_ends cX12_ends 1 none :: ([.fieldLink RX12 157 "SagMemoryModel" "token" "I", .fieldLink RX12 168 "SagMemoryModel" "bad" "I", .methodLink RX12 178 yX12_next, .instanceMethod yX12_next, .selects RX12 yX12_next yX12_next, .initialized RX12, .methodLink RX12 184 yX12_fails, .instanceMethod yX12_fails, .selects RX12 yX12_fails yX12_fails] ++ (wsX120 ++ (wk_c_X12_next ++ (wk_c_X12_fails ++ []))))
theorem wkg_c_X12_ends : wk_c_X12_ends.all goodWord = true := by decide +kernel
set_option maxHeartbeats 4000000 in
set_option maxRecDepth 100000 in
theorem c_X12_ends (l : Launch) (dC : Nat → ClassId) (dI : Nat → Nat → Nat) (k : Nat → ClassId) (sz : Nat) (qO : Nat → Nat) (widthO : Nat) (manyO : Nat) (cellsO : Nat) (movedO : Nat) (linesO : Nat) (hasO : Nat) (bridgeO : Nat) (cartO : Nat) (wardO : Nat) (frostAtO : Nat) (actO : Nat) (isKeptO : Nat) (loadNowO : Nat) (byNowO : Nat) (rowO : Nat) (memoryO : Nat) (whoseO : Nat) (deepNowO : Nat) (brokenByO : Nat) (brokenAtO : Nat) (goesByO : Nat) (comesToO : Nat) (sagMoreO : Nat) (creakOfO : Nat) (wipedByO : Nat) (deepAtO : Nat) (sagAtO : Nat) (loadAtO : Nat) (orderRowO : Nat) (oftenO : Nat) (lossOneO : Nat) (lossOtherO : Nat) (vO : Nat → Int32) (tO : Nat → Int32) (mO : Nat → Int32) (gO : Nat → Int64) (qTa : Nat → Nat) (aTa : Nat → Nat → Int32) (htO : Rg 0 700 tO) (hmO : Rg (-1) 127 mO) (hp0 : (tO 1).toInt ≤ (tO 0).toInt) : Met l yX12_ends wk_c_X12_ends ({ frames := 2, cells := 0, slots := 0, locals := 44 }) (va_Pc [.ref (qO 0)] (fun U => U.heap.size = sz ∧ va_P (dC, dI) vwCl (List.flatten [(wMO qO k widthO manyO cellsO movedO (qTa 0) linesO hasO bridgeO cartO wardO frostAtO actO isKeptO loadNowO byNowO rowO memoryO whoseO deepNowO brokenByO brokenAtO goesByO comesToO sagMoreO creakOfO wipedByO deepAtO sagAtO loadAtO orderRowO oftenO lossOneO lossOtherO vO tO mO gO)] ++ List.flatten [(wmTa qTa k aTa)]) U.heap ∧ va_K (dC, dI) vwCl (tK k) U ∧ va_D (fun _ => True) (List.flatten [(wMO qO k widthO manyO cellsO movedO (qTa 0) linesO hasO bridgeO cartO wardO frostAtO actO isKeptO loadNowO byNowO rowO memoryO whoseO deepNowO brokenByO brokenAtO goesByO comesToO sagMoreO creakOfO wipedByO deepAtO sagAtO loadAtO orderRowO oftenO lossOneO lossOtherO vO tO mO gO)] ++ List.flatten [(wmTa qTa k aTa)]))) (va_Qv (fun _ : Unit => True) (fun (_ : Unit) (t : State) => ∃ (vO' : Nat → Int32) (tO' : Nat → Int32) (mO' : Nat → Int32) (gO' : Nat → Int64), Rg 0 700 tO' ∧ Rg (-1) 127 mO' ∧ ((tO' 0).toInt = (tO 0).toInt) ∧ ((tO' 1).toInt ≤ (tO 0).toInt) ∧ ((tO 1).toInt ≤ (tO' 1).toInt) ∧ ((vO' 4).toInt ≠ 0 ∨ (vO' 1).toInt = 0 ∨ (tO 1).toInt < (tO' 1).toInt) ∧ va_P (dC, dI) vwCl (List.flatten [(wMO qO k widthO manyO cellsO movedO (qTa 0) linesO hasO bridgeO cartO wardO frostAtO actO isKeptO loadNowO byNowO rowO memoryO whoseO deepNowO brokenByO brokenAtO goesByO comesToO sagMoreO creakOfO wipedByO deepAtO sagAtO loadAtO orderRowO oftenO lossOneO lossOtherO vO' tO' mO' gO')] ++ List.flatten [(wmTa qTa k aTa)]) t.heap) (va_A (List.flatten [(wMO qO k widthO manyO cellsO movedO (qTa 0) linesO hasO bridgeO cartO wardO frostAtO actO isKeptO loadNowO byNowO rowO memoryO whoseO deepNowO brokenByO brokenAtO goesByO comesToO sagMoreO creakOfO wipedByO deepAtO sagAtO loadAtO orderRowO oftenO lossOneO lossOtherO vO tO mO gO)] ++ List.flatten [(wmTa qTa k aTa)]) sz)) 0 0 (va_A (List.flatten [(wMO qO k widthO manyO cellsO movedO (qTa 0) linesO hasO bridgeO cartO wardO frostAtO actO isKeptO loadNowO byNowO rowO memoryO whoseO deepNowO brokenByO brokenAtO goesByO comesToO sagMoreO creakOfO wipedByO deepAtO sagAtO loadAtO orderRowO oftenO lossOneO lossOtherO vO tO mO gO)] ++ List.flatten [(wmTa qTa k aTa)]) sz) := by
  refine Met.ofW (cc := cX12_ends) (maxL := 1) (ret := none) (by decide) rfl ?_
  intro p e s m args below meth c s₁ B hml hv
  obtain ⟨rfl, hsz, hP, hK, hD0⟩ := hv
  have hx := B.exec
  have hb := B.bytes
  have hr := B.returns
  have hts := atoms_spec (ws := wk_c_X12_ends) B.pre
  have hown : s.vm.findClass RX12 = some m.cls := findClass_of_methodNamed B.named
  have hlocks := B.notSynchronized
  subst hsz
  have hD := hD0.self (sz := s.heap.size)
  generalize hAe : va_A (List.flatten [(wMO qO k widthO manyO cellsO movedO (qTa 0) linesO hasO bridgeO cartO wardO frostAtO actO isKeptO loadNowO byNowO rowO memoryO whoseO deepNowO brokenByO brokenAtO goesByO comesToO sagMoreO creakOfO wipedByO deepAtO sagAtO loadAtO orderRowO oftenO lossOneO lossOtherO vO tO mO gO)] ++ List.flatten [(wmTa qTa k aTa)]) s.heap.size = A at hD ⊢
  have hA : ∀ q : Nat, s.heap.size ≤ q → A q := fun q h => by rw [← hAe]; exact Or.inr h
  have hS : va_S A s.heap s.heap [] := va_S.rf
  have hP : va_P (dC, dI) vwCl (List.flatten [(wMO qO k widthO manyO cellsO movedO (qTa 0) linesO hasO bridgeO cartO wardO frostAtO actO isKeptO loadNowO byNowO rowO memoryO whoseO deepNowO brokenByO brokenAtO goesByO comesToO sagMoreO creakOfO wipedByO deepAtO sagAtO loadAtO orderRowO oftenO lossOneO lossOtherO vO tO mO gO)] ++ List.flatten [(wmTa qTa k aTa)]) s.heap := hP
  have hl := lv_entry ([.ref (qO 0)]) (n := 1) (Nat.le_of_ble_eq_true rfl)
  rw [lg_entry_eq]
  generalize (lg_sl ([.ref (qO 0)]) ++ List.replicate (1 - (lg_sl ([.ref (qO 0)])).length) Slot.unset).toArray = ls at hl ⊢
  have hl : lv_has ls 1 [(0, .ref (qO 0))] := hl
  refine w_gen (fun Q hQ => ?_)
  refine lv_aload_n hx hb dX12_ends_0 rfl (lv_at hl 0 rfl) ?_
  refine va_get (D := (dC, dI)) (ci := 12) (v := .int (vO 1)) (C := RX12) (T := TX12) (N := 59) hx hb hts (fun w h => List.mem_cons_of_mem _ (List.mem_append_right _ (List.mem_append_left _ h))) hown hK hP 0 rfl rfl 8 (by decide) (hts (.fieldLink RX12 157 "SagMemoryModel" "token" "I") (wl_mem 0 rfl)) (fun _ h9 => h9) rfl dX12_ends_1 ?_
  refine lv_iconst (v := 3) hx hb dX12_ends_4 (by decide) ?_
  refine lv_icmp_eq (tgt := 13) hx hb dX12_ends_5 (by decide) (fun cz1 => ?_) (fun cz1 => ?_)
  · skip
    have zz2 : (vO 1).toInt = (3 : Int) := zi_eq.mp cz1
    refine lv_aload_n hx hb dX12_ends_13 rfl (lv_at hl 0 rfl) ?_
    refine va_get (D := (dC, dI)) (ci := 12) (v := .int (vO 4)) (C := RX12) (T := TX12) (N := 59) hx hb hts (fun w h => List.mem_cons_of_mem _ (List.mem_append_right _ (List.mem_append_left _ h))) hown hK hP 0 rfl rfl 12 (by decide) (hts (.fieldLink RX12 168 "SagMemoryModel" "bad" "I") (wl_mem 1 rfl)) (fun _ h9 => h9) rfl dX12_ends_14 ?_
    refine lv_if_ne (tgt := 24) hx hb dX12_ends_17 (by decide) (fun cz3 => ?_) (fun cz3 => ?_)
    · skip
      have zz4 : ¬ (vO 4).toInt = (0 : Int) := fun h9 => cz3 (zi_eq.mpr h9)
      rw [hQ]
      exact W.vret hx hb hr (fun t ht hW => ⟨⟨(), rfl, trivial, vO, tO, mO, gO, htO, hmO, (by show (tO 0).toInt = (tO 0).toInt; omega), (by show (tO 1).toInt ≤ (tO 0).toInt; omega), (by show (tO 1).toInt ≤ (tO 1).toInt; omega), (by show (vO 4).toInt ≠ 0 ∨ (vO 1).toInt = 0 ∨ (tO 1).toInt < (tO 1).toInt; omega), by rw [ht]; exact hP⟩, hS.F ht⟩) hS.2.2 dX12_ends_24
    · skip
      have zz5 : (vO 4).toInt = (0 : Int) := zi_eq.mp cz3
      refine lv_aload_n hx hb dX12_ends_20 rfl (lv_at hl 0 rfl) ?_
      have bz6 := htO 1
      have bz7 := htO 0
      have hPc := hP
      have hC : [0, 1].map (fun i => (List.flatten [(wMO qO k widthO manyO cellsO movedO (qTa 0) linesO hasO bridgeO cartO wardO frostAtO actO isKeptO loadNowO byNowO rowO memoryO whoseO deepNowO brokenByO brokenAtO goesByO comesToO sagMoreO creakOfO wipedByO deepAtO sagAtO loadAtO orderRowO oftenO lossOneO lossOtherO vO tO mO gO)] ++ List.flatten [(wmTa qTa k aTa)])[i]?) = (List.flatten [(wMO qO k widthO manyO cellsO movedO (qTa 0) linesO hasO bridgeO cartO wardO frostAtO actO isKeptO loadNowO byNowO rowO memoryO whoseO deepNowO brokenByO brokenAtO goesByO comesToO sagMoreO creakOfO wipedByO deepAtO sagAtO loadAtO orderRowO oftenO lossOneO lossOtherO vO tO mO gO)] ++ List.flatten [(wmTa qTa k aTa)]).map some := rfl
      have hDc := hD.sub [0, 1] (by decide) hC
      have hFc := va_free hD hS hA [0, 1] hC
      refine va_callv (va_runV (As := []) (rest := []) ⟨hx, hb, hml, hown, hts⟩ (c_X12_next l dC dI k s.heap.size qO widthO manyO cellsO movedO linesO hasO bridgeO cartO wardO frostAtO actO isKeptO loadNowO byNowO rowO memoryO whoseO deepNowO brokenByO brokenAtO goesByO comesToO sagMoreO creakOfO wipedByO deepAtO sagAtO loadAtO orderRowO oftenO lossOneO lossOtherO vO tO mO gO qTa aTa htO hmO (by show (tO 1).toInt ≤ (tO 0).toInt; omega)) (cwV 0 hts (gk_V (wl_mem 2 rfl) (wl_mem 3 rfl) (wl_mem 4 rfl) (wl_mem 5 rfl) (fun w h => List.mem_cons_of_mem _ (List.mem_append_right _ (List.mem_append_right _ (List.mem_append_left _ h)))) wkg_c_X12_next) rfl rfl rfl (by decide +kernel) ⟨Nat.le_of_ble_eq_true rfl, Nat.le_of_ble_eq_true rfl⟩) ⟨fun a U g mk q => by obtain ⟨q0, q1, qP, qK, qD⟩ := q; exact ⟨q0, q1, qP, va_K.moved (u := U) (U := U.calling g mk a) (Vm.Alike.refl U.vm) qK, qD⟩, va_recv hK hPc (ci := 12) (q0 := 0) rfl rfl, fun U hU hW => ⟨rfl, by rw [hU], by rw [hU]; exact hPc, va_K.moved hW.alike hK, hDc.weaken (fun _ _ _ _ => trivial)⟩⟩ rfl rfl hl.1 rfl (lv_room (Nat.le_of_ble_eq_true rfl)) dX12_ends_21 ⟨Nat.le_of_ble_eq_true rfl, Nat.le_of_ble_eq_true rfl⟩) hS (fun q _ h => hFc q h) hFc (fun u t H1 locs ht hvm gz8 hB hz1 hk1 hS => ?_)
      obtain ⟨vz10, tz11, mz12, gz13, htz11, hmz12, pz14, pz15, pz16, pz17, pz18, hP1⟩ := hB
      rw [ht] at hP1
      obtain ⟨hP, hD⟩ := w_callR hP hD hk1 hP1 [0] rfl rfl (wk_memC [1] rfl) rfl [some 0] rfl rfl
      clear hPc hC hDc hFc hk1 hP1
      generalize H1 = H at hP hS ⊢
      have hP : va_P (dC, dI) vwCl (List.flatten [(wMO qO k widthO manyO cellsO movedO (qTa 0) linesO hasO bridgeO cartO wardO frostAtO actO isKeptO loadNowO byNowO rowO memoryO whoseO deepNowO brokenByO brokenAtO goesByO comesToO sagMoreO creakOfO wipedByO deepAtO sagAtO loadAtO orderRowO oftenO lossOneO lossOtherO vz10 tz11 mz12 gz13)] ++ List.flatten [(wmTa qTa k aTa)]) H := hP
      have hD : va_D A (List.flatten [(wMO qO k widthO manyO cellsO movedO (qTa 0) linesO hasO bridgeO cartO wardO frostAtO actO isKeptO loadNowO byNowO rowO memoryO whoseO deepNowO brokenByO brokenAtO goesByO comesToO sagMoreO creakOfO wipedByO deepAtO sagAtO loadAtO orderRowO oftenO lossOneO lossOtherO vz10 tz11 mz12 gz13)] ++ List.flatten [(wmTa qTa k aTa)]) := hD
      refine W.widen (k := 0) (n := 0) (Nat.le_refl 0) (Nat.le_refl 0) ?_
      have pz14 : (tz11 0).toInt = (tO 0).toInt := pz14
      have pz15 : (tz11 1).toInt ≤ (tO 0).toInt := pz15
      have pz16 : (tO 1).toInt ≤ (tz11 1).toInt := pz16
      have pz17 : (vz10 1).toInt = 0 ∨ (tO 1).toInt < (tz11 1).toInt := pz17
      have pz18 : (vz10 4).toInt = (vO 4).toInt := pz18
      rw [hQ]
      exact W.vret hx hb hr (fun t ht hW => ⟨⟨(), rfl, trivial, vz10, tz11, mz12, gz13, htz11, hmz12, (by show (tz11 0).toInt = (tO 0).toInt; omega), (by show (tz11 1).toInt ≤ (tO 0).toInt; omega), (by show (tO 1).toInt ≤ (tz11 1).toInt; omega), (by show (vz10 4).toInt ≠ 0 ∨ (vz10 1).toInt = 0 ∨ (tO 1).toInt < (tz11 1).toInt; omega), by rw [ht]; exact hP⟩, hS.F ht⟩) hS.2.2 dX12_ends_24
  · skip
    have zz19 : ¬ (vO 1).toInt = (3 : Int) := fun h9 => cz1 (zi_eq.mpr h9)
    refine lv_aload_n hx hb dX12_ends_8 rfl (lv_at hl 0 rfl) ?_
    refine lv_iconst (v := 1) hx hb dX12_ends_9 (by decide) ?_
    have hPc := hP.sub (ws' := (List.flatten [(wMO qO k widthO manyO cellsO movedO (qTa 0) linesO hasO bridgeO cartO wardO frostAtO actO isKeptO loadNowO byNowO rowO memoryO whoseO deepNowO brokenByO brokenAtO goesByO comesToO sagMoreO creakOfO wipedByO deepAtO sagAtO loadAtO orderRowO oftenO lossOneO lossOtherO vO tO mO gO)] ++ List.flatten ([] : List va_W))) [0] rfl
    have hC : [0].map (fun i => (List.flatten [(wMO qO k widthO manyO cellsO movedO (qTa 0) linesO hasO bridgeO cartO wardO frostAtO actO isKeptO loadNowO byNowO rowO memoryO whoseO deepNowO brokenByO brokenAtO goesByO comesToO sagMoreO creakOfO wipedByO deepAtO sagAtO loadAtO orderRowO oftenO lossOneO lossOtherO vO tO mO gO)] ++ List.flatten [(wmTa qTa k aTa)])[i]?) = (List.flatten [(wMO qO k widthO manyO cellsO movedO (qTa 0) linesO hasO bridgeO cartO wardO frostAtO actO isKeptO loadNowO byNowO rowO memoryO whoseO deepNowO brokenByO brokenAtO goesByO comesToO sagMoreO creakOfO wipedByO deepAtO sagAtO loadAtO orderRowO oftenO lossOneO lossOtherO vO tO mO gO)] ++ List.flatten ([] : List va_W)).map some := rfl
    have hDc := hD.sub [0] (by decide) hC
    have hFc := va_free hD hS hA [0] hC
    refine va_callv (va_runV (As := [.int 1]) (rest := []) ⟨hx, hb, hml, hown, hts⟩ (c_X12_fails l dC dI k s.heap.size qO widthO manyO cellsO movedO (qTa 0) linesO hasO bridgeO cartO wardO frostAtO actO isKeptO loadNowO byNowO rowO memoryO whoseO deepNowO brokenByO brokenAtO goesByO comesToO sagMoreO creakOfO wipedByO deepAtO sagAtO loadAtO orderRowO oftenO lossOneO lossOtherO vO tO mO gO (1 : Int32) htO hmO) (cwV 1 hts (gk_V (wl_mem 6 rfl) (wl_mem 7 rfl) (wl_mem 8 rfl) (wl_mem 5 rfl) (fun w h => List.mem_cons_of_mem _ (List.mem_append_right _ (List.mem_append_right _ (List.mem_append_right _ (List.mem_append_left _ h))))) wkg_c_X12_fails) rfl rfl rfl (by decide +kernel) ⟨Nat.le_of_ble_eq_true rfl, Nat.le_of_ble_eq_true rfl⟩) ⟨fun a U g mk q => by obtain ⟨q0, q1, qP, qK, qD⟩ := q; exact ⟨q0, q1, qP, va_K.moved (u := U) (U := U.calling g mk a) (Vm.Alike.refl U.vm) qK, qD⟩, va_recv hK hPc (ci := 12) (q0 := 0) rfl rfl, fun U hU hW => ⟨rfl, by rw [hU], by rw [hU]; exact hPc, va_K.moved hW.alike hK, hDc.weaken (fun _ _ _ _ => trivial)⟩⟩ rfl rfl hl.1 rfl (lv_room (Nat.le_of_ble_eq_true rfl)) dX12_ends_10 ⟨Nat.le_of_ble_eq_true rfl, Nat.le_of_ble_eq_true rfl⟩) hS (fun q _ h => hFc q h) hFc (fun u t H1 locs ht hvm gz20 hB hz1 hk1 hS => ?_)
    obtain ⟨vz22, tz23, mz24, gz25, htz23, hmz24, pz26, pz27, pz28, pz29, pz30, hP1⟩ := hB
    rw [ht] at hP1
    obtain ⟨hP, hD⟩ := w_callR hP hD hk1 hP1 [0] rfl rfl (fun _ h => absurd h List.not_mem_nil) rfl [some 0] rfl rfl
    clear hPc hC hDc hFc hk1 hP1
    generalize H1 = H at hP hS ⊢
    have hP : va_P (dC, dI) vwCl (List.flatten [(wMO qO k widthO manyO cellsO movedO (qTa 0) linesO hasO bridgeO cartO wardO frostAtO actO isKeptO loadNowO byNowO rowO memoryO whoseO deepNowO brokenByO brokenAtO goesByO comesToO sagMoreO creakOfO wipedByO deepAtO sagAtO loadAtO orderRowO oftenO lossOneO lossOtherO vz22 tz23 mz24 gz25)] ++ List.flatten [(wmTa qTa k aTa)]) H := hP
    have hD : va_D A (List.flatten [(wMO qO k widthO manyO cellsO movedO (qTa 0) linesO hasO bridgeO cartO wardO frostAtO actO isKeptO loadNowO byNowO rowO memoryO whoseO deepNowO brokenByO brokenAtO goesByO comesToO sagMoreO creakOfO wipedByO deepAtO sagAtO loadAtO orderRowO oftenO lossOneO lossOtherO vz22 tz23 mz24 gz25)] ++ List.flatten [(wmTa qTa k aTa)]) := hD
    refine W.widen (k := 0) (n := 0) (Nat.le_refl 0) (Nat.le_refl 0) ?_
    have pz26 : ((vO 4).toInt ≠ 0 ∧ (vz22 4).toInt = (vO 4).toInt) ∨ ((vO 4).toInt = 0 ∧ (vz22 4).toInt = (1 : Int)) := pz26
    have pz27 : (tz23 0).toInt = (tO 0).toInt := pz27
    have pz28 : (tz23 1).toInt = (tO 1).toInt := pz28
    have pz29 : (vz22 1).toInt = (vO 1).toInt := pz29
    have pz30 : (vz22 3).toInt = (vO 3).toInt := pz30
    have bz31 := htO 0
    have bz32 := htO 1
    refine lv_aload_n hx hb dX12_ends_13 rfl (lv_at hl 0 rfl) ?_
    refine va_get (D := (dC, dI)) (ci := 12) (v := .int (vz22 4)) (C := RX12) (T := TX12) (N := 59) hx hb hts (fun w h => List.mem_cons_of_mem _ (List.mem_append_right _ (List.mem_append_left _ h))) hown hK hP 0 rfl rfl 12 (by decide) (hts (.fieldLink RX12 168 "SagMemoryModel" "bad" "I") (wl_mem 1 rfl)) (fun _ h9 => h9) rfl dX12_ends_14 ?_
    refine lv_if_ne (tgt := 24) hx hb dX12_ends_17 (by decide) (fun cz33 => ?_) (fun cz33 => ?_)
    · skip
      have zz34 : ¬ (vz22 4).toInt = (0 : Int) := fun h9 => cz33 (zi_eq.mpr h9)
      rw [hQ]
      exact W.vret hx hb hr (fun t ht hW => ⟨⟨(), rfl, trivial, vz22, tz23, mz24, gz25, htz23, hmz24, (by show (tz23 0).toInt = (tO 0).toInt; omega), (by show (tz23 1).toInt ≤ (tO 0).toInt; omega), (by show (tO 1).toInt ≤ (tz23 1).toInt; omega), (by show (vz22 4).toInt ≠ 0 ∨ (vz22 1).toInt = 0 ∨ (tO 1).toInt < (tz23 1).toInt; omega), by rw [ht]; exact hP⟩, hS.F ht⟩) hS.2.2 dX12_ends_24
    · skip
      have zz35 : (vz22 4).toInt = (0 : Int) := zi_eq.mp cz33
      refine lv_aload_n hx hb dX12_ends_20 rfl (lv_at hl 0 rfl) ?_
      have bz36 := htz23 1
      have bz37 := htz23 0
      have hPc := hP
      have hC : [0, 1].map (fun i => (List.flatten [(wMO qO k widthO manyO cellsO movedO (qTa 0) linesO hasO bridgeO cartO wardO frostAtO actO isKeptO loadNowO byNowO rowO memoryO whoseO deepNowO brokenByO brokenAtO goesByO comesToO sagMoreO creakOfO wipedByO deepAtO sagAtO loadAtO orderRowO oftenO lossOneO lossOtherO vz22 tz23 mz24 gz25)] ++ List.flatten [(wmTa qTa k aTa)])[i]?) = (List.flatten [(wMO qO k widthO manyO cellsO movedO (qTa 0) linesO hasO bridgeO cartO wardO frostAtO actO isKeptO loadNowO byNowO rowO memoryO whoseO deepNowO brokenByO brokenAtO goesByO comesToO sagMoreO creakOfO wipedByO deepAtO sagAtO loadAtO orderRowO oftenO lossOneO lossOtherO vz22 tz23 mz24 gz25)] ++ List.flatten [(wmTa qTa k aTa)]).map some := rfl
      have hDc := hD.sub [0, 1] (by decide) hC
      have hFc := va_free hD hS hA [0, 1] hC
      refine va_callv (va_runV (As := []) (rest := []) ⟨hx, hb, hml, hown, hts⟩ (c_X12_next l dC dI k H.size qO widthO manyO cellsO movedO linesO hasO bridgeO cartO wardO frostAtO actO isKeptO loadNowO byNowO rowO memoryO whoseO deepNowO brokenByO brokenAtO goesByO comesToO sagMoreO creakOfO wipedByO deepAtO sagAtO loadAtO orderRowO oftenO lossOneO lossOtherO vz22 tz23 mz24 gz25 qTa aTa htz23 hmz24 (by show (tz23 1).toInt ≤ (tz23 0).toInt; omega)) (cwV 0 hts (gk_V (wl_mem 2 rfl) (wl_mem 3 rfl) (wl_mem 4 rfl) (wl_mem 5 rfl) (fun w h => List.mem_cons_of_mem _ (List.mem_append_right _ (List.mem_append_right _ (List.mem_append_left _ h)))) wkg_c_X12_next) rfl rfl rfl (by decide +kernel) ⟨Nat.le_of_ble_eq_true rfl, Nat.le_of_ble_eq_true rfl⟩) ⟨fun a U g mk q => by obtain ⟨q0, q1, qP, qK, qD⟩ := q; exact ⟨q0, q1, qP, va_K.moved (u := U) (U := U.calling g mk a) (Vm.Alike.refl U.vm) qK, qD⟩, va_recv hK hPc (ci := 12) (q0 := 0) rfl rfl, fun U hU hW => ⟨rfl, by rw [hU], by rw [hU]; exact hPc, va_K.moved hW.alike hK, hDc.weaken (fun _ _ _ _ => trivial)⟩⟩ rfl rfl hl.1 rfl (lv_room (Nat.le_of_ble_eq_true rfl)) dX12_ends_21 ⟨Nat.le_of_ble_eq_true rfl, Nat.le_of_ble_eq_true rfl⟩) hS (fun q _ h => hFc q h) hFc (fun u t H1 locs ht hvm gz38 hB hz1 hk1 hS => ?_)
      obtain ⟨vz40, tz41, mz42, gz43, htz41, hmz42, pz44, pz45, pz46, pz47, pz48, hP1⟩ := hB
      rw [ht] at hP1
      obtain ⟨hP, hD⟩ := w_callR hP hD hk1 hP1 [0] rfl rfl (wk_memC [1] rfl) rfl [some 0] rfl rfl
      clear hPc hC hDc hFc hk1 hP1
      generalize H1 = H at hP hS ⊢
      have hP : va_P (dC, dI) vwCl (List.flatten [(wMO qO k widthO manyO cellsO movedO (qTa 0) linesO hasO bridgeO cartO wardO frostAtO actO isKeptO loadNowO byNowO rowO memoryO whoseO deepNowO brokenByO brokenAtO goesByO comesToO sagMoreO creakOfO wipedByO deepAtO sagAtO loadAtO orderRowO oftenO lossOneO lossOtherO vz40 tz41 mz42 gz43)] ++ List.flatten [(wmTa qTa k aTa)]) H := hP
      have hD : va_D A (List.flatten [(wMO qO k widthO manyO cellsO movedO (qTa 0) linesO hasO bridgeO cartO wardO frostAtO actO isKeptO loadNowO byNowO rowO memoryO whoseO deepNowO brokenByO brokenAtO goesByO comesToO sagMoreO creakOfO wipedByO deepAtO sagAtO loadAtO orderRowO oftenO lossOneO lossOtherO vz40 tz41 mz42 gz43)] ++ List.flatten [(wmTa qTa k aTa)]) := hD
      refine W.widen (k := 0) (n := 0) (Nat.le_refl 0) (Nat.le_refl 0) ?_
      have pz44 : (tz41 0).toInt = (tz23 0).toInt := pz44
      have pz45 : (tz41 1).toInt ≤ (tz23 0).toInt := pz45
      have pz46 : (tz23 1).toInt ≤ (tz41 1).toInt := pz46
      have pz47 : (vz40 1).toInt = 0 ∨ (tz23 1).toInt < (tz41 1).toInt := pz47
      have pz48 : (vz40 4).toInt = (vz22 4).toInt := pz48
      rw [hQ]
      exact W.vret hx hb hr (fun t ht hW => ⟨⟨(), rfl, trivial, vz40, tz41, mz42, gz43, htz41, hmz42, (by show (tz41 0).toInt = (tO 0).toInt; omega), (by show (tz41 1).toInt ≤ (tO 0).toInt; omega), (by show (tO 1).toInt ≤ (tz41 1).toInt; omega), (by show (vz40 4).toInt ≠ 0 ∨ (vz40 1).toInt = 0 ∨ (tO 1).toInt < (tz41 1).toInt; omega), by rw [ht]; exact hP⟩, hS.F ht⟩) hS.2.2 dX12_ends_24
def wk_c_X12_begins : List Cond := .code yX12_begins cX12_begins 1 none :: ([.fieldLink RX12 168 "SagMemoryModel" "bad" "I", .fieldLink RX12 171 "SagMemoryModel" "badPlace" "I", .fieldLink RX12 140 "SagMemoryModel" "spot" "I", .methodLink RX12 178 yX12_next, .instanceMethod yX12_next, .selects RX12 yX12_next yX12_next, .initialized RX12] ++ (wsX120 ++ (wk_c_X12_next ++ [])))
theorem wkg_c_X12_begins : wk_c_X12_begins.all goodWord = true := by decide +kernel
set_option maxHeartbeats 4000000 in
set_option maxRecDepth 100000 in
theorem c_X12_begins (l : Launch) (dC : Nat → ClassId) (dI : Nat → Nat → Nat) (k : Nat → ClassId) (sz : Nat) (qO : Nat → Nat) (widthO : Nat) (manyO : Nat) (cellsO : Nat) (movedO : Nat) (linesO : Nat) (hasO : Nat) (bridgeO : Nat) (cartO : Nat) (wardO : Nat) (frostAtO : Nat) (actO : Nat) (isKeptO : Nat) (loadNowO : Nat) (byNowO : Nat) (rowO : Nat) (memoryO : Nat) (whoseO : Nat) (deepNowO : Nat) (brokenByO : Nat) (brokenAtO : Nat) (goesByO : Nat) (comesToO : Nat) (sagMoreO : Nat) (creakOfO : Nat) (wipedByO : Nat) (deepAtO : Nat) (sagAtO : Nat) (loadAtO : Nat) (orderRowO : Nat) (oftenO : Nat) (lossOneO : Nat) (lossOtherO : Nat) (vO : Nat → Int32) (tO : Nat → Int32) (mO : Nat → Int32) (gO : Nat → Int64) (qTa : Nat → Nat) (aTa : Nat → Nat → Int32) (htO : Rg 0 700 tO) (hmO : Rg (-1) 127 mO) : Met l yX12_begins wk_c_X12_begins ({ frames := 2, cells := 0, slots := 0, locals := 44 }) (va_Pc [.ref (qO 0)] (fun U => U.heap.size = sz ∧ va_P (dC, dI) vwCl (List.flatten [(wMO qO k widthO manyO cellsO movedO (qTa 0) linesO hasO bridgeO cartO wardO frostAtO actO isKeptO loadNowO byNowO rowO memoryO whoseO deepNowO brokenByO brokenAtO goesByO comesToO sagMoreO creakOfO wipedByO deepAtO sagAtO loadAtO orderRowO oftenO lossOneO lossOtherO vO tO mO gO)] ++ List.flatten [(wmTa qTa k aTa)]) U.heap ∧ va_K (dC, dI) vwCl (tK k) U ∧ va_D (fun _ => True) (List.flatten [(wMO qO k widthO manyO cellsO movedO (qTa 0) linesO hasO bridgeO cartO wardO frostAtO actO isKeptO loadNowO byNowO rowO memoryO whoseO deepNowO brokenByO brokenAtO goesByO comesToO sagMoreO creakOfO wipedByO deepAtO sagAtO loadAtO orderRowO oftenO lossOneO lossOtherO vO tO mO gO)] ++ List.flatten [(wmTa qTa k aTa)]))) (va_Qv (fun _ : Unit => True) (fun (_ : Unit) (t : State) => ∃ (vO' : Nat → Int32) (tO' : Nat → Int32) (mO' : Nat → Int32) (gO' : Nat → Int64), Rg 0 700 tO' ∧ Rg (-1) 127 mO' ∧ ((tO' 0).toInt = (tO 0).toInt) ∧ ((tO' 1).toInt ≤ (tO 0).toInt) ∧ va_P (dC, dI) vwCl (List.flatten [(wMO qO k widthO manyO cellsO movedO (qTa 0) linesO hasO bridgeO cartO wardO frostAtO actO isKeptO loadNowO byNowO rowO memoryO whoseO deepNowO brokenByO brokenAtO goesByO comesToO sagMoreO creakOfO wipedByO deepAtO sagAtO loadAtO orderRowO oftenO lossOneO lossOtherO vO' tO' mO' gO')] ++ List.flatten [(wmTa qTa k aTa)]) t.heap) (va_A (List.flatten [(wMO qO k widthO manyO cellsO movedO (qTa 0) linesO hasO bridgeO cartO wardO frostAtO actO isKeptO loadNowO byNowO rowO memoryO whoseO deepNowO brokenByO brokenAtO goesByO comesToO sagMoreO creakOfO wipedByO deepAtO sagAtO loadAtO orderRowO oftenO lossOneO lossOtherO vO tO mO gO)] ++ List.flatten [(wmTa qTa k aTa)]) sz)) 0 0 (va_A (List.flatten [(wMO qO k widthO manyO cellsO movedO (qTa 0) linesO hasO bridgeO cartO wardO frostAtO actO isKeptO loadNowO byNowO rowO memoryO whoseO deepNowO brokenByO brokenAtO goesByO comesToO sagMoreO creakOfO wipedByO deepAtO sagAtO loadAtO orderRowO oftenO lossOneO lossOtherO vO tO mO gO)] ++ List.flatten [(wmTa qTa k aTa)]) sz) := by
  refine Met.ofW (cc := cX12_begins) (maxL := 1) (ret := none) (by decide) rfl ?_
  intro p e s m args below meth c s₁ B hml hv
  obtain ⟨rfl, hsz, hP, hK, hD0⟩ := hv
  have hx := B.exec
  have hb := B.bytes
  have hr := B.returns
  have hts := atoms_spec (ws := wk_c_X12_begins) B.pre
  have hown : s.vm.findClass RX12 = some m.cls := findClass_of_methodNamed B.named
  have hlocks := B.notSynchronized
  subst hsz
  have hD := hD0.self (sz := s.heap.size)
  generalize hAe : va_A (List.flatten [(wMO qO k widthO manyO cellsO movedO (qTa 0) linesO hasO bridgeO cartO wardO frostAtO actO isKeptO loadNowO byNowO rowO memoryO whoseO deepNowO brokenByO brokenAtO goesByO comesToO sagMoreO creakOfO wipedByO deepAtO sagAtO loadAtO orderRowO oftenO lossOneO lossOtherO vO tO mO gO)] ++ List.flatten [(wmTa qTa k aTa)]) s.heap.size = A at hD ⊢
  have hA : ∀ q : Nat, s.heap.size ≤ q → A q := fun q h => by rw [← hAe]; exact Or.inr h
  have hS : va_S A s.heap s.heap [] := va_S.rf
  have hP : va_P (dC, dI) vwCl (List.flatten [(wMO qO k widthO manyO cellsO movedO (qTa 0) linesO hasO bridgeO cartO wardO frostAtO actO isKeptO loadNowO byNowO rowO memoryO whoseO deepNowO brokenByO brokenAtO goesByO comesToO sagMoreO creakOfO wipedByO deepAtO sagAtO loadAtO orderRowO oftenO lossOneO lossOtherO vO tO mO gO)] ++ List.flatten [(wmTa qTa k aTa)]) s.heap := hP
  have hl := lv_entry ([.ref (qO 0)]) (n := 1) (Nat.le_of_ble_eq_true rfl)
  rw [lg_entry_eq]
  generalize (lg_sl ([.ref (qO 0)]) ++ List.replicate (1 - (lg_sl ([.ref (qO 0)])).length) Slot.unset).toArray = ls at hl ⊢
  have hl : lv_has ls 1 [(0, .ref (qO 0))] := hl
  refine w_gen (fun Q hQ => ?_)
  refine lv_aload_n hx hb dX12_begins_0 rfl (lv_at hl 0 rfl) ?_
  refine lv_iconst (v := 0) hx hb dX12_begins_1 (by decide) ?_
  refine va_put (D := (dC, dI)) (ci := 12) (v := .int 0) (ty := .int) (C := RX12) (T := TX12) (N := 59) hx hb hts (fun w h => List.mem_cons_of_mem _ (List.mem_append_right _ (List.mem_append_left _ h))) tyX12 tyX12_ok nmX12 hown hK hP hD hS 0 rfl rfl 12 (by decide) (hts (.fieldLink RX12 168 "SagMemoryModel" "bad" "I") (wl_mem 0 rfl)) (fun _ h9 => h9) rfl (by decide +kernel) rfl rfl (Nat.le_of_ble_eq_true rfl) dX12_begins_2 (fun H locs hP hD hS => ?_)
  have hP : va_P (dC, dI) vwCl (List.flatten [(wMO qO k widthO manyO cellsO movedO (qTa 0) linesO hasO bridgeO cartO wardO frostAtO actO isKeptO loadNowO byNowO rowO memoryO whoseO deepNowO brokenByO brokenAtO goesByO comesToO sagMoreO creakOfO wipedByO deepAtO sagAtO loadAtO orderRowO oftenO lossOneO lossOtherO (va_up vO 4 (0 : Int32)) tO mO gO)] ++ List.flatten [(wmTa qTa k aTa)]) H := hP
  have hD : va_D A (List.flatten [(wMO qO k widthO manyO cellsO movedO (qTa 0) linesO hasO bridgeO cartO wardO frostAtO actO isKeptO loadNowO byNowO rowO memoryO whoseO deepNowO brokenByO brokenAtO goesByO comesToO sagMoreO creakOfO wipedByO deepAtO sagAtO loadAtO orderRowO oftenO lossOneO lossOtherO (va_up vO 4 (0 : Int32)) tO mO gO)] ++ List.flatten [(wmTa qTa k aTa)]) := hD
  refine lv_aload_n hx hb dX12_begins_5 rfl (lv_at hl 0 rfl) ?_
  refine lv_iconst (v := (-1)) hx hb dX12_begins_6 (by decide) ?_
  refine va_put (D := (dC, dI)) (ci := 12) (v := .int (-1)) (ty := .int) (C := RX12) (T := TX12) (N := 59) hx hb hts (fun w h => List.mem_cons_of_mem _ (List.mem_append_right _ (List.mem_append_left _ h))) tyX12 tyX12_ok nmX12 hown hK hP hD hS 0 rfl rfl 13 (by decide) (hts (.fieldLink RX12 171 "SagMemoryModel" "badPlace" "I") (wl_mem 1 rfl)) (fun _ h9 => h9) rfl (by decide +kernel) rfl rfl (Nat.le_of_ble_eq_true rfl) dX12_begins_7 (fun H locs hP hD hS => ?_)
  have hP : va_P (dC, dI) vwCl (List.flatten [(wMO qO k widthO manyO cellsO movedO (qTa 0) linesO hasO bridgeO cartO wardO frostAtO actO isKeptO loadNowO byNowO rowO memoryO whoseO deepNowO brokenByO brokenAtO goesByO comesToO sagMoreO creakOfO wipedByO deepAtO sagAtO loadAtO orderRowO oftenO lossOneO lossOtherO (va_up (va_up vO 4 (0 : Int32)) 5 (-1 : Int32)) tO mO gO)] ++ List.flatten [(wmTa qTa k aTa)]) H := hP
  have hD : va_D A (List.flatten [(wMO qO k widthO manyO cellsO movedO (qTa 0) linesO hasO bridgeO cartO wardO frostAtO actO isKeptO loadNowO byNowO rowO memoryO whoseO deepNowO brokenByO brokenAtO goesByO comesToO sagMoreO creakOfO wipedByO deepAtO sagAtO loadAtO orderRowO oftenO lossOneO lossOtherO (va_up (va_up vO 4 (0 : Int32)) 5 (-1 : Int32)) tO mO gO)] ++ List.flatten [(wmTa qTa k aTa)]) := hD
  refine lv_aload_n hx hb dX12_begins_10 rfl (lv_at hl 0 rfl) ?_
  refine lv_iconst (v := 0) hx hb dX12_begins_11 (by decide) ?_
  refine va_put (D := (dC, dI)) (ci := 12) (v := .int 0) (ty := .int) (C := RX12) (T := TX12) (N := 59) hx hb hts (fun w h => List.mem_cons_of_mem _ (List.mem_append_right _ (List.mem_append_left _ h))) tyX12 tyX12_ok nmX12 hown hK hP hD hS 0 rfl rfl 7 (by decide) (hts (.fieldLink RX12 140 "SagMemoryModel" "spot" "I") (wl_mem 2 rfl)) (fun _ h9 => h9) rfl (by decide +kernel) rfl rfl (Nat.le_of_ble_eq_true rfl) dX12_begins_12 (fun H locs hP hD hS => ?_)
  have hP : va_P (dC, dI) vwCl (List.flatten [(wMO qO k widthO manyO cellsO movedO (qTa 0) linesO hasO bridgeO cartO wardO frostAtO actO isKeptO loadNowO byNowO rowO memoryO whoseO deepNowO brokenByO brokenAtO goesByO comesToO sagMoreO creakOfO wipedByO deepAtO sagAtO loadAtO orderRowO oftenO lossOneO lossOtherO (va_up (va_up vO 4 (0 : Int32)) 5 (-1 : Int32)) (va_up tO 1 (0 : Int32)) mO gO)] ++ List.flatten [(wmTa qTa k aTa)]) H := hP
  have hD : va_D A (List.flatten [(wMO qO k widthO manyO cellsO movedO (qTa 0) linesO hasO bridgeO cartO wardO frostAtO actO isKeptO loadNowO byNowO rowO memoryO whoseO deepNowO brokenByO brokenAtO goesByO comesToO sagMoreO creakOfO wipedByO deepAtO sagAtO loadAtO orderRowO oftenO lossOneO lossOtherO (va_up (va_up vO 4 (0 : Int32)) 5 (-1 : Int32)) (va_up tO 1 (0 : Int32)) mO gO)] ++ List.flatten [(wmTa qTa k aTa)]) := hD
  refine lv_aload_n hx hb dX12_begins_15 rfl (lv_at hl 0 rfl) ?_
  have bz1 := htO 0
  have hPc := hP
  have hC : [0, 1].map (fun i => (List.flatten [(wMO qO k widthO manyO cellsO movedO (qTa 0) linesO hasO bridgeO cartO wardO frostAtO actO isKeptO loadNowO byNowO rowO memoryO whoseO deepNowO brokenByO brokenAtO goesByO comesToO sagMoreO creakOfO wipedByO deepAtO sagAtO loadAtO orderRowO oftenO lossOneO lossOtherO (va_up (va_up vO 4 (0 : Int32)) 5 (-1 : Int32)) (va_up tO 1 (0 : Int32)) mO gO)] ++ List.flatten [(wmTa qTa k aTa)])[i]?) = (List.flatten [(wMO qO k widthO manyO cellsO movedO (qTa 0) linesO hasO bridgeO cartO wardO frostAtO actO isKeptO loadNowO byNowO rowO memoryO whoseO deepNowO brokenByO brokenAtO goesByO comesToO sagMoreO creakOfO wipedByO deepAtO sagAtO loadAtO orderRowO oftenO lossOneO lossOtherO (va_up (va_up vO 4 (0 : Int32)) 5 (-1 : Int32)) (va_up tO 1 (0 : Int32)) mO gO)] ++ List.flatten [(wmTa qTa k aTa)]).map some := rfl
  have hDc := hD.sub [0, 1] (by decide) hC
  have hFc := va_free hD hS hA [0, 1] hC
  refine va_callv (va_runV (As := []) (rest := []) ⟨hx, hb, hml, hown, hts⟩ (c_X12_next l dC dI k H.size qO widthO manyO cellsO movedO linesO hasO bridgeO cartO wardO frostAtO actO isKeptO loadNowO byNowO rowO memoryO whoseO deepNowO brokenByO brokenAtO goesByO comesToO sagMoreO creakOfO wipedByO deepAtO sagAtO loadAtO orderRowO oftenO lossOneO lossOtherO (va_up (va_up vO 4 (0 : Int32)) 5 (-1 : Int32)) (va_up tO 1 (0 : Int32)) mO gO qTa aTa (rg_up htO (by show 0 ≤ (0 : Int) ∧ (0 : Int) ≤ 700; omega)) hmO (by show (0 : Int) ≤ (tO 0).toInt; omega)) (cwV 0 hts (gk_V (wl_mem 3 rfl) (wl_mem 4 rfl) (wl_mem 5 rfl) (wl_mem 6 rfl) (fun w h => List.mem_cons_of_mem _ (List.mem_append_right _ (List.mem_append_right _ (List.mem_append_left _ h)))) wkg_c_X12_next) rfl rfl rfl (by decide +kernel) ⟨Nat.le_of_ble_eq_true rfl, Nat.le_of_ble_eq_true rfl⟩) ⟨fun a U g mk q => by obtain ⟨q0, q1, qP, qK, qD⟩ := q; exact ⟨q0, q1, qP, va_K.moved (u := U) (U := U.calling g mk a) (Vm.Alike.refl U.vm) qK, qD⟩, va_recv hK hPc (ci := 12) (q0 := 0) rfl rfl, fun U hU hW => ⟨rfl, by rw [hU], by rw [hU]; exact hPc, va_K.moved hW.alike hK, hDc.weaken (fun _ _ _ _ => trivial)⟩⟩ rfl rfl hl.1 rfl (lv_room (Nat.le_of_ble_eq_true rfl)) dX12_begins_16 ⟨Nat.le_of_ble_eq_true rfl, Nat.le_of_ble_eq_true rfl⟩) hS (fun q _ h => hFc q h) hFc (fun u t H1 locs ht hvm gz2 hB hz1 hk1 hS => ?_)
  obtain ⟨vz4, tz5, mz6, gz7, htz5, hmz6, pz8, pz9, pz10, pz11, pz12, hP1⟩ := hB
  rw [ht] at hP1
  obtain ⟨hP, hD⟩ := w_callR hP hD hk1 hP1 [0] rfl rfl (wk_memC [1] rfl) rfl [some 0] rfl rfl
  clear hPc hC hDc hFc hk1 hP1
  generalize H1 = H at hP hS ⊢
  have hP : va_P (dC, dI) vwCl (List.flatten [(wMO qO k widthO manyO cellsO movedO (qTa 0) linesO hasO bridgeO cartO wardO frostAtO actO isKeptO loadNowO byNowO rowO memoryO whoseO deepNowO brokenByO brokenAtO goesByO comesToO sagMoreO creakOfO wipedByO deepAtO sagAtO loadAtO orderRowO oftenO lossOneO lossOtherO vz4 tz5 mz6 gz7)] ++ List.flatten [(wmTa qTa k aTa)]) H := hP
  have hD : va_D A (List.flatten [(wMO qO k widthO manyO cellsO movedO (qTa 0) linesO hasO bridgeO cartO wardO frostAtO actO isKeptO loadNowO byNowO rowO memoryO whoseO deepNowO brokenByO brokenAtO goesByO comesToO sagMoreO creakOfO wipedByO deepAtO sagAtO loadAtO orderRowO oftenO lossOneO lossOtherO vz4 tz5 mz6 gz7)] ++ List.flatten [(wmTa qTa k aTa)]) := hD
  refine W.widen (k := 0) (n := 0) (Nat.le_refl 0) (Nat.le_refl 0) ?_
  have pz8 : (tz5 0).toInt = (tO 0).toInt := pz8
  have pz9 : (tz5 1).toInt ≤ (tO 0).toInt := pz9
  have pz10 : (0 : Int) ≤ (tz5 1).toInt := pz10
  have pz11 : (vz4 1).toInt = 0 ∨ (0 : Int) < (tz5 1).toInt := pz11
  have pz12 : (vz4 4).toInt = (0 : Int) := pz12
  rw [hQ]
  exact W.vret hx hb hr (fun t ht hW => ⟨⟨(), rfl, trivial, vz4, tz5, mz6, gz7, htz5, hmz6, (by show (tz5 0).toInt = (tO 0).toInt; omega), (by show (tz5 1).toInt ≤ (tO 0).toInt; omega), by rw [ht]; exact hP⟩, hS.F ht⟩) hS.2.2 dX12_begins_19
def wk_c_X12_isOver : List Cond := .code yX12_isOver cX12_isOver 1 none :: ([.fieldLink RX12 133 "SagMemoryModel" "taped" "I", .fieldLink RX12 168 "SagMemoryModel" "bad" "I", .fieldLink RX12 195 "SagMemoryModel" "fault" "I", .fieldLink RX12 171 "SagMemoryModel" "badPlace" "I", .fieldLink RX12 27 "SagMemoryModel" "faultPlace" "I"] ++ (wsX120 ++ []))
theorem wkg_c_X12_isOver : wk_c_X12_isOver.all goodWord = true := by decide +kernel
set_option maxHeartbeats 4000000 in
set_option maxRecDepth 100000 in
theorem c_X12_isOver (l : Launch) (dC : Nat → ClassId) (dI : Nat → Nat → Nat) (k : Nat → ClassId) (sz : Nat) (qO : Nat → Nat) (widthO : Nat) (manyO : Nat) (cellsO : Nat) (movedO : Nat) (tapeO : Nat) (linesO : Nat) (hasO : Nat) (bridgeO : Nat) (cartO : Nat) (wardO : Nat) (frostAtO : Nat) (actO : Nat) (isKeptO : Nat) (loadNowO : Nat) (byNowO : Nat) (rowO : Nat) (memoryO : Nat) (whoseO : Nat) (deepNowO : Nat) (brokenByO : Nat) (brokenAtO : Nat) (goesByO : Nat) (comesToO : Nat) (sagMoreO : Nat) (creakOfO : Nat) (wipedByO : Nat) (deepAtO : Nat) (sagAtO : Nat) (loadAtO : Nat) (orderRowO : Nat) (oftenO : Nat) (lossOneO : Nat) (lossOtherO : Nat) (vO : Nat → Int32) (tO : Nat → Int32) (mO : Nat → Int32) (gO : Nat → Int64) (htO : Rg 0 700 tO) (hmO : Rg (-1) 127 mO) : Met l yX12_isOver wk_c_X12_isOver ({ frames := 0, cells := 0, slots := 0, locals := 0 }) (va_Pc [.ref (qO 0)] (fun U => U.heap.size = sz ∧ va_P (dC, dI) vwCl (List.flatten [(wMO qO k widthO manyO cellsO movedO tapeO linesO hasO bridgeO cartO wardO frostAtO actO isKeptO loadNowO byNowO rowO memoryO whoseO deepNowO brokenByO brokenAtO goesByO comesToO sagMoreO creakOfO wipedByO deepAtO sagAtO loadAtO orderRowO oftenO lossOneO lossOtherO vO tO mO gO)] ++ List.flatten ([] : List va_W)) U.heap ∧ va_K (dC, dI) vwCl (tK k) U ∧ va_D (fun _ => True) (List.flatten [(wMO qO k widthO manyO cellsO movedO tapeO linesO hasO bridgeO cartO wardO frostAtO actO isKeptO loadNowO byNowO rowO memoryO whoseO deepNowO brokenByO brokenAtO goesByO comesToO sagMoreO creakOfO wipedByO deepAtO sagAtO loadAtO orderRowO oftenO lossOneO lossOtherO vO tO mO gO)] ++ List.flatten ([] : List va_W)))) (va_Qv (fun _ : Unit => True) (fun (_ : Unit) (t : State) => ∃ (vO' : Nat → Int32) (tO' : Nat → Int32) (mO' : Nat → Int32) (gO' : Nat → Int64), Rg 0 700 tO' ∧ Rg (-1) 127 mO' ∧ va_P (dC, dI) vwCl (List.flatten [(wMO qO k widthO manyO cellsO movedO tapeO linesO hasO bridgeO cartO wardO frostAtO actO isKeptO loadNowO byNowO rowO memoryO whoseO deepNowO brokenByO brokenAtO goesByO comesToO sagMoreO creakOfO wipedByO deepAtO sagAtO loadAtO orderRowO oftenO lossOneO lossOtherO vO' tO' mO' gO')] ++ List.flatten ([] : List va_W)) t.heap) (va_A (List.flatten [(wMO qO k widthO manyO cellsO movedO tapeO linesO hasO bridgeO cartO wardO frostAtO actO isKeptO loadNowO byNowO rowO memoryO whoseO deepNowO brokenByO brokenAtO goesByO comesToO sagMoreO creakOfO wipedByO deepAtO sagAtO loadAtO orderRowO oftenO lossOneO lossOtherO vO tO mO gO)] ++ List.flatten ([] : List va_W)) sz)) 0 0 (va_A (List.flatten [(wMO qO k widthO manyO cellsO movedO tapeO linesO hasO bridgeO cartO wardO frostAtO actO isKeptO loadNowO byNowO rowO memoryO whoseO deepNowO brokenByO brokenAtO goesByO comesToO sagMoreO creakOfO wipedByO deepAtO sagAtO loadAtO orderRowO oftenO lossOneO lossOtherO vO tO mO gO)] ++ List.flatten ([] : List va_W)) sz) := by
  refine Met.ofW (cc := cX12_isOver) (maxL := 1) (ret := none) (by decide) rfl ?_
  intro p e s m args below meth c s₁ B hml hv
  obtain ⟨rfl, hsz, hP, hK, hD0⟩ := hv
  have hx := B.exec
  have hb := B.bytes
  have hr := B.returns
  have hts := atoms_spec (ws := wk_c_X12_isOver) B.pre
  have hown : s.vm.findClass RX12 = some m.cls := findClass_of_methodNamed B.named
  have hlocks := B.notSynchronized
  subst hsz
  have hD := hD0.self (sz := s.heap.size)
  generalize hAe : va_A (List.flatten [(wMO qO k widthO manyO cellsO movedO tapeO linesO hasO bridgeO cartO wardO frostAtO actO isKeptO loadNowO byNowO rowO memoryO whoseO deepNowO brokenByO brokenAtO goesByO comesToO sagMoreO creakOfO wipedByO deepAtO sagAtO loadAtO orderRowO oftenO lossOneO lossOtherO vO tO mO gO)] ++ List.flatten ([] : List va_W)) s.heap.size = A at hD ⊢
  have hA : ∀ q : Nat, s.heap.size ≤ q → A q := fun q h => by rw [← hAe]; exact Or.inr h
  have hS : va_S A s.heap s.heap [] := va_S.rf
  have hP : va_P (dC, dI) vwCl (List.flatten [(wMO qO k widthO manyO cellsO movedO tapeO linesO hasO bridgeO cartO wardO frostAtO actO isKeptO loadNowO byNowO rowO memoryO whoseO deepNowO brokenByO brokenAtO goesByO comesToO sagMoreO creakOfO wipedByO deepAtO sagAtO loadAtO orderRowO oftenO lossOneO lossOtherO vO tO mO gO)] ++ List.flatten ([] : List va_W)) s.heap := hP
  have hl := lv_entry ([.ref (qO 0)]) (n := 1) (Nat.le_of_ble_eq_true rfl)
  rw [lg_entry_eq]
  generalize (lg_sl ([.ref (qO 0)]) ++ List.replicate (1 - (lg_sl ([.ref (qO 0)])).length) Slot.unset).toArray = ls at hl ⊢
  have hl : lv_has ls 1 [(0, .ref (qO 0))] := hl
  refine w_gen (fun Q hQ => ?_)
  refine lv_aload_n hx hb dX12_isOver_0 rfl (lv_at hl 0 rfl) ?_
  refine lv_iconst (v := 0) hx hb dX12_isOver_1 (by decide) ?_
  refine va_put (D := (dC, dI)) (ci := 12) (v := .int 0) (ty := .int) (C := RX12) (T := TX12) (N := 59) hx hb hts (fun w h => List.mem_cons_of_mem _ (List.mem_append_right _ (List.mem_append_left _ h))) tyX12 tyX12_ok nmX12 hown hK hP hD hS 0 rfl rfl 6 (by decide) (hts (.fieldLink RX12 133 "SagMemoryModel" "taped" "I") (wl_mem 0 rfl)) (fun _ h9 => h9) rfl (by decide +kernel) rfl rfl (Nat.le_of_ble_eq_true rfl) dX12_isOver_2 (fun H locs hP hD hS => ?_)
  have hP : va_P (dC, dI) vwCl (List.flatten [(wMO qO k widthO manyO cellsO movedO tapeO linesO hasO bridgeO cartO wardO frostAtO actO isKeptO loadNowO byNowO rowO memoryO whoseO deepNowO brokenByO brokenAtO goesByO comesToO sagMoreO creakOfO wipedByO deepAtO sagAtO loadAtO orderRowO oftenO lossOneO lossOtherO vO (va_up tO 0 (0 : Int32)) mO gO)] ++ List.flatten ([] : List va_W)) H := hP
  have hD : va_D A (List.flatten [(wMO qO k widthO manyO cellsO movedO tapeO linesO hasO bridgeO cartO wardO frostAtO actO isKeptO loadNowO byNowO rowO memoryO whoseO deepNowO brokenByO brokenAtO goesByO comesToO sagMoreO creakOfO wipedByO deepAtO sagAtO loadAtO orderRowO oftenO lossOneO lossOtherO vO (va_up tO 0 (0 : Int32)) mO gO)] ++ List.flatten ([] : List va_W)) := hD
  refine lv_aload_n hx hb dX12_isOver_5 rfl (lv_at hl 0 rfl) ?_
  refine lv_aload_n hx hb dX12_isOver_6 rfl (lv_at hl 0 rfl) ?_
  refine va_get (D := (dC, dI)) (ci := 12) (v := .int (vO 4)) (C := RX12) (T := TX12) (N := 59) hx hb hts (fun w h => List.mem_cons_of_mem _ (List.mem_append_right _ (List.mem_append_left _ h))) hown hK hP 0 rfl rfl 12 (by decide) (hts (.fieldLink RX12 168 "SagMemoryModel" "bad" "I") (wl_mem 1 rfl)) (fun _ h9 => h9) rfl dX12_isOver_7 ?_
  refine va_put (D := (dC, dI)) (ci := 12) (v := .int (vO 4)) (ty := .int) (C := RX12) (T := TX12) (N := 59) hx hb hts (fun w h => List.mem_cons_of_mem _ (List.mem_append_right _ (List.mem_append_left _ h))) tyX12 tyX12_ok nmX12 hown hK hP hD hS 0 rfl rfl 14 (by decide) (hts (.fieldLink RX12 195 "SagMemoryModel" "fault" "I") (wl_mem 2 rfl)) (fun _ h9 => h9) rfl (by decide +kernel) rfl rfl (Nat.le_of_ble_eq_true rfl) dX12_isOver_10 (fun H locs hP hD hS => ?_)
  have hP : va_P (dC, dI) vwCl (List.flatten [(wMO qO k widthO manyO cellsO movedO tapeO linesO hasO bridgeO cartO wardO frostAtO actO isKeptO loadNowO byNowO rowO memoryO whoseO deepNowO brokenByO brokenAtO goesByO comesToO sagMoreO creakOfO wipedByO deepAtO sagAtO loadAtO orderRowO oftenO lossOneO lossOtherO (va_up vO 6 (vO 4)) (va_up tO 0 (0 : Int32)) mO gO)] ++ List.flatten ([] : List va_W)) H := hP
  have hD : va_D A (List.flatten [(wMO qO k widthO manyO cellsO movedO tapeO linesO hasO bridgeO cartO wardO frostAtO actO isKeptO loadNowO byNowO rowO memoryO whoseO deepNowO brokenByO brokenAtO goesByO comesToO sagMoreO creakOfO wipedByO deepAtO sagAtO loadAtO orderRowO oftenO lossOneO lossOtherO (va_up vO 6 (vO 4)) (va_up tO 0 (0 : Int32)) mO gO)] ++ List.flatten ([] : List va_W)) := hD
  refine lv_aload_n hx hb dX12_isOver_13 rfl (lv_at hl 0 rfl) ?_
  refine lv_aload_n hx hb dX12_isOver_14 rfl (lv_at hl 0 rfl) ?_
  refine va_get (D := (dC, dI)) (ci := 12) (v := .int (vO 4)) (C := RX12) (T := TX12) (N := 59) hx hb hts (fun w h => List.mem_cons_of_mem _ (List.mem_append_right _ (List.mem_append_left _ h))) hown hK hP 0 rfl rfl 12 (by decide) (hts (.fieldLink RX12 168 "SagMemoryModel" "bad" "I") (wl_mem 1 rfl)) (fun _ h9 => h9) rfl dX12_isOver_15 ?_
  refine lv_if_ne (tgt := 25) hx hb dX12_isOver_18 (by decide) (fun cz1 => ?_) (fun cz1 => ?_)
  · skip
    have zz2 : ¬ (vO 4).toInt = (0 : Int) := fun h9 => cz1 (zi_eq.mpr h9)
    refine lv_aload_n hx hb dX12_isOver_25 rfl (lv_at hl 0 rfl) ?_
    refine va_get (D := (dC, dI)) (ci := 12) (v := .int (vO 5)) (C := RX12) (T := TX12) (N := 59) hx hb hts (fun w h => List.mem_cons_of_mem _ (List.mem_append_right _ (List.mem_append_left _ h))) hown hK hP 0 rfl rfl 13 (by decide) (hts (.fieldLink RX12 171 "SagMemoryModel" "badPlace" "I") (wl_mem 3 rfl)) (fun _ h9 => h9) rfl dX12_isOver_26 ?_
    refine va_put (D := (dC, dI)) (ci := 12) (v := .int (vO 5)) (ty := .int) (C := RX12) (T := TX12) (N := 59) hx hb hts (fun w h => List.mem_cons_of_mem _ (List.mem_append_right _ (List.mem_append_left _ h))) tyX12 tyX12_ok nmX12 hown hK hP hD hS 0 rfl rfl 15 (by decide) (hts (.fieldLink RX12 27 "SagMemoryModel" "faultPlace" "I") (wl_mem 4 rfl)) (fun _ h9 => h9) rfl (by decide +kernel) rfl rfl (Nat.le_of_ble_eq_true rfl) dX12_isOver_29 (fun H locs hP hD hS => ?_)
    have hP : va_P (dC, dI) vwCl (List.flatten [(wMO qO k widthO manyO cellsO movedO tapeO linesO hasO bridgeO cartO wardO frostAtO actO isKeptO loadNowO byNowO rowO memoryO whoseO deepNowO brokenByO brokenAtO goesByO comesToO sagMoreO creakOfO wipedByO deepAtO sagAtO loadAtO orderRowO oftenO lossOneO lossOtherO (va_up (va_up vO 6 (vO 4)) 7 (vO 5)) (va_up tO 0 (0 : Int32)) mO gO)] ++ List.flatten ([] : List va_W)) H := hP
    have hD : va_D A (List.flatten [(wMO qO k widthO manyO cellsO movedO tapeO linesO hasO bridgeO cartO wardO frostAtO actO isKeptO loadNowO byNowO rowO memoryO whoseO deepNowO brokenByO brokenAtO goesByO comesToO sagMoreO creakOfO wipedByO deepAtO sagAtO loadAtO orderRowO oftenO lossOneO lossOtherO (va_up (va_up vO 6 (vO 4)) 7 (vO 5)) (va_up tO 0 (0 : Int32)) mO gO)] ++ List.flatten ([] : List va_W)) := hD
    rw [hQ]
    exact W.vret hx hb hr (fun t ht hW => ⟨⟨(), rfl, trivial, (va_up (va_up vO 6 (vO 4)) 7 (vO 5)), (va_up tO 0 (0 : Int32)), mO, gO, (rg_up htO (by show 0 ≤ (0 : Int) ∧ (0 : Int) ≤ 700; omega)), hmO, by rw [ht]; exact hP⟩, hS.F ht⟩) hS.2.2 dX12_isOver_32
  · skip
    have zz3 : (vO 4).toInt = (0 : Int) := zi_eq.mp cz1
    refine lv_iconst (v := (-1)) hx hb dX12_isOver_21 (by decide) ?_
    refine lv_goto (tgt := 29) hx hb dX12_isOver_22 (by decide) ?_
    refine va_put (D := (dC, dI)) (ci := 12) (v := .int (-1)) (ty := .int) (C := RX12) (T := TX12) (N := 59) hx hb hts (fun w h => List.mem_cons_of_mem _ (List.mem_append_right _ (List.mem_append_left _ h))) tyX12 tyX12_ok nmX12 hown hK hP hD hS 0 rfl rfl 15 (by decide) (hts (.fieldLink RX12 27 "SagMemoryModel" "faultPlace" "I") (wl_mem 4 rfl)) (fun _ h9 => h9) rfl (by decide +kernel) rfl rfl (Nat.le_of_ble_eq_true rfl) dX12_isOver_29 (fun H locs hP hD hS => ?_)
    have hP : va_P (dC, dI) vwCl (List.flatten [(wMO qO k widthO manyO cellsO movedO tapeO linesO hasO bridgeO cartO wardO frostAtO actO isKeptO loadNowO byNowO rowO memoryO whoseO deepNowO brokenByO brokenAtO goesByO comesToO sagMoreO creakOfO wipedByO deepAtO sagAtO loadAtO orderRowO oftenO lossOneO lossOtherO (va_up (va_up vO 6 (vO 4)) 7 (-1 : Int32)) (va_up tO 0 (0 : Int32)) mO gO)] ++ List.flatten ([] : List va_W)) H := hP
    have hD : va_D A (List.flatten [(wMO qO k widthO manyO cellsO movedO tapeO linesO hasO bridgeO cartO wardO frostAtO actO isKeptO loadNowO byNowO rowO memoryO whoseO deepNowO brokenByO brokenAtO goesByO comesToO sagMoreO creakOfO wipedByO deepAtO sagAtO loadAtO orderRowO oftenO lossOneO lossOtherO (va_up (va_up vO 6 (vO 4)) 7 (-1 : Int32)) (va_up tO 0 (0 : Int32)) mO gO)] ++ List.flatten ([] : List va_W)) := hD
    rw [hQ]
    exact W.vret hx hb hr (fun t ht hW => ⟨⟨(), rfl, trivial, (va_up (va_up vO 6 (vO 4)) 7 (-1 : Int32)), (va_up tO 0 (0 : Int32)), mO, gO, (rg_up htO (by show 0 ≤ (0 : Int) ∧ (0 : Int) ≤ 700; omega)), hmO, by rw [ht]; exact hP⟩, hS.F ht⟩) hS.2.2 dX12_isOver_32
