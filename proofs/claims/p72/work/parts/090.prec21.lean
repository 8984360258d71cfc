set_option maxHeartbeats 4000000 in
set_option maxRecDepth 100000 in
theorem c_X12_write_x (l : Launch) (dC : Nat → ClassId) (dI : Nat → Nat → Nat) (k : Nat → ClassId) (sz : Nat) (qO : Nat → Nat) (movedO : Nat) (tapeO : Nat) (linesO : Nat) (hasO : Nat) (bridgeO : Nat) (cartO : Nat) (wardO : Nat) (frostAtO : Nat) (actO : Nat) (isKeptO : Nat) (loadNowO : Nat) (byNowO : Nat) (rowO : Nat) (memoryO : Nat) (whoseO : Nat) (deepNowO : Nat) (brokenByO : Nat) (brokenAtO : Nat) (goesByO : Nat) (comesToO : Nat) (sagMoreO : Nat) (creakOfO : Nat) (wipedByO : Nat) (deepAtO : Nat) (sagAtO : Nat) (loadAtO : Nat) (orderRowO : Nat) (oftenO : Nat) (lossOneO : Nat) (lossOtherO : Nat) (vO : Nat → Int32) (tO : Nat → Int32) (mO : Nat → Int32) (gO : Nat → Int64) (qWi : Nat → Nat) (aWi : Nat → Nat → Int32) (qMy : Nat → Nat) (zMy : Nat → Nat → Int32) (qCe : Nat → Nat) (lCe : Nat → Nat → Int64) (p1 : Int32) (p2 : Int32) (p3 : Int64) (htO : Rg 0 700 tO) (hmO : Rg (-1) 127 mO) (hzMy : RgA 0 60 zMy) : Met l yX12_write wk_c_X12_write_x ({ frames := 2, cells := 0, slots := 0, locals := 45 }) (va_Pc [.ref (qO 0), .int p1, .int p2, .long p3] (fun U => U.heap.size = sz ∧ va_P (dC, dI) vwCl (List.flatten [(wMO qO k (qWi 0) (qMy 0) (qCe 0) movedO tapeO linesO hasO bridgeO cartO wardO frostAtO actO isKeptO loadNowO byNowO rowO memoryO whoseO deepNowO brokenByO brokenAtO goesByO comesToO sagMoreO creakOfO wipedByO deepAtO sagAtO loadAtO orderRowO oftenO lossOneO lossOtherO vO tO mO gO), (wmCe qCe k lCe)] ++ List.flatten [(wmWi qWi k aWi), (wmMy qMy k zMy)]) U.heap ∧ va_K (dC, dI) vwCl (tK k) U ∧ va_D (fun _ => True) (List.flatten [(wMO qO k (qWi 0) (qMy 0) (qCe 0) movedO tapeO linesO hasO bridgeO cartO wardO frostAtO actO isKeptO loadNowO byNowO rowO memoryO whoseO deepNowO brokenByO brokenAtO goesByO comesToO sagMoreO creakOfO wipedByO deepAtO sagAtO loadAtO orderRowO oftenO lossOneO lossOtherO vO tO mO gO), (wmCe qCe k lCe)] ++ List.flatten [(wmWi qWi k aWi), (wmMy qMy k zMy)]))) (va_Qi (fun (r : Int32) (_ : Unit) => ((0 ≤ p1.toInt ∧ p1.toInt ≤ 3) ∨ r.toInt = (-2)) ∧ (p1.toInt = 0 → (((((aWi 0) 0).toInt = (-1)) ∧ r.toInt = (-6)) ∨ (¬ (((aWi 0) 0).toInt = (-1)) ∧ (p2.toInt < 0 ∨ ((zMy 0) 0).toInt ≤ p2.toInt) ∧ r.toInt = (-7)) ∨ (¬ (((aWi 0) 0).toInt = (-1)) ∧ 0 ≤ p2.toInt ∧ p2.toInt < ((zMy 0) 0).toInt ∧ r.toInt = 0))) ∧ (p1.toInt = 1 → (((((aWi 0) 1).toInt = (-1)) ∧ r.toInt = (-6)) ∨ (¬ (((aWi 0) 1).toInt = (-1)) ∧ (p2.toInt < 0 ∨ ((zMy 0) 1).toInt ≤ p2.toInt) ∧ r.toInt = (-7)) ∨ (¬ (((aWi 0) 1).toInt = (-1)) ∧ 0 ≤ p2.toInt ∧ p2.toInt < ((zMy 0) 1).toInt ∧ r.toInt = 0))) ∧ (p1.toInt = 2 → (((((aWi 0) 2).toInt = (-1)) ∧ r.toInt = (-6)) ∨ (¬ (((aWi 0) 2).toInt = (-1)) ∧ (p2.toInt < 0 ∨ ((zMy 0) 2).toInt ≤ p2.toInt) ∧ r.toInt = (-7)) ∨ (¬ (((aWi 0) 2).toInt = (-1)) ∧ 0 ≤ p2.toInt ∧ p2.toInt < ((zMy 0) 2).toInt ∧ r.toInt = 0))) ∧ (p1.toInt = 3 → (((((aWi 0) 3).toInt = (-1)) ∧ r.toInt = (-6)) ∨ (¬ (((aWi 0) 3).toInt = (-1)) ∧ (p2.toInt < 0 ∨ ((zMy 0) 3).toInt ≤ p2.toInt) ∧ r.toInt = (-7)) ∨ (¬ (((aWi 0) 3).toInt = (-1)) ∧ 0 ≤ p2.toInt ∧ p2.toInt < ((zMy 0) 3).toInt ∧ r.toInt = 0)))) (fun (_ : Unit) (t : State) => ∃ (vO' : Nat → Int32) (tO' : Nat → Int32) (mO' : Nat → Int32) (gO' : Nat → Int64) (lCe' : Nat → Nat → Int64), Rg 0 700 tO' ∧ Rg (-1) 127 mO' ∧ va_P (dC, dI) vwCl (List.flatten [(wMO qO k (qWi 0) (qMy 0) (qCe 0) movedO tapeO linesO hasO bridgeO cartO wardO frostAtO actO isKeptO loadNowO byNowO rowO memoryO whoseO deepNowO brokenByO brokenAtO goesByO comesToO sagMoreO creakOfO wipedByO deepAtO sagAtO loadAtO orderRowO oftenO lossOneO lossOtherO vO' tO' mO' gO'), (wmCe qCe k lCe')] ++ List.flatten [(wmWi qWi k aWi), (wmMy qMy k zMy)]) t.heap) (va_A (List.flatten [(wMO qO k (qWi 0) (qMy 0) (qCe 0) movedO tapeO linesO hasO bridgeO cartO wardO frostAtO actO isKeptO loadNowO byNowO rowO memoryO whoseO deepNowO brokenByO brokenAtO goesByO comesToO sagMoreO creakOfO wipedByO deepAtO sagAtO loadAtO orderRowO oftenO lossOneO lossOtherO vO tO mO gO), (wmCe qCe k lCe)] ++ List.flatten [(wmWi qWi k aWi), (wmMy qMy k zMy)]) sz)) 0 0 (va_A (List.flatten [(wMO qO k (qWi 0) (qMy 0) (qCe 0) movedO tapeO linesO hasO bridgeO cartO wardO frostAtO actO isKeptO loadNowO byNowO rowO memoryO whoseO deepNowO brokenByO brokenAtO goesByO comesToO sagMoreO creakOfO wipedByO deepAtO sagAtO loadAtO orderRowO oftenO lossOneO lossOtherO vO tO mO gO), (wmCe qCe k lCe)] ++ List.flatten [(wmWi qWi k aWi), (wmMy qMy k zMy)]) sz) := by
  refine Met.ofW (cc := cX12_write) (maxL := 5) (ret := (some .int)) (by decide) rfl ?_
  intro p e s m args below meth c s₁ B hml hv
  obtain ⟨rfl, hsz, hP, hK, hD0⟩ := hv
  have hx := B.exec
  have hb := B.bytes
  have hr := B.returns
  have hts := atoms_spec (ws := wk_c_X12_write_x) B.pre
  have hown : s.vm.findClass RX12 = some m.cls := findClass_of_methodNamed B.named
  have hlocks := B.notSynchronized
  subst hsz
  have hD := hD0.self (sz := s.heap.size)
  generalize hAe : va_A (List.flatten [(wMO qO k (qWi 0) (qMy 0) (qCe 0) movedO tapeO linesO hasO bridgeO cartO wardO frostAtO actO isKeptO loadNowO byNowO rowO memoryO whoseO deepNowO brokenByO brokenAtO goesByO comesToO sagMoreO creakOfO wipedByO deepAtO sagAtO loadAtO orderRowO oftenO lossOneO lossOtherO vO tO mO gO), (wmCe qCe k lCe)] ++ List.flatten [(wmWi qWi k aWi), (wmMy qMy k zMy)]) s.heap.size = A at hD ⊢
  have hA : ∀ q : Nat, s.heap.size ≤ q → A q := fun q h => by rw [← hAe]; exact Or.inr h
  have hS : va_S A s.heap s.heap [] := va_S.rf
  have hP : va_P (dC, dI) vwCl (List.flatten [(wMO qO k (qWi 0) (qMy 0) (qCe 0) movedO tapeO linesO hasO bridgeO cartO wardO frostAtO actO isKeptO loadNowO byNowO rowO memoryO whoseO deepNowO brokenByO brokenAtO goesByO comesToO sagMoreO creakOfO wipedByO deepAtO sagAtO loadAtO orderRowO oftenO lossOneO lossOtherO vO tO mO gO), (wmCe qCe k lCe)] ++ List.flatten [(wmWi qWi k aWi), (wmMy qMy k zMy)]) s.heap := hP
  have hl := lv_entry ([.ref (qO 0), .int p1, .int p2, .long p3]) (n := 5) (Nat.le_of_ble_eq_true rfl)
  rw [lg_entry_eq]
  generalize (lg_sl ([.ref (qO 0), .int p1, .int p2, .long p3]) ++ List.replicate (5 - (lg_sl ([.ref (qO 0), .int p1, .int p2, .long p3])).length) Slot.unset).toArray = ls at hl ⊢
  have hl : lv_has ls 5 [(0, .ref (qO 0)), (1, .int p1), (2, .int p2), (3, .long p3)] := hl
  refine w_gen (fun Q hQ => ?_)
  refine lv_aload_n hx hb dX12_write_0 rfl (lv_at hl 0 rfl) ?_
  refine lv_iconst (v := 0) hx hb dX12_write_1 (by decide) ?_
  refine va_put (D := (dC, dI)) (ci := 12) (v := .int 0) (ty := .int) (C := RX12) (T := TX12) (N := 59) hx hb hts (fun w h => List.mem_cons_of_mem _ (List.mem_append_right _ (List.mem_append_left _ h))) tyX12 tyX12_ok nmX12 hown hK hP hD hS 0 rfl rfl 0 (by decide) (hts (.fieldLink RX12 116 "SagMemoryModel" "thrown" "I") (wl_mem 0 rfl)) (fun _ h9 => h9) rfl (by decide +kernel) rfl rfl (Nat.le_of_ble_eq_true rfl) dX12_write_2 (fun H locs hP hD hS => ?_)
  have hP : va_P (dC, dI) vwCl (List.flatten [(wMO qO k (qWi 0) (qMy 0) (qCe 0) movedO tapeO linesO hasO bridgeO cartO wardO frostAtO actO isKeptO loadNowO byNowO rowO memoryO whoseO deepNowO brokenByO brokenAtO goesByO comesToO sagMoreO creakOfO wipedByO deepAtO sagAtO loadAtO orderRowO oftenO lossOneO lossOtherO (va_up vO 0 (0 : Int32)) tO mO gO), (wmCe qCe k lCe)] ++ List.flatten [(wmWi qWi k aWi), (wmMy qMy k zMy)]) H := hP
  have hD : va_D A (List.flatten [(wMO qO k (qWi 0) (qMy 0) (qCe 0) movedO tapeO linesO hasO bridgeO cartO wardO frostAtO actO isKeptO loadNowO byNowO rowO memoryO whoseO deepNowO brokenByO brokenAtO goesByO comesToO sagMoreO creakOfO wipedByO deepAtO sagAtO loadAtO orderRowO oftenO lossOneO lossOtherO (va_up vO 0 (0 : Int32)) tO mO gO), (wmCe qCe k lCe)] ++ List.flatten [(wmWi qWi k aWi), (wmMy qMy k zMy)]) := hD
  refine lv_iload_n hx hb dX12_write_5 rfl (lv_at hl 1 rfl) ?_
  have hPc : va_P (dC, dI) vwCl (List.flatten ([] : List va_W)) H := fun k q h => by simp at h
  refine vp_callSi (va_Run.run (va_runS (As := [.int p1]) (rest := []) ⟨hx, hb, hml, hown, hts⟩ (c_X12_isSlot l dC dI k p1) (va_cwS 1 hts (gk_S (wl_mem 1 rfl) (wl_mem 2 rfl) (wl_mem 3 rfl) (fun w h => List.mem_cons_of_mem _ (List.mem_append_right _ (List.mem_append_right _ (List.mem_append_left _ h)))) wkg_c_X12_isSlot) rfl rfl rfl (by decide +kernel) ⟨Nat.le_of_ble_eq_true rfl, Nat.le_of_ble_eq_true rfl⟩) ⟨fun a U g mk q => by obtain ⟨q0, qP, qK⟩ := q; exact ⟨q0, qP, va_K.moved (u := U) (U := U.calling g mk a) (Vm.Alike.refl U.vm) qK⟩, fun U hU hW => ⟨rfl, by rw [hU]; exact hPc, va_K.moved hW.alike hK⟩⟩ rfl rfl hl.1 rfl (lv_room (Nat.le_of_ble_eq_true rfl)) dX12_write_6 ⟨Nat.le_of_ble_eq_true rfl, Nat.le_of_ble_eq_true rfl⟩)) (fun rz2 gz1 => ?_)
  clear hPc
  rcases gz1 with ⟨er, cz3⟩ | ⟨er, cz4, cz5⟩ | ⟨er, cz6, cz7⟩
  · obtain rfl := er.symm
    have zz8 : p1.toInt < (0 : Int) := by have h9 := zi_ltL.mp cz3; simp only [Int32.toInt_toInt64] at h9; exact h9
    refine lv_if_ne (tgt := 15) hx hb dX12_write_9 (by decide) (fun cz9 => ?_) (fun cz9 => ?_)
    · skip
      exact absurd cz9 (by decide)
    · skip
      refine lv_bipush (v := (-2)) hx hb dX12_write_12 (by decide) ?_
      rw [hQ]
      exact W.iret (v := (-2 : Int32)) hx hb hr (fun t ht hW => ⟨⟨(-2 : Int32), (), rfl, ⟨(by show (0 ≤ p1.toInt ∧ p1.toInt ≤ 3) ∨ (-2 : Int) = (-2); omega), (by show p1.toInt = 0 → (((((aWi 0) 0).toInt = (-1)) ∧ (-2 : Int) = (-6)) ∨ (¬ (((aWi 0) 0).toInt = (-1)) ∧ (p2.toInt < 0 ∨ ((zMy 0) 0).toInt ≤ p2.toInt) ∧ (-2 : Int) = (-7)) ∨ (¬ (((aWi 0) 0).toInt = (-1)) ∧ 0 ≤ p2.toInt ∧ p2.toInt < ((zMy 0) 0).toInt ∧ (-2 : Int) = 0)); omega), (by show p1.toInt = 1 → (((((aWi 0) 1).toInt = (-1)) ∧ (-2 : Int) = (-6)) ∨ (¬ (((aWi 0) 1).toInt = (-1)) ∧ (p2.toInt < 0 ∨ ((zMy 0) 1).toInt ≤ p2.toInt) ∧ (-2 : Int) = (-7)) ∨ (¬ (((aWi 0) 1).toInt = (-1)) ∧ 0 ≤ p2.toInt ∧ p2.toInt < ((zMy 0) 1).toInt ∧ (-2 : Int) = 0)); omega), (by show p1.toInt = 2 → (((((aWi 0) 2).toInt = (-1)) ∧ (-2 : Int) = (-6)) ∨ (¬ (((aWi 0) 2).toInt = (-1)) ∧ (p2.toInt < 0 ∨ ((zMy 0) 2).toInt ≤ p2.toInt) ∧ (-2 : Int) = (-7)) ∨ (¬ (((aWi 0) 2).toInt = (-1)) ∧ 0 ≤ p2.toInt ∧ p2.toInt < ((zMy 0) 2).toInt ∧ (-2 : Int) = 0)); omega), (by show p1.toInt = 3 → (((((aWi 0) 3).toInt = (-1)) ∧ (-2 : Int) = (-6)) ∨ (¬ (((aWi 0) 3).toInt = (-1)) ∧ (p2.toInt < 0 ∨ ((zMy 0) 3).toInt ≤ p2.toInt) ∧ (-2 : Int) = (-7)) ∨ (¬ (((aWi 0) 3).toInt = (-1)) ∧ 0 ≤ p2.toInt ∧ p2.toInt < ((zMy 0) 3).toInt ∧ (-2 : Int) = 0)); omega)⟩, (va_up vO 0 (0 : Int32)), tO, mO, gO, lCe, htO, hmO, by rw [ht]; exact hP⟩, hS.F ht⟩) hS.2.2 dX12_write_14
  · obtain rfl := er.symm
    have zz10 : ¬ p1.toInt < (0 : Int) := by intro h9; apply cz4; rw [zi_ltL]; simp only [Int32.toInt_toInt64]; exact h9
    have zz11 : (3 : Int) < p1.toInt := by have h9 := zi_ltL.mp cz5; simp only [Int32.toInt_toInt64] at h9; exact h9
    refine lv_if_ne (tgt := 15) hx hb dX12_write_9 (by decide) (fun cz12 => ?_) (fun cz12 => ?_)
    · skip
      exact absurd cz12 (by decide)
    · skip
      refine lv_bipush (v := (-2)) hx hb dX12_write_12 (by decide) ?_
      rw [hQ]
      exact W.iret (v := (-2 : Int32)) hx hb hr (fun t ht hW => ⟨⟨(-2 : Int32), (), rfl, ⟨(by show (0 ≤ p1.toInt ∧ p1.toInt ≤ 3) ∨ (-2 : Int) = (-2); omega), (by show p1.toInt = 0 → (((((aWi 0) 0).toInt = (-1)) ∧ (-2 : Int) = (-6)) ∨ (¬ (((aWi 0) 0).toInt = (-1)) ∧ (p2.toInt < 0 ∨ ((zMy 0) 0).toInt ≤ p2.toInt) ∧ (-2 : Int) = (-7)) ∨ (¬ (((aWi 0) 0).toInt = (-1)) ∧ 0 ≤ p2.toInt ∧ p2.toInt < ((zMy 0) 0).toInt ∧ (-2 : Int) = 0)); omega), (by show p1.toInt = 1 → (((((aWi 0) 1).toInt = (-1)) ∧ (-2 : Int) = (-6)) ∨ (¬ (((aWi 0) 1).toInt = (-1)) ∧ (p2.toInt < 0 ∨ ((zMy 0) 1).toInt ≤ p2.toInt) ∧ (-2 : Int) = (-7)) ∨ (¬ (((aWi 0) 1).toInt = (-1)) ∧ 0 ≤ p2.toInt ∧ p2.toInt < ((zMy 0) 1).toInt ∧ (-2 : Int) = 0)); omega), (by show p1.toInt = 2 → (((((aWi 0) 2).toInt = (-1)) ∧ (-2 : Int) = (-6)) ∨ (¬ (((aWi 0) 2).toInt = (-1)) ∧ (p2.toInt < 0 ∨ ((zMy 0) 2).toInt ≤ p2.toInt) ∧ (-2 : Int) = (-7)) ∨ (¬ (((aWi 0) 2).toInt = (-1)) ∧ 0 ≤ p2.toInt ∧ p2.toInt < ((zMy 0) 2).toInt ∧ (-2 : Int) = 0)); omega), (by show p1.toInt = 3 → (((((aWi 0) 3).toInt = (-1)) ∧ (-2 : Int) = (-6)) ∨ (¬ (((aWi 0) 3).toInt = (-1)) ∧ (p2.toInt < 0 ∨ ((zMy 0) 3).toInt ≤ p2.toInt) ∧ (-2 : Int) = (-7)) ∨ (¬ (((aWi 0) 3).toInt = (-1)) ∧ 0 ≤ p2.toInt ∧ p2.toInt < ((zMy 0) 3).toInt ∧ (-2 : Int) = 0)); omega)⟩, (va_up vO 0 (0 : Int32)), tO, mO, gO, lCe, htO, hmO, by rw [ht]; exact hP⟩, hS.F ht⟩) hS.2.2 dX12_write_14
  · obtain rfl := er.symm
    have zz13 : ¬ p1.toInt < (0 : Int) := by intro h9; apply cz6; rw [zi_ltL]; simp only [Int32.toInt_toInt64]; exact h9
    have zz14 : ¬ (3 : Int) < p1.toInt := by intro h9; apply cz7; rw [zi_ltL]; simp only [Int32.toInt_toInt64]; exact h9
    refine lv_if_ne (tgt := 15) hx hb dX12_write_9 (by decide) (fun cz15 => ?_) (fun cz15 => ?_)
    · skip
      refine lv_aload_n hx hb dX12_write_15 rfl (lv_at hl 0 rfl) ?_
      refine va_get (D := (dC, dI)) (ci := 12) (v := .ref (qWi 0)) (C := RX12) (T := TX12) (N := 59) hx hb hts (fun w h => List.mem_cons_of_mem _ (List.mem_append_right _ (List.mem_append_left _ h))) hown hK hP 0 rfl rfl 1 (by decide) (hts (.fieldLink RX12 7 "SagMemoryModel" "width" "[I") (wl_mem 4 rfl)) (fun _ h9 => h9) rfl dX12_write_16 ?_
      refine lv_iload_n hx hb dX12_write_19 rfl (lv_at hl 1 rfl) ?_
      refine va_iald hx hb hK hP 2 0 rfl rfl (vp_in_iff.mpr ⟨by omega, by omega⟩) dX12_write_20 ?_
      refine lv_topi (fun xz16 exz16 => ?_)
      have kxz16_0 : p1.toInt = 0 → xz16.toInt = ((aWi 0) 0).toInt := by rw [exz16]; exact rd_at 0 (by show 0 ≤ p1.toInt; omega)
      have kxz16_1 : p1.toInt = 1 → xz16.toInt = ((aWi 0) 1).toInt := by rw [exz16]; exact rd_at 1 (by show 0 ≤ p1.toInt; omega)
      have kxz16_2 : p1.toInt = 2 → xz16.toInt = ((aWi 0) 2).toInt := by rw [exz16]; exact rd_at 2 (by show 0 ≤ p1.toInt; omega)
      have kxz16_3 : p1.toInt = 3 → xz16.toInt = ((aWi 0) 3).toInt := by rw [exz16]; exact rd_at 3 (by show 0 ≤ p1.toInt; omega)
      refine lv_iconst (v := (-1)) hx hb dX12_write_21 (by decide) ?_
      refine lv_icmp_ne (tgt := 28) hx hb dX12_write_22 (by decide) (fun cz17 => ?_) (fun cz17 => ?_)
      · skip
        have zz18 : ¬ xz16.toInt = (-1 : Int) := fun h9 => cz17 (zi_eq.mpr h9)
        refine lv_iload_n hx hb dX12_write_28 rfl (lv_at hl 2 rfl) ?_
        refine lv_i2l hx hb dX12_write_29 rfl ?_
        refine lv_lconst (v := 0) hx hb dX12_write_30 (by decide) ?_
        refine lv_aload_n hx hb dX12_write_31 rfl (lv_at hl 0 rfl) ?_
        refine va_get (D := (dC, dI)) (ci := 12) (v := .ref (qMy 0)) (C := RX12) (T := TX12) (N := 59) hx hb hts (fun w h => List.mem_cons_of_mem _ (List.mem_append_right _ (List.mem_append_left _ h))) hown hK hP 0 rfl rfl 2 (by decide) (hts (.fieldLink RX12 13 "SagMemoryModel" "many" "[I") (wl_mem 5 rfl)) (fun _ h9 => h9) rfl dX12_write_32 ?_
        refine lv_iload_n hx hb dX12_write_35 rfl (lv_at hl 1 rfl) ?_
        refine va_iald hx hb hK hP 3 0 rfl rfl (vp_in_iff.mpr ⟨by omega, by omega⟩) dX12_write_36 ?_
        refine lv_topi (fun xz19 exz19 => ?_)
        have kxz19_0 : p1.toInt = 0 → xz19.toInt = ((zMy 0) 0).toInt := by rw [exz19]; exact rd_at 0 (by show 0 ≤ p1.toInt; omega)
        have kxz19_1 : p1.toInt = 1 → xz19.toInt = ((zMy 0) 1).toInt := by rw [exz19]; exact rd_at 1 (by show 0 ≤ p1.toInt; omega)
        have kxz19_2 : p1.toInt = 2 → xz19.toInt = ((zMy 0) 2).toInt := by rw [exz19]; exact rd_at 2 (by show 0 ≤ p1.toInt; omega)
        have kxz19_3 : p1.toInt = 3 → xz19.toInt = ((zMy 0) 3).toInt := by rw [exz19]; exact rd_at 3 (by show 0 ≤ p1.toInt; omega)
        have gxz19 : xz19.toInt = ((zMy 0) p1.toNatClampNeg).toInt := congrArg Int32.toInt exz19
        have bxz19 : 0 ≤ xz19.toInt ∧ xz19.toInt ≤ 60 := by rw [exz19]; exact (hzMy 0) _
        refine lv_iconst (v := 1) hx hb dX12_write_37 (by decide) ?_
        refine lv_isub hx hb dX12_write_38 ?_
        refine lv_topi (fun xz20 exz20 => ?_)
        have fxz20 : xz20.toInt = xz19.toInt - (1 : Int) := by rw [exz20]; exact fb_subI (x := xz19) (y := (1 : Int32)) (by show -2147483648 ≤ xz19.toInt - (1 : Int); omega) (by show xz19.toInt - (1 : Int) < 2147483648; omega)
        refine lv_i2l hx hb dX12_write_39 rfl ?_
        have hPc : va_P (dC, dI) vwCl (List.flatten ([] : List va_W)) H := fun k q h => by simp at h
        refine vp_callSi (va_Run.run (va_runS (As := [.long p2.toInt64, .long 0, .long xz20.toInt64]) (rest := []) ⟨hx, hb, hml, hown, hts⟩ (c_X12_in l dC dI k p2.toInt64 (0 : Int64) xz20.toInt64) (va_cwS 3 hts (gk_S (wl_mem 6 rfl) (wl_mem 7 rfl) (wl_mem 3 rfl) (fun w h => List.mem_cons_of_mem _ (List.mem_append_right _ (List.mem_append_right _ (List.mem_append_right _ (List.mem_append_left _ h))))) wkg_c_X12_in) rfl rfl rfl (by decide +kernel) ⟨Nat.le_of_ble_eq_true rfl, Nat.le_of_ble_eq_true rfl⟩) ⟨fun a U g mk q => by obtain ⟨q0, qP, qK⟩ := q; exact ⟨q0, qP, va_K.moved (u := U) (U := U.calling g mk a) (Vm.Alike.refl U.vm) qK⟩, fun U hU hW => ⟨rfl, by rw [hU]; exact hPc, va_K.moved hW.alike hK⟩⟩ rfl rfl hl.1 rfl (lv_room (Nat.le_of_ble_eq_true rfl)) dX12_write_40 ⟨Nat.le_of_ble_eq_true rfl, Nat.le_of_ble_eq_true rfl⟩)) (fun rz22 gz21 => ?_)
        clear hPc
        rcases gz21 with ⟨er, cz23⟩ | ⟨er, cz24, cz25⟩ | ⟨er, cz26, cz27⟩
        · obtain rfl := er.symm
          have zz28 : p2.toInt < (0 : Int) := by have h9 := zi_ltL.mp cz23; simp only [Int32.toInt_toInt64] at h9; exact h9
          refine lv_if_ne (tgt := 49) hx hb dX12_write_43 (by decide) (fun cz29 => ?_) (fun cz29 => ?_)
          · skip
            exact absurd cz29 (by decide)
          · skip
            refine lv_bipush (v := (-7)) hx hb dX12_write_46 (by decide) ?_
            rw [hQ]
            exact W.iret (v := (-7 : Int32)) hx hb hr (fun t ht hW => ⟨⟨(-7 : Int32), (), rfl, ⟨(by show (0 ≤ p1.toInt ∧ p1.toInt ≤ 3) ∨ (-7 : Int) = (-2); omega), (by show p1.toInt = 0 → (((((aWi 0) 0).toInt = (-1)) ∧ (-7 : Int) = (-6)) ∨ (¬ (((aWi 0) 0).toInt = (-1)) ∧ (p2.toInt < 0 ∨ ((zMy 0) 0).toInt ≤ p2.toInt) ∧ (-7 : Int) = (-7)) ∨ (¬ (((aWi 0) 0).toInt = (-1)) ∧ 0 ≤ p2.toInt ∧ p2.toInt < ((zMy 0) 0).toInt ∧ (-7 : Int) = 0)); omega), (by show p1.toInt = 1 → (((((aWi 0) 1).toInt = (-1)) ∧ (-7 : Int) = (-6)) ∨ (¬ (((aWi 0) 1).toInt = (-1)) ∧ (p2.toInt < 0 ∨ ((zMy 0) 1).toInt ≤ p2.toInt) ∧ (-7 : Int) = (-7)) ∨ (¬ (((aWi 0) 1).toInt = (-1)) ∧ 0 ≤ p2.toInt ∧ p2.toInt < ((zMy 0) 1).toInt ∧ (-7 : Int) = 0)); omega), (by show p1.toInt = 2 → (((((aWi 0) 2).toInt = (-1)) ∧ (-7 : Int) = (-6)) ∨ (¬ (((aWi 0) 2).toInt = (-1)) ∧ (p2.toInt < 0 ∨ ((zMy 0) 2).toInt ≤ p2.toInt) ∧ (-7 : Int) = (-7)) ∨ (¬ (((aWi 0) 2).toInt = (-1)) ∧ 0 ≤ p2.toInt ∧ p2.toInt < ((zMy 0) 2).toInt ∧ (-7 : Int) = 0)); omega), (by show p1.toInt = 3 → (((((aWi 0) 3).toInt = (-1)) ∧ (-7 : Int) = (-6)) ∨ (¬ (((aWi 0) 3).toInt = (-1)) ∧ (p2.toInt < 0 ∨ ((zMy 0) 3).toInt ≤ p2.toInt) ∧ (-7 : Int) = (-7)) ∨ (¬ (((aWi 0) 3).toInt = (-1)) ∧ 0 ≤ p2.toInt ∧ p2.toInt < ((zMy 0) 3).toInt ∧ (-7 : Int) = 0)); omega)⟩, (va_up vO 0 (0 : Int32)), tO, mO, gO, lCe, htO, hmO, by rw [ht]; exact hP⟩, hS.F ht⟩) hS.2.2 dX12_write_48
        · obtain rfl := er.symm
          have zz30 : ¬ p2.toInt < (0 : Int) := by intro h9; apply cz24; rw [zi_ltL]; simp only [Int32.toInt_toInt64]; exact h9
          have zz31 : xz20.toInt < p2.toInt := by have h9 := zi_ltL.mp cz25; simp only [Int32.toInt_toInt64] at h9; exact h9
          refine lv_if_ne (tgt := 49) hx hb dX12_write_43 (by decide) (fun cz32 => ?_) (fun cz32 => ?_)
          · skip
            exact absurd cz32 (by decide)
          · skip
            refine lv_bipush (v := (-7)) hx hb dX12_write_46 (by decide) ?_
            rw [hQ]
            exact W.iret (v := (-7 : Int32)) hx hb hr (fun t ht hW => ⟨⟨(-7 : Int32), (), rfl, ⟨(by show (0 ≤ p1.toInt ∧ p1.toInt ≤ 3) ∨ (-7 : Int) = (-2); omega), (by show p1.toInt = 0 → (((((aWi 0) 0).toInt = (-1)) ∧ (-7 : Int) = (-6)) ∨ (¬ (((aWi 0) 0).toInt = (-1)) ∧ (p2.toInt < 0 ∨ ((zMy 0) 0).toInt ≤ p2.toInt) ∧ (-7 : Int) = (-7)) ∨ (¬ (((aWi 0) 0).toInt = (-1)) ∧ 0 ≤ p2.toInt ∧ p2.toInt < ((zMy 0) 0).toInt ∧ (-7 : Int) = 0)); omega), (by show p1.toInt = 1 → (((((aWi 0) 1).toInt = (-1)) ∧ (-7 : Int) = (-6)) ∨ (¬ (((aWi 0) 1).toInt = (-1)) ∧ (p2.toInt < 0 ∨ ((zMy 0) 1).toInt ≤ p2.toInt) ∧ (-7 : Int) = (-7)) ∨ (¬ (((aWi 0) 1).toInt = (-1)) ∧ 0 ≤ p2.toInt ∧ p2.toInt < ((zMy 0) 1).toInt ∧ (-7 : Int) = 0)); omega), (by show p1.toInt = 2 → (((((aWi 0) 2).toInt = (-1)) ∧ (-7 : Int) = (-6)) ∨ (¬ (((aWi 0) 2).toInt = (-1)) ∧ (p2.toInt < 0 ∨ ((zMy 0) 2).toInt ≤ p2.toInt) ∧ (-7 : Int) = (-7)) ∨ (¬ (((aWi 0) 2).toInt = (-1)) ∧ 0 ≤ p2.toInt ∧ p2.toInt < ((zMy 0) 2).toInt ∧ (-7 : Int) = 0)); omega), (by show p1.toInt = 3 → (((((aWi 0) 3).toInt = (-1)) ∧ (-7 : Int) = (-6)) ∨ (¬ (((aWi 0) 3).toInt = (-1)) ∧ (p2.toInt < 0 ∨ ((zMy 0) 3).toInt ≤ p2.toInt) ∧ (-7 : Int) = (-7)) ∨ (¬ (((aWi 0) 3).toInt = (-1)) ∧ 0 ≤ p2.toInt ∧ p2.toInt < ((zMy 0) 3).toInt ∧ (-7 : Int) = 0)); omega)⟩, (va_up vO 0 (0 : Int32)), tO, mO, gO, lCe, htO, hmO, by rw [ht]; exact hP⟩, hS.F ht⟩) hS.2.2 dX12_write_48
        · obtain rfl := er.symm
          have zz33 : ¬ p2.toInt < (0 : Int) := by intro h9; apply cz26; rw [zi_ltL]; simp only [Int32.toInt_toInt64]; exact h9
          have zz34 : ¬ xz20.toInt < p2.toInt := by intro h9; apply cz27; rw [zi_ltL]; simp only [Int32.toInt_toInt64]; exact h9
          refine lv_if_ne (tgt := 49) hx hb dX12_write_43 (by decide) (fun cz35 => ?_) (fun cz35 => ?_)
          · skip
            refine lv_aload_n hx hb dX12_write_49 rfl (lv_at hl 0 rfl) ?_
            refine va_get (D := (dC, dI)) (ci := 12) (v := .ref (qCe 0)) (C := RX12) (T := TX12) (N := 59) hx hb hts (fun w h => List.mem_cons_of_mem _ (List.mem_append_right _ (List.mem_append_left _ h))) hown hK hP 0 rfl rfl 3 (by decide) (hts (.fieldLink RX12 16 "SagMemoryModel" "cells" "[J") (wl_mem 8 rfl)) (fun _ h9 => h9) rfl dX12_write_50 ?_
            refine lv_bipush (v := 60) hx hb dX12_write_53 (by decide) ?_
            refine lv_iload_n hx hb dX12_write_55 rfl (lv_at hl 1 rfl) ?_
            refine lv_imul hx hb dX12_write_56 ?_
            refine lv_topi (fun xz36 exz36 => ?_)
            have fxz36 : xz36.toInt = (60 : Int) * p1.toInt := by rw [exz36]; exact fb_mulI (x := (60 : Int32)) (y := p1) (by show -2147483648 ≤ (60 : Int) * p1.toInt; omega) (by show (60 : Int) * p1.toInt < 2147483648; omega)
            refine lv_iload_n hx hb dX12_write_57 rfl (lv_at hl 2 rfl) ?_
            refine lv_iadd hx hb dX12_write_58 ?_
            refine lv_topi (fun xz37 exz37 => ?_)
            have fxz37 : xz37.toInt = xz36.toInt + p2.toInt := by rw [exz37]; exact fb_addI (x := xz36) (y := p2) (by show -2147483648 ≤ xz36.toInt + p2.toInt; omega) (by show xz36.toInt + p2.toInt < 2147483648; omega)
            refine lv_lload_n hx hb dX12_write_59 rfl (lv_at hl 3 rfl) ?_
            refine lv_aload_n hx hb dX12_write_60 rfl (lv_at hl 0 rfl) ?_
            refine va_get (D := (dC, dI)) (ci := 12) (v := .ref (qWi 0)) (C := RX12) (T := TX12) (N := 59) hx hb hts (fun w h => List.mem_cons_of_mem _ (List.mem_append_right _ (List.mem_append_left _ h))) hown hK hP 0 rfl rfl 1 (by decide) (hts (.fieldLink RX12 7 "SagMemoryModel" "width" "[I") (wl_mem 4 rfl)) (fun _ h9 => h9) rfl dX12_write_61 ?_
            refine lv_iload_n hx hb dX12_write_64 rfl (lv_at hl 1 rfl) ?_
            refine va_iald hx hb hK hP 2 0 rfl rfl (vp_in_iff.mpr ⟨by omega, by omega⟩) dX12_write_65 ?_
            refine lv_topi (fun xz38 exz38 => ?_)
            obtain rfl : xz16 = xz38 := (exz38.trans exz16.symm).symm
            have hPc : va_P (dC, dI) vwCl (List.flatten ([] : List va_W)) H := fun k q h => by simp at h
            refine vp_callSl (va_Run.run (va_runS (As := [.long p3, .int xz16]) (rest := [.int xz37, .ref (qCe 0)]) ⟨hx, hb, hml, hown, hts⟩ (c_X12_cut l dC dI k p3 xz16) (va_cwS 2 hts (gk_S (wl_mem 9 rfl) (wl_mem 10 rfl) (wl_mem 3 rfl) (fun w h => List.mem_cons_of_mem _ (List.mem_append_right _ (List.mem_append_right _ (List.mem_append_right _ (List.mem_append_right _ (List.mem_append_left _ h)))))) wkg_c_X12_cut) rfl rfl rfl (by decide +kernel) ⟨Nat.le_of_ble_eq_true rfl, Nat.le_of_ble_eq_true rfl⟩) ⟨fun a U g mk q => by obtain ⟨q0, qP, qK⟩ := q; exact ⟨q0, qP, va_K.moved (u := U) (U := U.calling g mk a) (Vm.Alike.refl U.vm) qK⟩, fun U hU hW => ⟨rfl, by rw [hU]; exact hPc, va_K.moved hW.alike hK⟩⟩ rfl rfl hl.1 rfl (lv_room (Nat.le_of_ble_eq_true rfl)) dX12_write_66 ⟨Nat.le_of_ble_eq_true rfl, Nat.le_of_ble_eq_true rfl⟩)) (fun rz40 gz39 => ?_)
            clear hPc
            refine va_last hx hb hK hP hD hS 1 1 rfl rfl (vp_in_iff.mpr ⟨by omega, by omega⟩) dX12_write_69 (fun H locs hP hD hS => ?_)
            obtain ⟨fz41, efz41, hP, hD⟩ : ∃ fz41 : Nat → Int64, fz41 = vp_updL (lCe 0) xz37.toNatClampNeg rz40 ∧ va_P (dC, dI) vwCl (List.flatten [(wMO qO k (qWi 0) (qMy 0) (qCe 0) movedO tapeO linesO hasO bridgeO cartO wardO frostAtO actO isKeptO loadNowO byNowO rowO memoryO whoseO deepNowO brokenByO brokenAtO goesByO comesToO sagMoreO creakOfO wipedByO deepAtO sagAtO loadAtO orderRowO oftenO lossOneO lossOtherO (va_up vO 0 (0 : Int32)) tO mO gO), (wmCe qCe k (va_up lCe 0 fz41))] ++ List.flatten [(wmWi qWi k aWi), (wmMy qMy k zMy)]) H ∧ va_D A (List.flatten [(wMO qO k (qWi 0) (qMy 0) (qCe 0) movedO tapeO linesO hasO bridgeO cartO wardO frostAtO actO isKeptO loadNowO byNowO rowO memoryO whoseO deepNowO brokenByO brokenAtO goesByO comesToO sagMoreO creakOfO wipedByO deepAtO sagAtO loadAtO orderRowO oftenO lossOneO lossOtherO (va_up vO 0 (0 : Int32)) tO mO gO), (wmCe qCe k (va_up lCe 0 fz41))] ++ List.flatten [(wmWi qWi k aWi), (wmMy qMy k zMy)]) := ⟨_, rfl, hP, hD⟩
            have kfz41 : fz41 xz37.toNatClampNeg = rz40 := by rw [efz41]; exact pk_uLs
            refine lv_iconst (v := 0) hx hb dX12_write_70 (by decide) ?_
            rw [hQ]
            exact W.iret (v := (0 : Int32)) hx hb hr (fun t ht hW => ⟨⟨(0 : Int32), (), rfl, ⟨(by show (0 ≤ p1.toInt ∧ p1.toInt ≤ 3) ∨ (0 : Int) = (-2); omega), (by show p1.toInt = 0 → (((((aWi 0) 0).toInt = (-1)) ∧ (0 : Int) = (-6)) ∨ (¬ (((aWi 0) 0).toInt = (-1)) ∧ (p2.toInt < 0 ∨ ((zMy 0) 0).toInt ≤ p2.toInt) ∧ (0 : Int) = (-7)) ∨ (¬ (((aWi 0) 0).toInt = (-1)) ∧ 0 ≤ p2.toInt ∧ p2.toInt < ((zMy 0) 0).toInt ∧ (0 : Int) = 0)); omega), (by show p1.toInt = 1 → (((((aWi 0) 1).toInt = (-1)) ∧ (0 : Int) = (-6)) ∨ (¬ (((aWi 0) 1).toInt = (-1)) ∧ (p2.toInt < 0 ∨ ((zMy 0) 1).toInt ≤ p2.toInt) ∧ (0 : Int) = (-7)) ∨ (¬ (((aWi 0) 1).toInt = (-1)) ∧ 0 ≤ p2.toInt ∧ p2.toInt < ((zMy 0) 1).toInt ∧ (0 : Int) = 0)); omega), (by show p1.toInt = 2 → (((((aWi 0) 2).toInt = (-1)) ∧ (0 : Int) = (-6)) ∨ (¬ (((aWi 0) 2).toInt = (-1)) ∧ (p2.toInt < 0 ∨ ((zMy 0) 2).toInt ≤ p2.toInt) ∧ (0 : Int) = (-7)) ∨ (¬ (((aWi 0) 2).toInt = (-1)) ∧ 0 ≤ p2.toInt ∧ p2.toInt < ((zMy 0) 2).toInt ∧ (0 : Int) = 0)); omega), (by show p1.toInt = 3 → (((((aWi 0) 3).toInt = (-1)) ∧ (0 : Int) = (-6)) ∨ (¬ (((aWi 0) 3).toInt = (-1)) ∧ (p2.toInt < 0 ∨ ((zMy 0) 3).toInt ≤ p2.toInt) ∧ (0 : Int) = (-7)) ∨ (¬ (((aWi 0) 3).toInt = (-1)) ∧ 0 ≤ p2.toInt ∧ p2.toInt < ((zMy 0) 3).toInt ∧ (0 : Int) = 0)); omega)⟩, (va_up vO 0 (0 : Int32)), tO, mO, gO, (va_up lCe 0 fz41), htO, hmO, by rw [ht]; exact hP⟩, hS.F ht⟩) hS.2.2 dX12_write_71
          · skip
            exact absurd cz35 (by decide)
      · skip
        have zz42 : xz16.toInt = (-1 : Int) := zi_eq.mp cz17
        refine lv_bipush (v := (-6)) hx hb dX12_write_25 (by decide) ?_
        rw [hQ]
        exact W.iret (v := (-6 : Int32)) hx hb hr (fun t ht hW => ⟨⟨(-6 : Int32), (), rfl, ⟨(by show (0 ≤ p1.toInt ∧ p1.toInt ≤ 3) ∨ (-6 : Int) = (-2); omega), (by show p1.toInt = 0 → (((((aWi 0) 0).toInt = (-1)) ∧ (-6 : Int) = (-6)) ∨ (¬ (((aWi 0) 0).toInt = (-1)) ∧ (p2.toInt < 0 ∨ ((zMy 0) 0).toInt ≤ p2.toInt) ∧ (-6 : Int) = (-7)) ∨ (¬ (((aWi 0) 0).toInt = (-1)) ∧ 0 ≤ p2.toInt ∧ p2.toInt < ((zMy 0) 0).toInt ∧ (-6 : Int) = 0)); omega), (by show p1.toInt = 1 → (((((aWi 0) 1).toInt = (-1)) ∧ (-6 : Int) = (-6)) ∨ (¬ (((aWi 0) 1).toInt = (-1)) ∧ (p2.toInt < 0 ∨ ((zMy 0) 1).toInt ≤ p2.toInt) ∧ (-6 : Int) = (-7)) ∨ (¬ (((aWi 0) 1).toInt = (-1)) ∧ 0 ≤ p2.toInt ∧ p2.toInt < ((zMy 0) 1).toInt ∧ (-6 : Int) = 0)); omega), (by show p1.toInt = 2 → (((((aWi 0) 2).toInt = (-1)) ∧ (-6 : Int) = (-6)) ∨ (¬ (((aWi 0) 2).toInt = (-1)) ∧ (p2.toInt < 0 ∨ ((zMy 0) 2).toInt ≤ p2.toInt) ∧ (-6 : Int) = (-7)) ∨ (¬ (((aWi 0) 2).toInt = (-1)) ∧ 0 ≤ p2.toInt ∧ p2.toInt < ((zMy 0) 2).toInt ∧ (-6 : Int) = 0)); omega), (by show p1.toInt = 3 → (((((aWi 0) 3).toInt = (-1)) ∧ (-6 : Int) = (-6)) ∨ (¬ (((aWi 0) 3).toInt = (-1)) ∧ (p2.toInt < 0 ∨ ((zMy 0) 3).toInt ≤ p2.toInt) ∧ (-6 : Int) = (-7)) ∨ (¬ (((aWi 0) 3).toInt = (-1)) ∧ 0 ≤ p2.toInt ∧ p2.toInt < ((zMy 0) 3).toInt ∧ (-6 : Int) = 0)); omega)⟩, (va_up vO 0 (0 : Int32)), tO, mO, gO, lCe, htO, hmO, by rw [ht]; exact hP⟩, hS.F ht⟩) hS.2.2 dX12_write_27
    · skip
      exact absurd cz15 (by decide)
def wk_c_X6_spans_x : List Cond := .code yX6_spans cX6_spans 3 (some .boolean) :: ([.fieldLink RX6 23 "SagMemory$Slot" "length" "I"] ++ (wsX60 ++ []))
theorem wkg_c_X6_spans_x : wk_c_X6_spans_x.all goodWord = true := by decide +kernel
set_option maxHeartbeats 4000000 in
set_option maxRecDepth 100000 in
theorem c_X6_spans_x (l : Launch) (dC : Nat → ClassId) (dI : Nat → Nat → Nat) (k : Nat → ClassId) (qL : Nat → Nat) (vL : Nat → Int32) (sL : Nat → Int32) (lL : Nat → Nat → Int64) (p1 : Int32) (p2 : Int32) (hsL : Rg 0 60 sL) : Met l yX6_spans wk_c_X6_spans_x ({ frames := 0, cells := 0, slots := 0, locals := 0 }) (va_Pc [.ref (qL 0), .int p1, .int p2] (fun U => va_P (dC, dI) vwCl (List.flatten [(wSlot qL k vL sL lL)]) U.heap ∧ va_K (dC, dI) vwCl (tK k) U)) (vp_Si (fun r : Int32 => ((r.toInt = 0 ∧ (p1.toInt < 0 ∨ p2.toInt < 0 ∨ (sL 0).toInt < p1.toInt + p2.toInt)) ∨ (r.toInt = 1 ∧ 0 ≤ p1.toInt ∧ 0 ≤ p2.toInt ∧ p1.toInt + p2.toInt ≤ (sL 0).toInt)) ∧ (r.toInt = 0 ∨ r.toInt = 1))) 0 0 (fun _ => False) := by
  refine Met.ofW (cc := cX6_spans) (maxL := 3) (ret := (some .boolean)) (by decide) rfl ?_
  intro p e s m args below meth c s₁ B hml hv
  obtain ⟨rfl, hP, hK⟩ := hv
  have hx := B.exec
  have hb := B.bytes
  have hr := B.returns
  have hts := atoms_spec (ws := wk_c_X6_spans_x) B.pre
  have hown : s.vm.findClass RX6 = some m.cls := findClass_of_methodNamed B.named
  have hlocks := B.notSynchronized
  have hP : va_P (dC, dI) vwCl (List.flatten [(wSlot qL k vL sL lL)]) s.heap := hP
  have hl := lv_entry ([.ref (qL 0), .int p1, .int p2]) (n := 3) (Nat.le_of_ble_eq_true rfl)
  rw [lg_entry_eq]
  generalize (lg_sl ([.ref (qL 0), .int p1, .int p2]) ++ List.replicate (3 - (lg_sl ([.ref (qL 0), .int p1, .int p2])).length) Slot.unset).toArray = ls at hl ⊢
  have hl : lv_has ls 3 [(0, .ref (qL 0)), (1, .int p1), (2, .int p2)] := hl
  refine w_gen (fun Q hQ => ?_)
  refine lv_iload_n hx hb dX6_spans_0 rfl (lv_at hl 1 rfl) ?_
  refine lv_if_lt (tgt := 26) hx hb dX6_spans_1 (by decide) (fun cz1 => ?_) (fun cz1 => ?_)
  · skip
    have bz2 := fb_rng p1
    have zz3 : p1.toInt < (0 : Int) := zi_lt.mp cz1
    refine lv_iconst (v := 0) hx hb dX6_spans_26 (by decide) ?_
    rw [hQ]
    exact W.zret (v := (0 : Int32)) hx hb hr rfl (fun t ht hW => ⟨(0 : Int32), rfl, ⟨(by show ((0 : Int) = 0 ∧ (p1.toInt < 0 ∨ p2.toInt < 0 ∨ (sL 0).toInt < p1.toInt + p2.toInt)) ∨ ((0 : Int) = 1 ∧ 0 ≤ p1.toInt ∧ 0 ≤ p2.toInt ∧ p1.toInt + p2.toInt ≤ (sL 0).toInt); omega), (by show (0 : Int) = 0 ∨ (0 : Int) = 1; omega)⟩, ht⟩) (fun _ h => absurd h List.not_mem_nil) dX6_spans_27
  · skip
    have bz4 := fb_rng p1
    have zz5 : ¬ p1.toInt < (0 : Int) := fun h9 => cz1 (zi_lt.mpr h9)
    refine lv_iload_n hx hb dX6_spans_4 rfl (lv_at hl 2 rfl) ?_
    refine lv_if_lt (tgt := 26) hx hb dX6_spans_5 (by decide) (fun cz6 => ?_) (fun cz6 => ?_)
    · skip
      have bz7 := fb_rng p2
      have zz8 : p2.toInt < (0 : Int) := zi_lt.mp cz6
      refine lv_iconst (v := 0) hx hb dX6_spans_26 (by decide) ?_
      rw [hQ]
      exact W.zret (v := (0 : Int32)) hx hb hr rfl (fun t ht hW => ⟨(0 : Int32), rfl, ⟨(by show ((0 : Int) = 0 ∧ (p1.toInt < 0 ∨ p2.toInt < 0 ∨ (sL 0).toInt < p1.toInt + p2.toInt)) ∨ ((0 : Int) = 1 ∧ 0 ≤ p1.toInt ∧ 0 ≤ p2.toInt ∧ p1.toInt + p2.toInt ≤ (sL 0).toInt); omega), (by show (0 : Int) = 0 ∨ (0 : Int) = 1; omega)⟩, ht⟩) (fun _ h => absurd h List.not_mem_nil) dX6_spans_27
    · skip
      have bz9 := fb_rng p2
      have zz10 : ¬ p2.toInt < (0 : Int) := fun h9 => cz6 (zi_lt.mpr h9)
      refine lv_iload_n hx hb dX6_spans_8 rfl (lv_at hl 1 rfl) ?_
      refine lv_i2l hx hb dX6_spans_9 rfl ?_
      refine lv_iload_n hx hb dX6_spans_10 rfl (lv_at hl 2 rfl) ?_
      refine lv_i2l hx hb dX6_spans_11 rfl ?_
      refine lv_ladd hx hb dX6_spans_12 ?_
      have bz11 := fb_rng p1
      have bz12 := fb_rng p2
      refine lv_topl (fun xz13 exz13 => ?_)
      have fxz13 : xz13.toInt = p1.toInt + p2.toInt := by rw [exz13]; exact (by have h8 := fb_addL (x := p1.toInt64) (y := p2.toInt64) (by simp only [Int32.toInt_toInt64]; show -9223372036854775808 ≤ p1.toInt + p2.toInt; omega) (by simp only [Int32.toInt_toInt64]; show p1.toInt + p2.toInt < 9223372036854775808; omega); simp only [Int32.toInt_toInt64] at h8; exact h8)
      refine lv_aload_n hx hb dX6_spans_13 rfl (lv_at hl 0 rfl) ?_
      refine va_get (D := (dC, dI)) (ci := 6) (v := .int (sL 0)) (C := RX6) (T := TX6) (N := 4) hx hb hts (fun w h => List.mem_cons_of_mem _ (List.mem_append_right _ (List.mem_append_left _ h))) hown hK hP 0 rfl rfl 3 (by decide) (hts (.fieldLink RX6 23 "SagMemory$Slot" "length" "I") (wl_mem 0 rfl)) (fun _ h9 => h9) rfl dX6_spans_14 ?_
      have bz14 := hsL 0
      refine lv_i2l hx hb dX6_spans_17 rfl ?_
      refine W.lcmp hx hb dX6_spans_18 ?_
      refine lv_if_gt (tgt := 26) hx hb dX6_spans_19 (by decide) (fun cz15 => ?_) (fun cz15 => ?_)
      · skip
        rw [lg_cmp_gt] at cz15
        have zz16 : (sL 0).toInt < xz13.toInt := by have h9 := zi_ltL.mp cz15; simp only [Int32.toInt_toInt64] at h9; exact h9
        refine lv_iconst (v := 0) hx hb dX6_spans_26 (by decide) ?_
        rw [hQ]
        exact W.zret (v := (0 : Int32)) hx hb hr rfl (fun t ht hW => ⟨(0 : Int32), rfl, ⟨(by show ((0 : Int) = 0 ∧ (p1.toInt < 0 ∨ p2.toInt < 0 ∨ (sL 0).toInt < p1.toInt + p2.toInt)) ∨ ((0 : Int) = 1 ∧ 0 ≤ p1.toInt ∧ 0 ≤ p2.toInt ∧ p1.toInt + p2.toInt ≤ (sL 0).toInt); omega), (by show (0 : Int) = 0 ∨ (0 : Int) = 1; omega)⟩, ht⟩) (fun _ h => absurd h List.not_mem_nil) dX6_spans_27
      · skip
        rw [lg_cmp_gt] at cz15
        have zz17 : ¬ (sL 0).toInt < xz13.toInt := by intro h9; apply cz15; rw [zi_ltL]; simp only [Int32.toInt_toInt64]; exact h9
        refine lv_iconst (v := 1) hx hb dX6_spans_22 (by decide) ?_
        refine lv_goto (tgt := 27) hx hb dX6_spans_23 (by decide) ?_
        rw [hQ]
        exact W.zret (v := (1 : Int32)) hx hb hr rfl (fun t ht hW => ⟨(1 : Int32), rfl, ⟨(by show ((1 : Int) = 0 ∧ (p1.toInt < 0 ∨ p2.toInt < 0 ∨ (sL 0).toInt < p1.toInt + p2.toInt)) ∨ ((1 : Int) = 1 ∧ 0 ≤ p1.toInt ∧ 0 ≤ p2.toInt ∧ p1.toInt + p2.toInt ≤ (sL 0).toInt); omega), (by show (1 : Int) = 0 ∨ (1 : Int) = 1; omega)⟩, ht⟩) (fun _ h => absurd h List.not_mem_nil) dX6_spans_27
def wk_c_X11_paste_x : List Cond := .code yX11_paste cX11_paste 8 (some .int) :: ([.methodLink RX11 380 yX11_hasSlot, .static yX11_hasSlot, .initialized RX11, .fieldLink RX11 85 "SagMemory" "slots" "[LSagMemory$Slot;", .fieldLink RX11 386 "SagMemory$Slot" "has" "Z", .fieldLink RX11 396 "SagMemory$Slot" "width" "I", .methodLink RX11 399 yX6_spans, .instanceMethod yX6_spans, .selects RX6 yX6_spans yX6_spans, .initialized RX6, .fieldLink RX11 388 "SagMemory$Slot" "numbers" "[J", .methodLink RX11 402 arraycopyName, .native arraycopyName, .static arraycopyName, .initialized "java/lang/System"] ++ (wk_c_X11_hasSlot ++ (wsX110 ++ (wsX60 ++ (wk_c_X6_spans_x ++ [])))))
theorem wkg_c_X11_paste_x : wk_c_X11_paste_x.all goodWord = true := by decide +kernel
set_option maxHeartbeats 4000000 in
set_option maxRecDepth 100000 in
theorem c_X11_paste_x (l : Launch) (dC : Nat → ClassId) (dI : Nat → Nat → Nat) (k : Nat → ClassId) (sz : Nat) (qX : Nat → Nat) (tapeX : Nat) (toldX : Nat) (actsX : Nat) (nowX : Nat) (trialX : Nat) (storyX : Nat) (attemptX : Nat) (orderSearchX : Nat) (routeSearchX : Nat) (setSearchX : Nat) (probeX : Nat) (image0X : Nat) (image1X : Nat) (image2X : Nat) (aX : Nat → Nat → Int32) (qL0 : Nat → Nat) (vL0 : Nat → Int32) (sL0 : Nat → Int32) (lL0 : Nat → Nat → Int64) (qL1 : Nat → Nat) (vL1 : Nat → Int32) (sL1 : Nat → Int32) (lL1 : Nat → Nat → Int64) (qL2 : Nat → Nat) (vL2 : Nat → Int32) (sL2 : Nat → Int32) (lL2 : Nat → Nat → Int64) (qL3 : Nat → Nat) (vL3 : Nat → Int32) (sL3 : Nat → Int32) (lL3 : Nat → Nat → Int64) (p1 : Int32) (p2 : Int32) (p3 : Int32) (p4 : Int32) (p5 : Int32) (hsL0 : Rg 0 60 sL0) (hsL1 : Rg 0 60 sL1) (hsL2 : Rg 0 60 sL2) (hsL3 : Rg 0 60 sL3) : Met l yX11_paste wk_c_X11_paste_x ({ frames := 1, cells := 0, slots := 0, locals := 80 }) (va_Pc [.ref (qX 0), .int p1, .int p2, .int p3, .int p4, .int p5] (fun U => U.heap.size = sz ∧ va_P (dC, dI) vwCl (List.flatten [(wSlot qL0 k vL0 sL0 lL0), (wSlot qL1 k vL1 sL1 lL1), (wSlot qL2 k vL2 sL2 lL2), (wSlot qL3 k vL3 sL3 lL3)] ++ List.flatten [(wSag qX k tapeX toldX actsX nowX trialX storyX attemptX orderSearchX routeSearchX setSearchX probeX (qL0 0) (qL1 0) (qL2 0) (qL3 0) image0X image1X image2X aX)]) U.heap ∧ va_K (dC, dI) vwCl (tK k) U ∧ va_D (fun _ => True) (List.flatten [(wSlot qL0 k vL0 sL0 lL0), (wSlot qL1 k vL1 sL1 lL1), (wSlot qL2 k vL2 sL2 lL2), (wSlot qL3 k vL3 sL3 lL3)] ++ List.flatten [(wSag qX k tapeX toldX actsX nowX trialX storyX attemptX orderSearchX routeSearchX setSearchX probeX (qL0 0) (qL1 0) (qL2 0) (qL3 0) image0X image1X image2X aX)]))) (va_Qi (fun (r : Int32) (_ : Unit) => True) (fun (_ : Unit) (t : State) => ∃ (vL0' : Nat → Int32) (sL0' : Nat → Int32) (lL0' : Nat → Nat → Int64) (vL1' : Nat → Int32) (sL1' : Nat → Int32) (lL1' : Nat → Nat → Int64) (vL2' : Nat → Int32) (sL2' : Nat → Int32) (lL2' : Nat → Nat → Int64) (vL3' : Nat → Int32) (sL3' : Nat → Int32) (lL3' : Nat → Nat → Int64), Rg 0 60 sL0' ∧ Rg 0 60 sL1' ∧ Rg 0 60 sL2' ∧ Rg 0 60 sL3' ∧ ((vL0' 0).toInt = (vL0 0).toInt ∧ (vL0' 1).toInt = (vL0 1).toInt ∧ (sL0' 0).toInt = (sL0 0).toInt) ∧ ((vL1' 0).toInt = (vL1 0).toInt ∧ (vL1' 1).toInt = (vL1 1).toInt ∧ (sL1' 0).toInt = (sL1 0).toInt) ∧ ((vL2' 0).toInt = (vL2 0).toInt ∧ (vL2' 1).toInt = (vL2 1).toInt ∧ (sL2' 0).toInt = (sL2 0).toInt) ∧ ((vL3' 0).toInt = (vL3 0).toInt ∧ (vL3' 1).toInt = (vL3 1).toInt ∧ (sL3' 0).toInt = (sL3 0).toInt) ∧ va_P (dC, dI) vwCl (List.flatten [(wSlot qL0 k vL0' sL0' lL0'), (wSlot qL1 k vL1' sL1' lL1'), (wSlot qL2 k vL2' sL2' lL2'), (wSlot qL3 k vL3' sL3' lL3')] ++ List.flatten [(wSag qX k tapeX toldX actsX nowX trialX storyX attemptX orderSearchX routeSearchX setSearchX probeX (qL0 0) (qL1 0) (qL2 0) (qL3 0) image0X image1X image2X aX)]) t.heap) (va_A (List.flatten [(wSlot qL0 k vL0 sL0 lL0), (wSlot qL1 k vL1 sL1 lL1), (wSlot qL2 k vL2 sL2 lL2), (wSlot qL3 k vL3 sL3 lL3)] ++ List.flatten [(wSag qX k tapeX toldX actsX nowX trialX storyX attemptX orderSearchX routeSearchX setSearchX probeX (qL0 0) (qL1 0) (qL2 0) (qL3 0) image0X image1X image2X aX)]) sz)) 0 0 (va_A (List.flatten [(wSlot qL0 k vL0 sL0 lL0), (wSlot qL1 k vL1 sL1 lL1), (wSlot qL2 k vL2 sL2 lL2), (wSlot qL3 k vL3 sL3 lL3)] ++ List.flatten [(wSag qX k tapeX toldX actsX nowX trialX storyX attemptX orderSearchX routeSearchX setSearchX probeX (qL0 0) (qL1 0) (qL2 0) (qL3 0) image0X image1X image2X aX)]) sz) := by
  refine Met.ofW (cc := cX11_paste) (maxL := 8) (ret := (some .int)) (by decide) rfl ?_
  intro p e s m args below meth c s₁ B hml hv
  obtain ⟨rfl, hsz, hP, hK, hD0⟩ := hv
  have hx := B.exec
  have hb := B.bytes
  have hr := B.returns
  have hts := atoms_spec (ws := wk_c_X11_paste_x) B.pre
  have hown : s.vm.findClass RX11 = some m.cls := findClass_of_methodNamed B.named
  have hlocks := B.notSynchronized
  subst hsz
  have hD := hD0.self (sz := s.heap.size)
  generalize hAe : va_A (List.flatten [(wSlot qL0 k vL0 sL0 lL0), (wSlot qL1 k vL1 sL1 lL1), (wSlot qL2 k vL2 sL2 lL2), (wSlot qL3 k vL3 sL3 lL3)] ++ List.flatten [(wSag qX k tapeX toldX actsX nowX trialX storyX attemptX orderSearchX routeSearchX setSearchX probeX (qL0 0) (qL1 0) (qL2 0) (qL3 0) image0X image1X image2X aX)]) s.heap.size = A at hD ⊢
  have hA : ∀ q : Nat, s.heap.size ≤ q → A q := fun q h => by rw [← hAe]; exact Or.inr h
  have hS : va_S A s.heap s.heap [] := va_S.rf
  have hP : va_P (dC, dI) vwCl (List.flatten [(wSlot qL0 k vL0 sL0 lL0), (wSlot qL1 k vL1 sL1 lL1), (wSlot qL2 k vL2 sL2 lL2), (wSlot qL3 k vL3 sL3 lL3)] ++ List.flatten [(wSag qX k tapeX toldX actsX nowX trialX storyX attemptX orderSearchX routeSearchX setSearchX probeX (qL0 0) (qL1 0) (qL2 0) (qL3 0) image0X image1X image2X aX)]) s.heap := hP
  have hl := lv_entry ([.ref (qX 0), .int p1, .int p2, .int p3, .int p4, .int p5]) (n := 8) (Nat.le_of_ble_eq_true rfl)
  rw [lg_entry_eq]
  generalize (lg_sl ([.ref (qX 0), .int p1, .int p2, .int p3, .int p4, .int p5]) ++ List.replicate (8 - (lg_sl ([.ref (qX 0), .int p1, .int p2, .int p3, .int p4, .int p5])).length) Slot.unset).toArray = ls at hl ⊢
  have hl : lv_has ls 8 [(0, .ref (qX 0)), (1, .int p1), (2, .int p2), (3, .int p3), (4, .int p4), (5, .int p5)] := hl
  refine w_gen (fun Q hQ => ?_)
  refine lv_iload_n hx hb dX11_paste_0 rfl (lv_at hl 1 rfl) ?_
  have hPc : va_P (dC, dI) vwCl (List.flatten ([] : List va_W)) s.heap := fun k q h => by simp at h
  refine vp_callSi (va_Run.run (va_runS (As := [.int p1]) (rest := []) ⟨hx, hb, hml, hown, hts⟩ (c_X11_hasSlot l dC dI k p1) (va_cwS 1 hts (gk_S (wl_mem 0 rfl) (wl_mem 1 rfl) (wl_mem 2 rfl) (fun w h => List.mem_cons_of_mem _ (List.mem_append_right _ (List.mem_append_left _ h))) wkg_c_X11_hasSlot) rfl rfl rfl (by decide +kernel) ⟨Nat.le_of_ble_eq_true rfl, Nat.le_of_ble_eq_true rfl⟩) ⟨fun a U g mk q => by obtain ⟨q0, qP, qK⟩ := q; exact ⟨q0, qP, va_K.moved (u := U) (U := U.calling g mk a) (Vm.Alike.refl U.vm) qK⟩, fun U hU hW => ⟨rfl, by rw [hU]; exact hPc, va_K.moved hW.alike hK⟩⟩ rfl rfl hl.1 rfl (lv_room (Nat.le_of_ble_eq_true rfl)) dX11_paste_1 ⟨Nat.le_of_ble_eq_true rfl, Nat.le_of_ble_eq_true rfl⟩)) (fun rz2 gz1 => ?_)
  clear hPc
  rcases gz1 with ⟨er, cz3⟩ | ⟨er, cz4, cz5⟩ | ⟨er, cz6, cz7⟩
  · obtain rfl := er.symm
    have bz8 := fb_rng p1
    have zz9 : p1.toInt < (0 : Int) := zi_lt.mp cz3
    refine lv_if_eq (tgt := 14) hx hb dX11_paste_4 (by decide) (fun cz10 => ?_) (fun cz10 => ?_)
    · skip
      refine lv_bipush (v := (-2)) hx hb dX11_paste_14 (by decide) ?_
      rw [hQ]
      exact W.iret (v := (-2 : Int32)) hx hb hr (fun t ht hW => ⟨⟨(-2 : Int32), (), rfl, trivial, vL0, sL0, lL0, vL1, sL1, lL1, vL2, sL2, lL2, vL3, sL3, lL3, hsL0, hsL1, hsL2, hsL3, (show (vL0 0).toInt = (vL0 0).toInt ∧ (vL0 1).toInt = (vL0 1).toInt ∧ (sL0 0).toInt = (sL0 0).toInt from ⟨rfl, rfl, rfl⟩), (show (vL1 0).toInt = (vL1 0).toInt ∧ (vL1 1).toInt = (vL1 1).toInt ∧ (sL1 0).toInt = (sL1 0).toInt from ⟨rfl, rfl, rfl⟩), (show (vL2 0).toInt = (vL2 0).toInt ∧ (vL2 1).toInt = (vL2 1).toInt ∧ (sL2 0).toInt = (sL2 0).toInt from ⟨rfl, rfl, rfl⟩), (show (vL3 0).toInt = (vL3 0).toInt ∧ (vL3 1).toInt = (vL3 1).toInt ∧ (sL3 0).toInt = (sL3 0).toInt from ⟨rfl, rfl, rfl⟩), by rw [ht]; exact hP⟩, hS.F ht⟩) hS.2.2 dX11_paste_16
    · skip
      exact absurd cz10 (by decide)
  · obtain rfl := er.symm
    have bz11 := fb_rng p1
    have zz12 : ¬ p1.toInt < (0 : Int) := fun h9 => cz4 (zi_lt.mpr h9)
    have zz13 : (4 : Int) ≤ p1.toInt := zi_le.mp cz5
    refine lv_if_eq (tgt := 14) hx hb dX11_paste_4 (by decide) (fun cz14 => ?_) (fun cz14 => ?_)
    · skip
      refine lv_bipush (v := (-2)) hx hb dX11_paste_14 (by decide) ?_
      rw [hQ]
      exact W.iret (v := (-2 : Int32)) hx hb hr (fun t ht hW => ⟨⟨(-2 : Int32), (), rfl, trivial, vL0, sL0, lL0, vL1, sL1, lL1, vL2, sL2, lL2, vL3, sL3, lL3, hsL0, hsL1, hsL2, hsL3, (show (vL0 0).toInt = (vL0 0).toInt ∧ (vL0 1).toInt = (vL0 1).toInt ∧ (sL0 0).toInt = (sL0 0).toInt from ⟨rfl, rfl, rfl⟩), (show (vL1 0).toInt = (vL1 0).toInt ∧ (vL1 1).toInt = (vL1 1).toInt ∧ (sL1 0).toInt = (sL1 0).toInt from ⟨rfl, rfl, rfl⟩), (show (vL2 0).toInt = (vL2 0).toInt ∧ (vL2 1).toInt = (vL2 1).toInt ∧ (sL2 0).toInt = (sL2 0).toInt from ⟨rfl, rfl, rfl⟩), (show (vL3 0).toInt = (vL3 0).toInt ∧ (vL3 1).toInt = (vL3 1).toInt ∧ (sL3 0).toInt = (sL3 0).toInt from ⟨rfl, rfl, rfl⟩), by rw [ht]; exact hP⟩, hS.F ht⟩) hS.2.2 dX11_paste_16
    · skip
      exact absurd cz14 (by decide)
  · obtain rfl := er.symm
    have bz15 := fb_rng p1
    have zz16 : ¬ p1.toInt < (0 : Int) := fun h9 => cz6 (zi_lt.mpr h9)
    have zz17 : ¬ (4 : Int) ≤ p1.toInt := fun h9 => cz7 (zi_le.mpr h9)
    refine lv_if_eq (tgt := 14) hx hb dX11_paste_4 (by decide) (fun cz18 => ?_) (fun cz18 => ?_)
    · skip
      exact absurd cz18 (by decide)
    · skip
      refine lv_iload_n hx hb dX11_paste_7 rfl (lv_at hl 3 rfl) ?_
      have hPc : va_P (dC, dI) vwCl (List.flatten ([] : List va_W)) s.heap := fun k q h => by simp at h
      refine vp_callSi (va_Run.run (va_runS (As := [.int p3]) (rest := []) ⟨hx, hb, hml, hown, hts⟩ (c_X11_hasSlot l dC dI k p3) (va_cwS 1 hts (gk_S (wl_mem 0 rfl) (wl_mem 1 rfl) (wl_mem 2 rfl) (fun w h => List.mem_cons_of_mem _ (List.mem_append_right _ (List.mem_append_left _ h))) wkg_c_X11_hasSlot) rfl rfl rfl (by decide +kernel) ⟨Nat.le_of_ble_eq_true rfl, Nat.le_of_ble_eq_true rfl⟩) ⟨fun a U g mk q => by obtain ⟨q0, qP, qK⟩ := q; exact ⟨q0, qP, va_K.moved (u := U) (U := U.calling g mk a) (Vm.Alike.refl U.vm) qK⟩, fun U hU hW => ⟨rfl, by rw [hU]; exact hPc, va_K.moved hW.alike hK⟩⟩ rfl rfl hl.1 rfl (lv_room (Nat.le_of_ble_eq_true rfl)) dX11_paste_8 ⟨Nat.le_of_ble_eq_true rfl, Nat.le_of_ble_eq_true rfl⟩)) (fun rz20 gz19 => ?_)
      clear hPc
      rcases gz19 with ⟨er, cz21⟩ | ⟨er, cz22, cz23⟩ | ⟨er, cz24, cz25⟩
      · obtain rfl := er.symm
        have bz26 := fb_rng p3
        have zz27 : p3.toInt < (0 : Int) := zi_lt.mp cz21
        refine lv_if_ne (tgt := 17) hx hb dX11_paste_11 (by decide) (fun cz28 => ?_) (fun cz28 => ?_)
        · skip
          exact absurd cz28 (by decide)
        · skip
          refine lv_bipush (v := (-2)) hx hb dX11_paste_14 (by decide) ?_
          rw [hQ]
          exact W.iret (v := (-2 : Int32)) hx hb hr (fun t ht hW => ⟨⟨(-2 : Int32), (), rfl, trivial, vL0, sL0, lL0, vL1, sL1, lL1, vL2, sL2, lL2, vL3, sL3, lL3, hsL0, hsL1, hsL2, hsL3, (show (vL0 0).toInt = (vL0 0).toInt ∧ (vL0 1).toInt = (vL0 1).toInt ∧ (sL0 0).toInt = (sL0 0).toInt from ⟨rfl, rfl, rfl⟩), (show (vL1 0).toInt = (vL1 0).toInt ∧ (vL1 1).toInt = (vL1 1).toInt ∧ (sL1 0).toInt = (sL1 0).toInt from ⟨rfl, rfl, rfl⟩), (show (vL2 0).toInt = (vL2 0).toInt ∧ (vL2 1).toInt = (vL2 1).toInt ∧ (sL2 0).toInt = (sL2 0).toInt from ⟨rfl, rfl, rfl⟩), (show (vL3 0).toInt = (vL3 0).toInt ∧ (vL3 1).toInt = (vL3 1).toInt ∧ (sL3 0).toInt = (sL3 0).toInt from ⟨rfl, rfl, rfl⟩), by rw [ht]; exact hP⟩, hS.F ht⟩) hS.2.2 dX11_paste_16
      · obtain rfl := er.symm
        have bz29 := fb_rng p3
        have zz30 : ¬ p3.toInt < (0 : Int) := fun h9 => cz22 (zi_lt.mpr h9)
        have zz31 : (4 : Int) ≤ p3.toInt := zi_le.mp cz23
        refine lv_if_ne (tgt := 17) hx hb dX11_paste_11 (by decide) (fun cz32 => ?_) (fun cz32 => ?_)
        · skip
          exact absurd cz32 (by decide)
        · skip
          refine lv_bipush (v := (-2)) hx hb dX11_paste_14 (by decide) ?_
          rw [hQ]
          exact W.iret (v := (-2 : Int32)) hx hb hr (fun t ht hW => ⟨⟨(-2 : Int32), (), rfl, trivial, vL0, sL0, lL0, vL1, sL1, lL1, vL2, sL2, lL2, vL3, sL3, lL3, hsL0, hsL1, hsL2, hsL3, (show (vL0 0).toInt = (vL0 0).toInt ∧ (vL0 1).toInt = (vL0 1).toInt ∧ (sL0 0).toInt = (sL0 0).toInt from ⟨rfl, rfl, rfl⟩), (show (vL1 0).toInt = (vL1 0).toInt ∧ (vL1 1).toInt = (vL1 1).toInt ∧ (sL1 0).toInt = (sL1 0).toInt from ⟨rfl, rfl, rfl⟩), (show (vL2 0).toInt = (vL2 0).toInt ∧ (vL2 1).toInt = (vL2 1).toInt ∧ (sL2 0).toInt = (sL2 0).toInt from ⟨rfl, rfl, rfl⟩), (show (vL3 0).toInt = (vL3 0).toInt ∧ (vL3 1).toInt = (vL3 1).toInt ∧ (sL3 0).toInt = (sL3 0).toInt from ⟨rfl, rfl, rfl⟩), by rw [ht]; exact hP⟩, hS.F ht⟩) hS.2.2 dX11_paste_16
      · obtain rfl := er.symm
        have bz33 := fb_rng p3
        have zz34 : ¬ p3.toInt < (0 : Int) := fun h9 => cz24 (zi_lt.mpr h9)
        have zz35 : ¬ (4 : Int) ≤ p3.toInt := fun h9 => cz25 (zi_le.mpr h9)
        refine lv_if_ne (tgt := 17) hx hb dX11_paste_11 (by decide) (fun cz36 => ?_) (fun cz36 => ?_)
        · skip
          refine lv_aload_n hx hb dX11_paste_17 rfl (lv_at hl 0 rfl) ?_
          refine va_get (D := (dC, dI)) (ci := 11) (v := .ref (qX 3)) (C := RX11) (T := TX11) (N := 15) hx hb hts (fun w h => List.mem_cons_of_mem _ (List.mem_append_right _ (List.mem_append_right _ (List.mem_append_left _ h)))) hown hK hP 8 rfl rfl 13 (by decide) (hts (.fieldLink RX11 85 "SagMemory" "slots" "[LSagMemory$Slot;") (wl_mem 3 rfl)) (fun _ h9 => h9) rfl dX11_paste_18 ?_
          refine lv_iload_n hx hb dX11_paste_21 rfl (lv_at hl 1 rfl) ?_
          rcases (show p1 = 0 ∨ p1 = 1 ∨ p1 = 2 ∨ p1 = 3 by simp only [zi_eq]; show p1.toInt = 0 ∨ p1.toInt = 1 ∨ p1.toInt = 2 ∨ p1.toInt = 3; omega) with cz37 | cz37 | cz37 | cz37
          · skip
            have zz38 : p1.toInt = (0 : Int) := zi_eq.mp cz37
            refine W.eq (g2 := F0 m 22 ls [.int 0, .ref (qX 3)]) (by rw [cz37]) ?_
            refine va_aldq hx hb hK hP 11 6 rfl rfl (by unfold vp_in; decide) dX11_paste_22 ?_
            refine W.eq (g2 := F0 m 23 ls [.ref (qL0 0)]) rfl ?_
            refine lv_astore (lv' := [(6, .ref (qL0 0)), (0, .ref (qX 0)), (1, .int p1), (2, .int p2), (3, .int p3), (4, .int p4), (5, .int p5)]) hx hb dX11_paste_23 hl (by decide) rfl (fun ls hl => ?_)
            refine lv_aload_n hx hb dX11_paste_25 rfl (lv_at hl 1 rfl) ?_
            refine va_get (D := (dC, dI)) (ci := 11) (v := .ref (qX 3)) (C := RX11) (T := TX11) (N := 15) hx hb hts (fun w h => List.mem_cons_of_mem _ (List.mem_append_right _ (List.mem_append_right _ (List.mem_append_left _ h)))) hown hK hP 8 rfl rfl 13 (by decide) (hts (.fieldLink RX11 85 "SagMemory" "slots" "[LSagMemory$Slot;") (wl_mem 3 rfl)) (fun _ h9 => h9) rfl dX11_paste_26 ?_
            refine lv_iload_n hx hb dX11_paste_29 rfl (lv_at hl 4 rfl) ?_
            rcases (show p3 = 0 ∨ p3 = 1 ∨ p3 = 2 ∨ p3 = 3 by simp only [zi_eq]; show p3.toInt = 0 ∨ p3.toInt = 1 ∨ p3.toInt = 2 ∨ p3.toInt = 3; omega) with cz39 | cz39 | cz39 | cz39
            · skip
              have zz40 : p3.toInt = (0 : Int) := zi_eq.mp cz39
              refine W.eq (g2 := F0 m 30 ls [.int 0, .ref (qX 3)]) (by rw [cz39]) ?_
              refine va_aldq hx hb hK hP 11 6 rfl rfl (by unfold vp_in; decide) dX11_paste_30 ?_
              refine W.eq (g2 := F0 m 31 ls [.ref (qL0 0)]) rfl ?_
              refine lv_astore (lv' := [(7, .ref (qL0 0)), (6, .ref (qL0 0)), (0, .ref (qX 0)), (1, .int p1), (2, .int p2), (3, .int p3), (4, .int p4), (5, .int p5)]) hx hb dX11_paste_31 hl (by decide) rfl (fun ls hl => ?_)
              refine lv_aload hx hb dX11_paste_33 (lv_at hl 1 rfl) ?_
              refine va_get (D := (dC, dI)) (ci := 6) (v := .int (vL0 0)) (C := RX6) (T := TX6) (N := 4) hx hb hts (fun w h => List.mem_cons_of_mem _ (List.mem_append_right _ (List.mem_append_right _ (List.mem_append_right _ (List.mem_append_left _ h))))) hown hK hP 0 rfl rfl 1 (by decide) (hts (.fieldLink RX11 386 "SagMemory$Slot" "has" "Z") (wl_mem 4 rfl)) (fun _ h9 => h9) rfl dX11_paste_35 ?_
              refine lv_if_eq (tgt := 49) hx hb dX11_paste_38 (by decide) (fun cz41 => ?_) (fun cz41 => ?_)
              · skip
                have zz42 : (vL0 0).toInt = (0 : Int) := zi_eq.mp cz41
                refine lv_bipush (v := (-6)) hx hb dX11_paste_49 (by decide) ?_
                rw [hQ]
                exact W.iret (v := (-6 : Int32)) hx hb hr (fun t ht hW => ⟨⟨(-6 : Int32), (), rfl, trivial, vL0, sL0, lL0, vL1, sL1, lL1, vL2, sL2, lL2, vL3, sL3, lL3, hsL0, hsL1, hsL2, hsL3, (show (vL0 0).toInt = (vL0 0).toInt ∧ (vL0 1).toInt = (vL0 1).toInt ∧ (sL0 0).toInt = (sL0 0).toInt from ⟨rfl, rfl, rfl⟩), (show (vL1 0).toInt = (vL1 0).toInt ∧ (vL1 1).toInt = (vL1 1).toInt ∧ (sL1 0).toInt = (sL1 0).toInt from ⟨rfl, rfl, rfl⟩), (show (vL2 0).toInt = (vL2 0).toInt ∧ (vL2 1).toInt = (vL2 1).toInt ∧ (sL2 0).toInt = (sL2 0).toInt from ⟨rfl, rfl, rfl⟩), (show (vL3 0).toInt = (vL3 0).toInt ∧ (vL3 1).toInt = (vL3 1).toInt ∧ (sL3 0).toInt = (sL3 0).toInt from ⟨rfl, rfl, rfl⟩), by rw [ht]; exact hP⟩, hS.F ht⟩) hS.2.2 dX11_paste_51
              · skip
                have zz43 : ¬ (vL0 0).toInt = (0 : Int) := fun h9 => cz41 (zi_eq.mpr h9)
                refine lv_aload hx hb dX11_paste_41 (lv_at hl 0 rfl) ?_
                refine va_get (D := (dC, dI)) (ci := 6) (v := .int (vL0 0)) (C := RX6) (T := TX6) (N := 4) hx hb hts (fun w h => List.mem_cons_of_mem _ (List.mem_append_right _ (List.mem_append_right _ (List.mem_append_right _ (List.mem_append_left _ h))))) hown hK hP 0 rfl rfl 1 (by decide) (hts (.fieldLink RX11 386 "SagMemory$Slot" "has" "Z") (wl_mem 4 rfl)) (fun _ h9 => h9) rfl dX11_paste_43 ?_
                refine lv_if_ne (tgt := 52) hx hb dX11_paste_46 (by decide) (fun cz44 => ?_) (fun cz44 => ?_)
                · skip
                  have zz45 : ¬ (vL0 0).toInt = (0 : Int) := fun h9 => cz44 (zi_eq.mpr h9)
                  refine lv_aload hx hb dX11_paste_52 (lv_at hl 1 rfl) ?_
                  refine va_get (D := (dC, dI)) (ci := 6) (v := .int (vL0 1)) (C := RX6) (T := TX6) (N := 4) hx hb hts (fun w h => List.mem_cons_of_mem _ (List.mem_append_right _ (List.mem_append_right _ (List.mem_append_right _ (List.mem_append_left _ h))))) hown hK hP 0 rfl rfl 2 (by decide) (hts (.fieldLink RX11 396 "SagMemory$Slot" "width" "I") (wl_mem 5 rfl)) (fun _ h9 => h9) rfl dX11_paste_54 ?_
                  refine lv_aload hx hb dX11_paste_57 (lv_at hl 0 rfl) ?_
                  refine va_get (D := (dC, dI)) (ci := 6) (v := .int (vL0 1)) (C := RX6) (T := TX6) (N := 4) hx hb hts (fun w h => List.mem_cons_of_mem _ (List.mem_append_right _ (List.mem_append_right _ (List.mem_append_right _ (List.mem_append_left _ h))))) hown hK hP 0 rfl rfl 2 (by decide) (hts (.fieldLink RX11 396 "SagMemory$Slot" "width" "I") (wl_mem 5 rfl)) (fun _ h9 => h9) rfl dX11_paste_59 ?_
                  refine lv_icmp_eq (tgt := 68) hx hb dX11_paste_62 (by decide) (fun cz46 => ?_) (fun cz46 => ?_)
                  · skip
                    have zz47 : (vL0 1).toInt = (vL0 1).toInt := zi_eq.mp cz46
                    refine lv_aload hx hb dX11_paste_68 (lv_at hl 1 rfl) ?_
                    refine lv_iload_n hx hb dX11_paste_70 rfl (lv_at hl 4 rfl) ?_
                    refine lv_iload hx hb dX11_paste_71 (lv_at hl 7 rfl) ?_
                    have hPc := hP.sub (ws' := (List.flatten [(wSlot qL0 k vL0 sL0 lL0)])) [0, 1] rfl
                    refine vp_callSi (va_Run.run (va_runV (As := [.int p2, .int p5]) (rest := []) ⟨hx, hb, hml, hown, hts⟩ (c_X6_spans_x l dC dI k qL0 vL0 sL0 lL0 p2 p5 hsL0) (cwV 2 hts (gk_V (wl_mem 6 rfl) (wl_mem 7 rfl) (wl_mem 8 rfl) (wl_mem 9 rfl) (fun w h => List.mem_cons_of_mem _ (List.mem_append_right _ (List.mem_append_right _ (List.mem_append_right _ (List.mem_append_right _ (List.mem_append_left _ h)))))) wkg_c_X6_spans_x) rfl rfl rfl (by decide +kernel) ⟨Nat.le_of_ble_eq_true rfl, Nat.le_of_ble_eq_true rfl⟩) ⟨fun a U g mk q => by obtain ⟨q0, qP, qK⟩ := q; exact ⟨q0, qP, va_K.moved (u := U) (U := U.calling g mk a) (Vm.Alike.refl U.vm) qK⟩, va_recv hK hPc (ci := 6) (q0 := 0) rfl rfl, fun U hU hW => ⟨rfl, by rw [hU]; exact hPc, va_K.moved hW.alike hK⟩⟩ rfl rfl hl.1 rfl (lv_room (Nat.le_of_ble_eq_true rfl)) dX11_paste_73 ⟨Nat.le_of_ble_eq_true rfl, Nat.le_of_ble_eq_true rfl⟩)) (fun rz49 gz48 => ?_)
                    clear hPc
                    obtain ⟨pz50, pz51⟩ := gz48
                    have pz50 : (rz49.toInt = 0 ∧ (p2.toInt < 0 ∨ p5.toInt < 0 ∨ (sL0 0).toInt < p2.toInt + p5.toInt)) ∨ (rz49.toInt = 1 ∧ 0 ≤ p2.toInt ∧ 0 ≤ p5.toInt ∧ p2.toInt + p5.toInt ≤ (sL0 0).toInt) := pz50
                    have pz51 : rz49.toInt = 0 ∨ rz49.toInt = 1 := pz51
                    have bz52 := hsL0 0
                    refine lv_if_eq (tgt := 91) hx hb dX11_paste_76 (by decide) (fun cz53 => ?_) (fun cz53 => ?_)
                    · skip
                      have zz54 : rz49.toInt = (0 : Int) := zi_eq.mp cz53
                      refine lv_bipush (v := (-7)) hx hb dX11_paste_91 (by decide) ?_
                      rw [hQ]
                      exact W.iret (v := (-7 : Int32)) hx hb hr (fun t ht hW => ⟨⟨(-7 : Int32), (), rfl, trivial, vL0, sL0, lL0, vL1, sL1, lL1, vL2, sL2, lL2, vL3, sL3, lL3, hsL0, hsL1, hsL2, hsL3, (show (vL0 0).toInt = (vL0 0).toInt ∧ (vL0 1).toInt = (vL0 1).toInt ∧ (sL0 0).toInt = (sL0 0).toInt from ⟨rfl, rfl, rfl⟩), (show (vL1 0).toInt = (vL1 0).toInt ∧ (vL1 1).toInt = (vL1 1).toInt ∧ (sL1 0).toInt = (sL1 0).toInt from ⟨rfl, rfl, rfl⟩), (show (vL2 0).toInt = (vL2 0).toInt ∧ (vL2 1).toInt = (vL2 1).toInt ∧ (sL2 0).toInt = (sL2 0).toInt from ⟨rfl, rfl, rfl⟩), (show (vL3 0).toInt = (vL3 0).toInt ∧ (vL3 1).toInt = (vL3 1).toInt ∧ (sL3 0).toInt = (sL3 0).toInt from ⟨rfl, rfl, rfl⟩), by rw [ht]; exact hP⟩, hS.F ht⟩) hS.2.2 dX11_paste_93
                    · skip
                      have zz55 : ¬ rz49.toInt = (0 : Int) := fun h9 => cz53 (zi_eq.mpr h9)
                      refine lv_aload hx hb dX11_paste_79 (lv_at hl 0 rfl) ?_
                      refine lv_iload hx hb dX11_paste_81 (lv_at hl 6 rfl) ?_
                      refine lv_iload hx hb dX11_paste_83 (lv_at hl 7 rfl) ?_
                      have hPc := hP.sub (ws' := (List.flatten [(wSlot qL0 k vL0 sL0 lL0)])) [0, 1] rfl
                      refine vp_callSi (va_Run.run (va_runV (As := [.int p4, .int p5]) (rest := []) ⟨hx, hb, hml, hown, hts⟩ (c_X6_spans_x l dC dI k qL0 vL0 sL0 lL0 p4 p5 hsL0) (cwV 2 hts (gk_V (wl_mem 6 rfl) (wl_mem 7 rfl) (wl_mem 8 rfl) (wl_mem 9 rfl) (fun w h => List.mem_cons_of_mem _ (List.mem_append_right _ (List.mem_append_right _ (List.mem_append_right _ (List.mem_append_right _ (List.mem_append_left _ h)))))) wkg_c_X6_spans_x) rfl rfl rfl (by decide +kernel) ⟨Nat.le_of_ble_eq_true rfl, Nat.le_of_ble_eq_true rfl⟩) ⟨fun a U g mk q => by obtain ⟨q0, qP, qK⟩ := q; exact ⟨q0, qP, va_K.moved (u := U) (U := U.calling g mk a) (Vm.Alike.refl U.vm) qK⟩, va_recv hK hPc (ci := 6) (q0 := 0) rfl rfl, fun U hU hW => ⟨rfl, by rw [hU]; exact hPc, va_K.moved hW.alike hK⟩⟩ rfl rfl hl.1 rfl (lv_room (Nat.le_of_ble_eq_true rfl)) dX11_paste_85 ⟨Nat.le_of_ble_eq_true rfl, Nat.le_of_ble_eq_true rfl⟩)) (fun rz57 gz56 => ?_)
                      clear hPc
                      obtain ⟨pz58, pz59⟩ := gz56
                      have pz58 : (rz57.toInt = 0 ∧ (p4.toInt < 0 ∨ p5.toInt < 0 ∨ (sL0 0).toInt < p4.toInt + p5.toInt)) ∨ (rz57.toInt = 1 ∧ 0 ≤ p4.toInt ∧ 0 ≤ p5.toInt ∧ p4.toInt + p5.toInt ≤ (sL0 0).toInt) := pz58
                      have pz59 : rz57.toInt = 0 ∨ rz57.toInt = 1 := pz59
                      refine lv_if_ne (tgt := 94) hx hb dX11_paste_88 (by decide) (fun cz60 => ?_) (fun cz60 => ?_)
                      · skip
                        have zz61 : ¬ rz57.toInt = (0 : Int) := fun h9 => cz60 (zi_eq.mpr h9)
                        refine lv_aload hx hb dX11_paste_94 (lv_at hl 1 rfl) ?_
                        refine va_get (D := (dC, dI)) (ci := 6) (v := .ref (qL0 1)) (C := RX6) (T := TX6) (N := 4) hx hb hts (fun w h => List.mem_cons_of_mem _ (List.mem_append_right _ (List.mem_append_right _ (List.mem_append_right _ (List.mem_append_left _ h))))) hown hK hP 0 rfl rfl 0 (by decide) (hts (.fieldLink RX11 388 "SagMemory$Slot" "numbers" "[J") (wl_mem 10 rfl)) (fun _ h9 => h9) rfl dX11_paste_96 ?_
                        refine lv_iload_n hx hb dX11_paste_99 rfl (lv_at hl 4 rfl) ?_
                        refine lv_aload hx hb dX11_paste_100 (lv_at hl 0 rfl) ?_
                        refine va_get (D := (dC, dI)) (ci := 6) (v := .ref (qL0 1)) (C := RX6) (T := TX6) (N := 4) hx hb hts (fun w h => List.mem_cons_of_mem _ (List.mem_append_right _ (List.mem_append_right _ (List.mem_append_right _ (List.mem_append_left _ h))))) hown hK hP 0 rfl rfl 0 (by decide) (hts (.fieldLink RX11 388 "SagMemory$Slot" "numbers" "[J") (wl_mem 10 rfl)) (fun _ h9 => h9) rfl dX11_paste_102 ?_
                        refine lv_iload hx hb dX11_paste_105 (lv_at hl 6 rfl) ?_
                        refine lv_iload hx hb dX11_paste_107 (lv_at hl 7 rfl) ?_
                        refine va_copyl (ty := .long) hx hb (by rw [hml]; exact hl.1.symm) hown (hts (.methodLink RX11 402 arraycopyName) (wl_mem 11 rfl)) (hts (.native arraycopyName) (wl_mem 12 rfl)) (hts (.static arraycopyName) (wl_mem 13 rfl)) (hts (.initialized "java/lang/System") (wl_mem 14 rfl)) hK hP hD hS 1 1 1 1 rfl rfl rfl rfl rfl (fun h9 => by have h8 := zi_lt.mp h9; have h8 : p2.toInt < (0 : Int) := h8; omega) (fun h9 => by have h8 := zi_lt.mp h9; have h8 : p4.toInt < (0 : Int) := h8; omega) (fun h9 => by have h8 := zi_lt.mp h9; have h8 : p5.toInt < (0 : Int) := h8; omega) (by have h8 := zc_nat p2 (by show 0 ≤ p2.toInt; omega); have h9 := zc_nat p5 (by show 0 ≤ p5.toInt; omega); have h8 : ((p2).toNatClampNeg : Int) = p2.toInt := h8; have h9 : ((p5).toNatClampNeg : Int) = p5.toInt := h9; omega) (by have h8 := zc_nat p4 (by show 0 ≤ p4.toInt; omega); have h9 := zc_nat p5 (by show 0 ≤ p5.toInt; omega); have h8 : ((p4).toNatClampNeg : Int) = p4.toInt := h8; have h9 : ((p5).toNatClampNeg : Int) = p5.toInt := h9; omega) (fun _ _ => rfl) (Nat.le_of_ble_eq_true rfl) (Nat.le_of_ble_eq_true rfl) dX11_paste_109 (fun H locs hP hD hS => ?_)
                        obtain ⟨fz62, efz62, hP, hD⟩ : ∃ fz62 : Nat → Int64, fz62 = va_cpy (lL0 0) (lL0 0) p2.toNatClampNeg p4.toNatClampNeg p5.toNatClampNeg ∧ va_P (dC, dI) vwCl (List.flatten [(wSlot qL0 k vL0 sL0 (va_up lL0 0 fz62)), (wSlot qL1 k vL1 sL1 lL1), (wSlot qL2 k vL2 sL2 lL2), (wSlot qL3 k vL3 sL3 lL3)] ++ List.flatten [(wSag qX k tapeX toldX actsX nowX trialX storyX attemptX orderSearchX routeSearchX setSearchX probeX (qL0 0) (qL1 0) (qL2 0) (qL3 0) image0X image1X image2X aX)]) H ∧ va_D A (List.flatten [(wSlot qL0 k vL0 sL0 (va_up lL0 0 fz62)), (wSlot qL1 k vL1 sL1 lL1), (wSlot qL2 k vL2 sL2 lL2), (wSlot qL3 k vL3 sL3 lL3)] ++ List.flatten [(wSag qX k tapeX toldX actsX nowX trialX storyX attemptX orderSearchX routeSearchX setSearchX probeX (qL0 0) (qL1 0) (qL2 0) (qL3 0) image0X image1X image2X aX)]) := ⟨_, rfl, hP, hD⟩
                        refine lv_iconst (v := 0) hx hb dX11_paste_112 (by decide) ?_
                        rw [hQ]
                        exact W.iret (v := (0 : Int32)) hx hb hr (fun t ht hW => ⟨⟨(0 : Int32), (), rfl, trivial, vL0, sL0, (va_up lL0 0 fz62), vL1, sL1, lL1, vL2, sL2, lL2, vL3, sL3, lL3, hsL0, hsL1, hsL2, hsL3, (show (vL0 0).toInt = (vL0 0).toInt ∧ (vL0 1).toInt = (vL0 1).toInt ∧ (sL0 0).toInt = (sL0 0).toInt from ⟨rfl, rfl, rfl⟩), (show (vL1 0).toInt = (vL1 0).toInt ∧ (vL1 1).toInt = (vL1 1).toInt ∧ (sL1 0).toInt = (sL1 0).toInt from ⟨rfl, rfl, rfl⟩), (show (vL2 0).toInt = (vL2 0).toInt ∧ (vL2 1).toInt = (vL2 1).toInt ∧ (sL2 0).toInt = (sL2 0).toInt from ⟨rfl, rfl, rfl⟩), (show (vL3 0).toInt = (vL3 0).toInt ∧ (vL3 1).toInt = (vL3 1).toInt ∧ (sL3 0).toInt = (sL3 0).toInt from ⟨rfl, rfl, rfl⟩), by rw [ht]; exact hP⟩, hS.F ht⟩) hS.2.2 dX11_paste_113
                      · skip
                        have zz63 : rz57.toInt = (0 : Int) := zi_eq.mp cz60
                        refine lv_bipush (v := (-7)) hx hb dX11_paste_91 (by decide) ?_
                        rw [hQ]
                        exact W.iret (v := (-7 : Int32)) hx hb hr (fun t ht hW => ⟨⟨(-7 : Int32), (), rfl, trivial, vL0, sL0, lL0, vL1, sL1, lL1, vL2, sL2, lL2, vL3, sL3, lL3, hsL0, hsL1, hsL2, hsL3, (show (vL0 0).toInt = (vL0 0).toInt ∧ (vL0 1).toInt = (vL0 1).toInt ∧ (sL0 0).toInt = (sL0 0).toInt from ⟨rfl, rfl, rfl⟩), (show (vL1 0).toInt = (vL1 0).toInt ∧ (vL1 1).toInt = (vL1 1).toInt ∧ (sL1 0).toInt = (sL1 0).toInt from ⟨rfl, rfl, rfl⟩), (show (vL2 0).toInt = (vL2 0).toInt ∧ (vL2 1).toInt = (vL2 1).toInt ∧ (sL2 0).toInt = (sL2 0).toInt from ⟨rfl, rfl, rfl⟩), (show (vL3 0).toInt = (vL3 0).toInt ∧ (vL3 1).toInt = (vL3 1).toInt ∧ (sL3 0).toInt = (sL3 0).toInt from ⟨rfl, rfl, rfl⟩), by rw [ht]; exact hP⟩, hS.F ht⟩) hS.2.2 dX11_paste_93
                  · skip
                    have zz64 : ¬ (vL0 1).toInt = (vL0 1).toInt := fun h9 => cz46 (zi_eq.mpr h9)
                    exact absurd rfl cz46
                · skip
                  have zz65 : (vL0 0).toInt = (0 : Int) := zi_eq.mp cz44
                  omega
            · skip
              have zz66 : p3.toInt = (1 : Int) := zi_eq.mp cz39
              refine W.eq (g2 := F0 m 30 ls [.int 1, .ref (qX 3)]) (by rw [cz39]) ?_
              refine va_aldq hx hb hK hP 11 6 rfl rfl (by unfold vp_in; decide) dX11_paste_30 ?_
              refine W.eq (g2 := F0 m 31 ls [.ref (qL1 0)]) rfl ?_
              refine lv_astore (lv' := [(7, .ref (qL1 0)), (6, .ref (qL0 0)), (0, .ref (qX 0)), (1, .int p1), (2, .int p2), (3, .int p3), (4, .int p4), (5, .int p5)]) hx hb dX11_paste_31 hl (by decide) rfl (fun ls hl => ?_)
              refine lv_aload hx hb dX11_paste_33 (lv_at hl 1 rfl) ?_
              refine va_get (D := (dC, dI)) (ci := 6) (v := .int (vL0 0)) (C := RX6) (T := TX6) (N := 4) hx hb hts (fun w h => List.mem_cons_of_mem _ (List.mem_append_right _ (List.mem_append_right _ (List.mem_append_right _ (List.mem_append_left _ h))))) hown hK hP 0 rfl rfl 1 (by decide) (hts (.fieldLink RX11 386 "SagMemory$Slot" "has" "Z") (wl_mem 4 rfl)) (fun _ h9 => h9) rfl dX11_paste_35 ?_
              refine lv_if_eq (tgt := 49) hx hb dX11_paste_38 (by decide) (fun cz67 => ?_) (fun cz67 => ?_)
              · skip
                have zz68 : (vL0 0).toInt = (0 : Int) := zi_eq.mp cz67
                refine lv_bipush (v := (-6)) hx hb dX11_paste_49 (by decide) ?_
                rw [hQ]
                exact W.iret (v := (-6 : Int32)) hx hb hr (fun t ht hW => ⟨⟨(-6 : Int32), (), rfl, trivial, vL0, sL0, lL0, vL1, sL1, lL1, vL2, sL2, lL2, vL3, sL3, lL3, hsL0, hsL1, hsL2, hsL3, (show (vL0 0).toInt = (vL0 0).toInt ∧ (vL0 1).toInt = (vL0 1).toInt ∧ (sL0 0).toInt = (sL0 0).toInt from ⟨rfl, rfl, rfl⟩), (show (vL1 0).toInt = (vL1 0).toInt ∧ (vL1 1).toInt = (vL1 1).toInt ∧ (sL1 0).toInt = (sL1 0).toInt from ⟨rfl, rfl, rfl⟩), (show (vL2 0).toInt = (vL2 0).toInt ∧ (vL2 1).toInt = (vL2 1).toInt ∧ (sL2 0).toInt = (sL2 0).toInt from ⟨rfl, rfl, rfl⟩), (show (vL3 0).toInt = (vL3 0).toInt ∧ (vL3 1).toInt = (vL3 1).toInt ∧ (sL3 0).toInt = (sL3 0).toInt from ⟨rfl, rfl, rfl⟩), by rw [ht]; exact hP⟩, hS.F ht⟩) hS.2.2 dX11_paste_51
              · skip
                have zz69 : ¬ (vL0 0).toInt = (0 : Int) := fun h9 => cz67 (zi_eq.mpr h9)
                refine lv_aload hx hb dX11_paste_41 (lv_at hl 0 rfl) ?_
                refine va_get (D := (dC, dI)) (ci := 6) (v := .int (vL1 0)) (C := RX6) (T := TX6) (N := 4) hx hb hts (fun w h => List.mem_cons_of_mem _ (List.mem_append_right _ (List.mem_append_right _ (List.mem_append_right _ (List.mem_append_left _ h))))) hown hK hP 2 rfl rfl 1 (by decide) (hts (.fieldLink RX11 386 "SagMemory$Slot" "has" "Z") (wl_mem 4 rfl)) (fun _ h9 => h9) rfl dX11_paste_43 ?_
                refine lv_if_ne (tgt := 52) hx hb dX11_paste_46 (by decide) (fun cz70 => ?_) (fun cz70 => ?_)
                · skip
                  have zz71 : ¬ (vL1 0).toInt = (0 : Int) := fun h9 => cz70 (zi_eq.mpr h9)
                  refine lv_aload hx hb dX11_paste_52 (lv_at hl 1 rfl) ?_
                  refine va_get (D := (dC, dI)) (ci := 6) (v := .int (vL0 1)) (C := RX6) (T := TX6) (N := 4) hx hb hts (fun w h => List.mem_cons_of_mem _ (List.mem_append_right _ (List.mem_append_right _ (List.mem_append_right _ (List.mem_append_left _ h))))) hown hK hP 0 rfl rfl 2 (by decide) (hts (.fieldLink RX11 396 "SagMemory$Slot" "width" "I") (wl_mem 5 rfl)) (fun _ h9 => h9) rfl dX11_paste_54 ?_
                  refine lv_aload hx hb dX11_paste_57 (lv_at hl 0 rfl) ?_
                  refine va_get (D := (dC, dI)) (ci := 6) (v := .int (vL1 1)) (C := RX6) (T := TX6) (N := 4) hx hb hts (fun w h => List.mem_cons_of_mem _ (List.mem_append_right _ (List.mem_append_right _ (List.mem_append_right _ (List.mem_append_left _ h))))) hown hK hP 2 rfl rfl 2 (by decide) (hts (.fieldLink RX11 396 "SagMemory$Slot" "width" "I") (wl_mem 5 rfl)) (fun _ h9 => h9) rfl dX11_paste_59 ?_
                  refine lv_icmp_eq (tgt := 68) hx hb dX11_paste_62 (by decide) (fun cz72 => ?_) (fun cz72 => ?_)
                  · skip
                    have zz73 : (vL0 1).toInt = (vL1 1).toInt := zi_eq.mp cz72
                    refine lv_aload hx hb dX11_paste_68 (lv_at hl 1 rfl) ?_
                    refine lv_iload_n hx hb dX11_paste_70 rfl (lv_at hl 4 rfl) ?_
                    refine lv_iload hx hb dX11_paste_71 (lv_at hl 7 rfl) ?_
                    have hPc := hP.sub (ws' := (List.flatten [(wSlot qL0 k vL0 sL0 lL0)])) [0, 1] rfl
                    refine vp_callSi (va_Run.run (va_runV (As := [.int p2, .int p5]) (rest := []) ⟨hx, hb, hml, hown, hts⟩ (c_X6_spans_x l dC dI k qL0 vL0 sL0 lL0 p2 p5 hsL0) (cwV 2 hts (gk_V (wl_mem 6 rfl) (wl_mem 7 rfl) (wl_mem 8 rfl) (wl_mem 9 rfl) (fun w h => List.mem_cons_of_mem _ (List.mem_append_right _ (List.mem_append_right _ (List.mem_append_right _ (List.mem_append_right _ (List.mem_append_left _ h)))))) wkg_c_X6_spans_x) rfl rfl rfl (by decide +kernel) ⟨Nat.le_of_ble_eq_true rfl, Nat.le_of_ble_eq_true rfl⟩) ⟨fun a U g mk q => by obtain ⟨q0, qP, qK⟩ := q; exact ⟨q0, qP, va_K.moved (u := U) (U := U.calling g mk a) (Vm.Alike.refl U.vm) qK⟩, va_recv hK hPc (ci := 6) (q0 := 0) rfl rfl, fun U hU hW => ⟨rfl, by rw [hU]; exact hPc, va_K.moved hW.alike hK⟩⟩ rfl rfl hl.1 rfl (lv_room (Nat.le_of_ble_eq_true rfl)) dX11_paste_73 ⟨Nat.le_of_ble_eq_true rfl, Nat.le_of_ble_eq_true rfl⟩)) (fun rz75 gz74 => ?_)
                    clear hPc
                    obtain ⟨pz76, pz77⟩ := gz74
                    have pz76 : (rz75.toInt = 0 ∧ (p2.toInt < 0 ∨ p5.toInt < 0 ∨ (sL0 0).toInt < p2.toInt + p5.toInt)) ∨ (rz75.toInt = 1 ∧ 0 ≤ p2.toInt ∧ 0 ≤ p5.toInt ∧ p2.toInt + p5.toInt ≤ (sL0 0).toInt) := pz76
                    have pz77 : rz75.toInt = 0 ∨ rz75.toInt = 1 := pz77
                    have bz78 := hsL0 0
                    refine lv_if_eq (tgt := 91) hx hb dX11_paste_76 (by decide) (fun cz79 => ?_) (fun cz79 => ?_)
                    · skip
                      have zz80 : rz75.toInt = (0 : Int) := zi_eq.mp cz79
                      refine lv_bipush (v := (-7)) hx hb dX11_paste_91 (by decide) ?_
                      rw [hQ]
                      exact W.iret (v := (-7 : Int32)) hx hb hr (fun t ht hW => ⟨⟨(-7 : Int32), (), rfl, trivial, vL0, sL0, lL0, vL1, sL1, lL1, vL2, sL2, lL2, vL3, sL3, lL3, hsL0, hsL1, hsL2, hsL3, (show (vL0 0).toInt = (vL0 0).toInt ∧ (vL0 1).toInt = (vL0 1).toInt ∧ (sL0 0).toInt = (sL0 0).toInt from ⟨rfl, rfl, rfl⟩), (show (vL1 0).toInt = (vL1 0).toInt ∧ (vL1 1).toInt = (vL1 1).toInt ∧ (sL1 0).toInt = (sL1 0).toInt from ⟨rfl, rfl, rfl⟩), (show (vL2 0).toInt = (vL2 0).toInt ∧ (vL2 1).toInt = (vL2 1).toInt ∧ (sL2 0).toInt = (sL2 0).toInt from ⟨rfl, rfl, rfl⟩), (show (vL3 0).toInt = (vL3 0).toInt ∧ (vL3 1).toInt = (vL3 1).toInt ∧ (sL3 0).toInt = (sL3 0).toInt from ⟨rfl, rfl, rfl⟩), by rw [ht]; exact hP⟩, hS.F ht⟩) hS.2.2 dX11_paste_93
                    · skip
                      have zz81 : ¬ rz75.toInt = (0 : Int) := fun h9 => cz79 (zi_eq.mpr h9)
                      refine lv_aload hx hb dX11_paste_79 (lv_at hl 0 rfl) ?_
                      refine lv_iload hx hb dX11_paste_81 (lv_at hl 6 rfl) ?_
                      refine lv_iload hx hb dX11_paste_83 (lv_at hl 7 rfl) ?_
                      have hPc := hP.sub (ws' := (List.flatten [(wSlot qL1 k vL1 sL1 lL1)])) [2, 3] rfl
                      refine vp_callSi (va_Run.run (va_runV (As := [.int p4, .int p5]) (rest := []) ⟨hx, hb, hml, hown, hts⟩ (c_X6_spans_x l dC dI k qL1 vL1 sL1 lL1 p4 p5 hsL1) (cwV 2 hts (gk_V (wl_mem 6 rfl) (wl_mem 7 rfl) (wl_mem 8 rfl) (wl_mem 9 rfl) (fun w h => List.mem_cons_of_mem _ (List.mem_append_right _ (List.mem_append_right _ (List.mem_append_right _ (List.mem_append_right _ (List.mem_append_left _ h)))))) wkg_c_X6_spans_x) rfl rfl rfl (by decide +kernel) ⟨Nat.le_of_ble_eq_true rfl, Nat.le_of_ble_eq_true rfl⟩) ⟨fun a U g mk q => by obtain ⟨q0, qP, qK⟩ := q; exact ⟨q0, qP, va_K.moved (u := U) (U := U.calling g mk a) (Vm.Alike.refl U.vm) qK⟩, va_recv hK hPc (ci := 6) (q0 := 0) rfl rfl, fun U hU hW => ⟨rfl, by rw [hU]; exact hPc, va_K.moved hW.alike hK⟩⟩ rfl rfl hl.1 rfl (lv_room (Nat.le_of_ble_eq_true rfl)) dX11_paste_85 ⟨Nat.le_of_ble_eq_true rfl, Nat.le_of_ble_eq_true rfl⟩)) (fun rz83 gz82 => ?_)
                      clear hPc
                      obtain ⟨pz84, pz85⟩ := gz82
                      have pz84 : (rz83.toInt = 0 ∧ (p4.toInt < 0 ∨ p5.toInt < 0 ∨ (sL1 0).toInt < p4.toInt + p5.toInt)) ∨ (rz83.toInt = 1 ∧ 0 ≤ p4.toInt ∧ 0 ≤ p5.toInt ∧ p4.toInt + p5.toInt ≤ (sL1 0).toInt) := pz84
                      have pz85 : rz83.toInt = 0 ∨ rz83.toInt = 1 := pz85
                      have bz86 := hsL1 0
                      refine lv_if_ne (tgt := 94) hx hb dX11_paste_88 (by decide) (fun cz87 => ?_) (fun cz87 => ?_)
                      · skip
                        have zz88 : ¬ rz83.toInt = (0 : Int) := fun h9 => cz87 (zi_eq.mpr h9)
                        refine lv_aload hx hb dX11_paste_94 (lv_at hl 1 rfl) ?_
                        refine va_get (D := (dC, dI)) (ci := 6) (v := .ref (qL0 1)) (C := RX6) (T := TX6) (N := 4) hx hb hts (fun w h => List.mem_cons_of_mem _ (List.mem_append_right _ (List.mem_append_right _ (List.mem_append_right _ (List.mem_append_left _ h))))) hown hK hP 0 rfl rfl 0 (by decide) (hts (.fieldLink RX11 388 "SagMemory$Slot" "numbers" "[J") (wl_mem 10 rfl)) (fun _ h9 => h9) rfl dX11_paste_96 ?_
                        refine lv_iload_n hx hb dX11_paste_99 rfl (lv_at hl 4 rfl) ?_
                        refine lv_aload hx hb dX11_paste_100 (lv_at hl 0 rfl) ?_
                        refine va_get (D := (dC, dI)) (ci := 6) (v := .ref (qL1 1)) (C := RX6) (T := TX6) (N := 4) hx hb hts (fun w h => List.mem_cons_of_mem _ (List.mem_append_right _ (List.mem_append_right _ (List.mem_append_right _ (List.mem_append_left _ h))))) hown hK hP 2 rfl rfl 0 (by decide) (hts (.fieldLink RX11 388 "SagMemory$Slot" "numbers" "[J") (wl_mem 10 rfl)) (fun _ h9 => h9) rfl dX11_paste_102 ?_
                        refine lv_iload hx hb dX11_paste_105 (lv_at hl 6 rfl) ?_
                        refine lv_iload hx hb dX11_paste_107 (lv_at hl 7 rfl) ?_
                        refine va_copyl (ty := .long) hx hb (by rw [hml]; exact hl.1.symm) hown (hts (.methodLink RX11 402 arraycopyName) (wl_mem 11 rfl)) (hts (.native arraycopyName) (wl_mem 12 rfl)) (hts (.static arraycopyName) (wl_mem 13 rfl)) (hts (.initialized "java/lang/System") (wl_mem 14 rfl)) hK hP hD hS 1 3 1 1 rfl rfl rfl rfl rfl (fun h9 => by have h8 := zi_lt.mp h9; have h8 : p2.toInt < (0 : Int) := h8; omega) (fun h9 => by have h8 := zi_lt.mp h9; have h8 : p4.toInt < (0 : Int) := h8; omega) (fun h9 => by have h8 := zi_lt.mp h9; have h8 : p5.toInt < (0 : Int) := h8; omega) (by have h8 := zc_nat p2 (by show 0 ≤ p2.toInt; omega); have h9 := zc_nat p5 (by show 0 ≤ p5.toInt; omega); have h8 : ((p2).toNatClampNeg : Int) = p2.toInt := h8; have h9 : ((p5).toNatClampNeg : Int) = p5.toInt := h9; omega) (by have h8 := zc_nat p4 (by show 0 ≤ p4.toInt; omega); have h9 := zc_nat p5 (by show 0 ≤ p5.toInt; omega); have h8 : ((p4).toNatClampNeg : Int) = p4.toInt := h8; have h9 : ((p5).toNatClampNeg : Int) = p5.toInt := h9; omega) (fun _ _ => rfl) (Nat.le_of_ble_eq_true rfl) (Nat.le_of_ble_eq_true rfl) dX11_paste_109 (fun H locs hP hD hS => ?_)
                        obtain ⟨fz89, efz89, hP, hD⟩ : ∃ fz89 : Nat → Int64, fz89 = va_cpy (lL0 0) (lL1 0) p2.toNatClampNeg p4.toNatClampNeg p5.toNatClampNeg ∧ va_P (dC, dI) vwCl (List.flatten [(wSlot qL0 k vL0 sL0 lL0), (wSlot qL1 k vL1 sL1 (va_up lL1 0 fz89)), (wSlot qL2 k vL2 sL2 lL2), (wSlot qL3 k vL3 sL3 lL3)] ++ List.flatten [(wSag qX k tapeX toldX actsX nowX trialX storyX attemptX orderSearchX routeSearchX setSearchX probeX (qL0 0) (qL1 0) (qL2 0) (qL3 0) image0X image1X image2X aX)]) H ∧ va_D A (List.flatten [(wSlot qL0 k vL0 sL0 lL0), (wSlot qL1 k vL1 sL1 (va_up lL1 0 fz89)), (wSlot qL2 k vL2 sL2 lL2), (wSlot qL3 k vL3 sL3 lL3)] ++ List.flatten [(wSag qX k tapeX toldX actsX nowX trialX storyX attemptX orderSearchX routeSearchX setSearchX probeX (qL0 0) (qL1 0) (qL2 0) (qL3 0) image0X image1X image2X aX)]) := ⟨_, rfl, hP, hD⟩
                        refine lv_iconst (v := 0) hx hb dX11_paste_112 (by decide) ?_
                        rw [hQ]
                        exact W.iret (v := (0 : Int32)) hx hb hr (fun t ht hW => ⟨⟨(0 : Int32), (), rfl, trivial, vL0, sL0, lL0, vL1, sL1, (va_up lL1 0 fz89), vL2, sL2, lL2, vL3, sL3, lL3, hsL0, hsL1, hsL2, hsL3, (show (vL0 0).toInt = (vL0 0).toInt ∧ (vL0 1).toInt = (vL0 1).toInt ∧ (sL0 0).toInt = (sL0 0).toInt from ⟨rfl, rfl, rfl⟩), (show (vL1 0).toInt = (vL1 0).toInt ∧ (vL1 1).toInt = (vL1 1).toInt ∧ (sL1 0).toInt = (sL1 0).toInt from ⟨rfl, rfl, rfl⟩), (show (vL2 0).toInt = (vL2 0).toInt ∧ (vL2 1).toInt = (vL2 1).toInt ∧ (sL2 0).toInt = (sL2 0).toInt from ⟨rfl, rfl, rfl⟩), (show (vL3 0).toInt = (vL3 0).toInt ∧ (vL3 1).toInt = (vL3 1).toInt ∧ (sL3 0).toInt = (sL3 0).toInt from ⟨rfl, rfl, rfl⟩), by rw [ht]; exact hP⟩, hS.F ht⟩) hS.2.2 dX11_paste_113
                      · skip
                        have zz90 : rz83.toInt = (0 : Int) := zi_eq.mp cz87
                        refine lv_bipush (v := (-7)) hx hb dX11_paste_91 (by decide) ?_
                        rw [hQ]
                        exact W.iret (v := (-7 : Int32)) hx hb hr (fun t ht hW => ⟨⟨(-7 : Int32), (), rfl, trivial, vL0, sL0, lL0, vL1, sL1, lL1, vL2, sL2, lL2, vL3, sL3, lL3, hsL0, hsL1, hsL2, hsL3, (show (vL0 0).toInt = (vL0 0).toInt ∧ (vL0 1).toInt = (vL0 1).toInt ∧ (sL0 0).toInt = (sL0 0).toInt from ⟨rfl, rfl, rfl⟩), (show (vL1 0).toInt = (vL1 0).toInt ∧ (vL1 1).toInt = (vL1 1).toInt ∧ (sL1 0).toInt = (sL1 0).toInt from ⟨rfl, rfl, rfl⟩), (show (vL2 0).toInt = (vL2 0).toInt ∧ (vL2 1).toInt = (vL2 1).toInt ∧ (sL2 0).toInt = (sL2 0).toInt from ⟨rfl, rfl, rfl⟩), (show (vL3 0).toInt = (vL3 0).toInt ∧ (vL3 1).toInt = (vL3 1).toInt ∧ (sL3 0).toInt = (sL3 0).toInt from ⟨rfl, rfl, rfl⟩), by rw [ht]; exact hP⟩, hS.F ht⟩) hS.2.2 dX11_paste_93
                  · skip
                    have zz91 : ¬ (vL0 1).toInt = (vL1 1).toInt := fun h9 => cz72 (zi_eq.mpr h9)
                    refine lv_bipush (v := (-8)) hx hb dX11_paste_65 (by decide) ?_
                    rw [hQ]
                    exact W.iret (v := (-8 : Int32)) hx hb hr (fun t ht hW => ⟨⟨(-8 : Int32), (), rfl, trivial, vL0, sL0, lL0, vL1, sL1, lL1, vL2, sL2, lL2, vL3, sL3, lL3, hsL0, hsL1, hsL2, hsL3, (show (vL0 0).toInt = (vL0 0).toInt ∧ (vL0 1).toInt = (vL0 1).toInt ∧ (sL0 0).toInt = (sL0 0).toInt from ⟨rfl, rfl, rfl⟩), (show (vL1 0).toInt = (vL1 0).toInt ∧ (vL1 1).toInt = (vL1 1).toInt ∧ (sL1 0).toInt = (sL1 0).toInt from ⟨rfl, rfl, rfl⟩), (show (vL2 0).toInt = (vL2 0).toInt ∧ (vL2 1).toInt = (vL2 1).toInt ∧ (sL2 0).toInt = (sL2 0).toInt from ⟨rfl, rfl, rfl⟩), (show (vL3 0).toInt = (vL3 0).toInt ∧ (vL3 1).toInt = (vL3 1).toInt ∧ (sL3 0).toInt = (sL3 0).toInt from ⟨rfl, rfl, rfl⟩), by rw [ht]; exact hP⟩, hS.F ht⟩) hS.2.2 dX11_paste_67
                · skip
                  have zz92 : (vL1 0).toInt = (0 : Int) := zi_eq.mp cz70
                  refine lv_bipush (v := (-6)) hx hb dX11_paste_49 (by decide) ?_
                  rw [hQ]
                  exact W.iret (v := (-6 : Int32)) hx hb hr (fun t ht hW => ⟨⟨(-6 : Int32), (), rfl, trivial, vL0, sL0, lL0, vL1, sL1, lL1, vL2, sL2, lL2, vL3, sL3, lL3, hsL0, hsL1, hsL2, hsL3, (show (vL0 0).toInt = (vL0 0).toInt ∧ (vL0 1).toInt = (vL0 1).toInt ∧ (sL0 0).toInt = (sL0 0).toInt from ⟨rfl, rfl, rfl⟩), (show (vL1 0).toInt = (vL1 0).toInt ∧ (vL1 1).toInt = (vL1 1).toInt ∧ (sL1 0).toInt = (sL1 0).toInt from ⟨rfl, rfl, rfl⟩), (show (vL2 0).toInt = (vL2 0).toInt ∧ (vL2 1).toInt = (vL2 1).toInt ∧ (sL2 0).toInt = (sL2 0).toInt from ⟨rfl, rfl, rfl⟩), (show (vL3 0).toInt = (vL3 0).toInt ∧ (vL3 1).toInt = (vL3 1).toInt ∧ (sL3 0).toInt = (sL3 0).toInt from ⟨rfl, rfl, rfl⟩), by rw [ht]; exact hP⟩, hS.F ht⟩) hS.2.2 dX11_paste_51
            · skip
              have zz93 : p3.toInt = (2 : Int) := zi_eq.mp cz39
              refine W.eq (g2 := F0 m 30 ls [.int 2, .ref (qX 3)]) (by rw [cz39]) ?_
              refine va_aldq hx hb hK hP 11 6 rfl rfl (by unfold vp_in; decide) dX11_paste_30 ?_
              refine W.eq (g2 := F0 m 31 ls [.ref (qL2 0)]) rfl ?_
              refine lv_astore (lv' := [(7, .ref (qL2 0)), (6, .ref (qL0 0)), (0, .ref (qX 0)), (1, .int p1), (2, .int p2), (3, .int p3), (4, .int p4), (5, .int p5)]) hx hb dX11_paste_31 hl (by decide) rfl (fun ls hl => ?_)
              refine lv_aload hx hb dX11_paste_33 (lv_at hl 1 rfl) ?_
              refine va_get (D := (dC, dI)) (ci := 6) (v := .int (vL0 0)) (C := RX6) (T := TX6) (N := 4) hx hb hts (fun w h => List.mem_cons_of_mem _ (List.mem_append_right _ (List.mem_append_right _ (List.mem_append_right _ (List.mem_append_left _ h))))) hown hK hP 0 rfl rfl 1 (by decide) (hts (.fieldLink RX11 386 "SagMemory$Slot" "has" "Z") (wl_mem 4 rfl)) (fun _ h9 => h9) rfl dX11_paste_35 ?_
              refine lv_if_eq (tgt := 49) hx hb dX11_paste_38 (by decide) (fun cz94 => ?_) (fun cz94 => ?_)
              · skip
                have zz95 : (vL0 0).toInt = (0 : Int) := zi_eq.mp cz94
                refine lv_bipush (v := (-6)) hx hb dX11_paste_49 (by decide) ?_
                rw [hQ]
                exact W.iret (v := (-6 : Int32)) hx hb hr (fun t ht hW => ⟨⟨(-6 : Int32), (), rfl, trivial, vL0, sL0, lL0, vL1, sL1, lL1, vL2, sL2, lL2, vL3, sL3, lL3, hsL0, hsL1, hsL2, hsL3, (show (vL0 0).toInt = (vL0 0).toInt ∧ (vL0 1).toInt = (vL0 1).toInt ∧ (sL0 0).toInt = (sL0 0).toInt from ⟨rfl, rfl, rfl⟩), (show (vL1 0).toInt = (vL1 0).toInt ∧ (vL1 1).toInt = (vL1 1).toInt ∧ (sL1 0).toInt = (sL1 0).toInt from ⟨rfl, rfl, rfl⟩), (show (vL2 0).toInt = (vL2 0).toInt ∧ (vL2 1).toInt = (vL2 1).toInt ∧ (sL2 0).toInt = (sL2 0).toInt from ⟨rfl, rfl, rfl⟩), (show (vL3 0).toInt = (vL3 0).toInt ∧ (vL3 1).toInt = (vL3 1).toInt ∧ (sL3 0).toInt = (sL3 0).toInt from ⟨rfl, rfl, rfl⟩), by rw [ht]; exact hP⟩, hS.F ht⟩) hS.2.2 dX11_paste_51
              · skip
                have zz96 : ¬ (vL0 0).toInt = (0 : Int) := fun h9 => cz94 (zi_eq.mpr h9)
                refine lv_aload hx hb dX11_paste_41 (lv_at hl 0 rfl) ?_
                refine va_get (D := (dC, dI)) (ci := 6) (v := .int (vL2 0)) (C := RX6) (T := TX6) (N := 4) hx hb hts (fun w h => List.mem_cons_of_mem _ (List.mem_append_right _ (List.mem_append_right _ (List.mem_append_right _ (List.mem_append_left _ h))))) hown hK hP 4 rfl rfl 1 (by decide) (hts (.fieldLink RX11 386 "SagMemory$Slot" "has" "Z") (wl_mem 4 rfl)) (fun _ h9 => h9) rfl dX11_paste_43 ?_
                refine lv_if_ne (tgt := 52) hx hb dX11_paste_46 (by decide) (fun cz97 => ?_) (fun cz97 => ?_)
                · skip
                  have zz98 : ¬ (vL2 0).toInt = (0 : Int) := fun h9 => cz97 (zi_eq.mpr h9)
                  refine lv_aload hx hb dX11_paste_52 (lv_at hl 1 rfl) ?_
                  refine va_get (D := (dC, dI)) (ci := 6) (v := .int (vL0 1)) (C := RX6) (T := TX6) (N := 4) hx hb hts (fun w h => List.mem_cons_of_mem _ (List.mem_append_right _ (List.mem_append_right _ (List.mem_append_right _ (List.mem_append_left _ h))))) hown hK hP 0 rfl rfl 2 (by decide) (hts (.fieldLink RX11 396 "SagMemory$Slot" "width" "I") (wl_mem 5 rfl)) (fun _ h9 => h9) rfl dX11_paste_54 ?_
                  refine lv_aload hx hb dX11_paste_57 (lv_at hl 0 rfl) ?_
                  refine va_get (D := (dC, dI)) (ci := 6) (v := .int (vL2 1)) (C := RX6) (T := TX6) (N := 4) hx hb hts (fun w h => List.mem_cons_of_mem _ (List.mem_append_right _ (List.mem_append_right _ (List.mem_append_right _ (List.mem_append_left _ h))))) hown hK hP 4 rfl rfl 2 (by decide) (hts (.fieldLink RX11 396 "SagMemory$Slot" "width" "I") (wl_mem 5 rfl)) (fun _ h9 => h9) rfl dX11_paste_59 ?_
                  refine lv_icmp_eq (tgt := 68) hx hb dX11_paste_62 (by decide) (fun cz99 => ?_) (fun cz99 => ?_)
                  · skip
                    have zz100 : (vL0 1).toInt = (vL2 1).toInt := zi_eq.mp cz99
                    refine lv_aload hx hb dX11_paste_68 (lv_at hl 1 rfl) ?_
                    refine lv_iload_n hx hb dX11_paste_70 rfl (lv_at hl 4 rfl) ?_
                    refine lv_iload hx hb dX11_paste_71 (lv_at hl 7 rfl) ?_
                    have hPc := hP.sub (ws' := (List.flatten [(wSlot qL0 k vL0 sL0 lL0)])) [0, 1] rfl
                    refine vp_callSi (va_Run.run (va_runV (As := [.int p2, .int p5]) (rest := []) ⟨hx, hb, hml, hown, hts⟩ (c_X6_spans_x l dC dI k qL0 vL0 sL0 lL0 p2 p5 hsL0) (cwV 2 hts (gk_V (wl_mem 6 rfl) (wl_mem 7 rfl) (wl_mem 8 rfl) (wl_mem 9 rfl) (fun w h => List.mem_cons_of_mem _ (List.mem_append_right _ (List.mem_append_right _ (List.mem_append_right _ (List.mem_append_right _ (List.mem_append_left _ h)))))) wkg_c_X6_spans_x) rfl rfl rfl (by decide +kernel) ⟨Nat.le_of_ble_eq_true rfl, Nat.le_of_ble_eq_true rfl⟩) ⟨fun a U g mk q => by obtain ⟨q0, qP, qK⟩ := q; exact ⟨q0, qP, va_K.moved (u := U) (U := U.calling g mk a) (Vm.Alike.refl U.vm) qK⟩, va_recv hK hPc (ci := 6) (q0 := 0) rfl rfl, fun U hU hW => ⟨rfl, by rw [hU]; exact hPc, va_K.moved hW.alike hK⟩⟩ rfl rfl hl.1 rfl (lv_room (Nat.le_of_ble_eq_true rfl)) dX11_paste_73 ⟨Nat.le_of_ble_eq_true rfl, Nat.le_of_ble_eq_true rfl⟩)) (fun rz102 gz101 => ?_)
                    clear hPc
                    obtain ⟨pz103, pz104⟩ := gz101
                    have pz103 : (rz102.toInt = 0 ∧ (p2.toInt < 0 ∨ p5.toInt < 0 ∨ (sL0 0).toInt < p2.toInt + p5.toInt)) ∨ (rz102.toInt = 1 ∧ 0 ≤ p2.toInt ∧ 0 ≤ p5.toInt ∧ p2.toInt + p5.toInt ≤ (sL0 0).toInt) := pz103
                    have pz104 : rz102.toInt = 0 ∨ rz102.toInt = 1 := pz104
                    have bz105 := hsL0 0
                    refine lv_if_eq (tgt := 91) hx hb dX11_paste_76 (by decide) (fun cz106 => ?_) (fun cz106 => ?_)
                    · skip
                      have zz107 : rz102.toInt = (0 : Int) := zi_eq.mp cz106
                      refine lv_bipush (v := (-7)) hx hb dX11_paste_91 (by decide) ?_
                      rw [hQ]
                      exact W.iret (v := (-7 : Int32)) hx hb hr (fun t ht hW => ⟨⟨(-7 : Int32), (), rfl, trivial, vL0, sL0, lL0, vL1, sL1, lL1, vL2, sL2, lL2, vL3, sL3, lL3, hsL0, hsL1, hsL2, hsL3, (show (vL0 0).toInt = (vL0 0).toInt ∧ (vL0 1).toInt = (vL0 1).toInt ∧ (sL0 0).toInt = (sL0 0).toInt from ⟨rfl, rfl, rfl⟩), (show (vL1 0).toInt = (vL1 0).toInt ∧ (vL1 1).toInt = (vL1 1).toInt ∧ (sL1 0).toInt = (sL1 0).toInt from ⟨rfl, rfl, rfl⟩), (show (vL2 0).toInt = (vL2 0).toInt ∧ (vL2 1).toInt = (vL2 1).toInt ∧ (sL2 0).toInt = (sL2 0).toInt from ⟨rfl, rfl, rfl⟩), (show (vL3 0).toInt = (vL3 0).toInt ∧ (vL3 1).toInt = (vL3 1).toInt ∧ (sL3 0).toInt = (sL3 0).toInt from ⟨rfl, rfl, rfl⟩), by rw [ht]; exact hP⟩, hS.F ht⟩) hS.2.2 dX11_paste_93
                    · skip
                      have zz108 : ¬ rz102.toInt = (0 : Int) := fun h9 => cz106 (zi_eq.mpr h9)
                      refine lv_aload hx hb dX11_paste_79 (lv_at hl 0 rfl) ?_
                      refine lv_iload hx hb dX11_paste_81 (lv_at hl 6 rfl) ?_
                      refine lv_iload hx hb dX11_paste_83 (lv_at hl 7 rfl) ?_
                      have hPc := hP.sub (ws' := (List.flatten [(wSlot qL2 k vL2 sL2 lL2)])) [4, 5] rfl
                      refine vp_callSi (va_Run.run (va_runV (As := [.int p4, .int p5]) (rest := []) ⟨hx, hb, hml, hown, hts⟩ (c_X6_spans_x l dC dI k qL2 vL2 sL2 lL2 p4 p5 hsL2) (cwV 2 hts (gk_V (wl_mem 6 rfl) (wl_mem 7 rfl) (wl_mem 8 rfl) (wl_mem 9 rfl) (fun w h => List.mem_cons_of_mem _ (List.mem_append_right _ (List.mem_append_right _ (List.mem_append_right _ (List.mem_append_right _ (List.mem_append_left _ h)))))) wkg_c_X6_spans_x) rfl rfl rfl (by decide +kernel) ⟨Nat.le_of_ble_eq_true rfl, Nat.le_of_ble_eq_true rfl⟩) ⟨fun a U g mk q => by obtain ⟨q0, qP, qK⟩ := q; exact ⟨q0, qP, va_K.moved (u := U) (U := U.calling g mk a) (Vm.Alike.refl U.vm) qK⟩, va_recv hK hPc (ci := 6) (q0 := 0) rfl rfl, fun U hU hW => ⟨rfl, by rw [hU]; exact hPc, va_K.moved hW.alike hK⟩⟩ rfl rfl hl.1 rfl (lv_room (Nat.le_of_ble_eq_true rfl)) dX11_paste_85 ⟨Nat.le_of_ble_eq_true rfl, Nat.le_of_ble_eq_true rfl⟩)) (fun rz110 gz109 => ?_)
                      clear hPc
                      obtain ⟨pz111, pz112⟩ := gz109
                      have pz111 : (rz110.toInt = 0 ∧ (p4.toInt < 0 ∨ p5.toInt < 0 ∨ (sL2 0).toInt < p4.toInt + p5.toInt)) ∨ (rz110.toInt = 1 ∧ 0 ≤ p4.toInt ∧ 0 ≤ p5.toInt ∧ p4.toInt + p5.toInt ≤ (sL2 0).toInt) := pz111
                      have pz112 : rz110.toInt = 0 ∨ rz110.toInt = 1 := pz112
                      have bz113 := hsL2 0
                      refine lv_if_ne (tgt := 94) hx hb dX11_paste_88 (by decide) (fun cz114 => ?_) (fun cz114 => ?_)
                      · skip
                        have zz115 : ¬ rz110.toInt = (0 : Int) := fun h9 => cz114 (zi_eq.mpr h9)
                        refine lv_aload hx hb dX11_paste_94 (lv_at hl 1 rfl) ?_
                        refine va_get (D := (dC, dI)) (ci := 6) (v := .ref (qL0 1)) (C := RX6) (T := TX6) (N := 4) hx hb hts (fun w h => List.mem_cons_of_mem _ (List.mem_append_right _ (List.mem_append_right _ (List.mem_append_right _ (List.mem_append_left _ h))))) hown hK hP 0 rfl rfl 0 (by decide) (hts (.fieldLink RX11 388 "SagMemory$Slot" "numbers" "[J") (wl_mem 10 rfl)) (fun _ h9 => h9) rfl dX11_paste_96 ?_
                        refine lv_iload_n hx hb dX11_paste_99 rfl (lv_at hl 4 rfl) ?_
                        refine lv_aload hx hb dX11_paste_100 (lv_at hl 0 rfl) ?_
                        refine va_get (D := (dC, dI)) (ci := 6) (v := .ref (qL2 1)) (C := RX6) (T := TX6) (N := 4) hx hb hts (fun w h => List.mem_cons_of_mem _ (List.mem_append_right _ (List.mem_append_right _ (List.mem_append_right _ (List.mem_append_left _ h))))) hown hK hP 4 rfl rfl 0 (by decide) (hts (.fieldLink RX11 388 "SagMemory$Slot" "numbers" "[J") (wl_mem 10 rfl)) (fun _ h9 => h9) rfl dX11_paste_102 ?_
                        refine lv_iload hx hb dX11_paste_105 (lv_at hl 6 rfl) ?_
                        refine lv_iload hx hb dX11_paste_107 (lv_at hl 7 rfl) ?_
                        refine va_copyl (ty := .long) hx hb (by rw [hml]; exact hl.1.symm) hown (hts (.methodLink RX11 402 arraycopyName) (wl_mem 11 rfl)) (hts (.native arraycopyName) (wl_mem 12 rfl)) (hts (.static arraycopyName) (wl_mem 13 rfl)) (hts (.initialized "java/lang/System") (wl_mem 14 rfl)) hK hP hD hS 1 5 1 1 rfl rfl rfl rfl rfl (fun h9 => by have h8 := zi_lt.mp h9; have h8 : p2.toInt < (0 : Int) := h8; omega) (fun h9 => by have h8 := zi_lt.mp h9; have h8 : p4.toInt < (0 : Int) := h8; omega) (fun h9 => by have h8 := zi_lt.mp h9; have h8 : p5.toInt < (0 : Int) := h8; omega) (by have h8 := zc_nat p2 (by show 0 ≤ p2.toInt; omega); have h9 := zc_nat p5 (by show 0 ≤ p5.toInt; omega); have h8 : ((p2).toNatClampNeg : Int) = p2.toInt := h8; have h9 : ((p5).toNatClampNeg : Int) = p5.toInt := h9; omega) (by have h8 := zc_nat p4 (by show 0 ≤ p4.toInt; omega); have h9 := zc_nat p5 (by show 0 ≤ p5.toInt; omega); have h8 : ((p4).toNatClampNeg : Int) = p4.toInt := h8; have h9 : ((p5).toNatClampNeg : Int) = p5.toInt := h9; omega) (fun _ _ => rfl) (Nat.le_of_ble_eq_true rfl) (Nat.le_of_ble_eq_true rfl) dX11_paste_109 (fun H locs hP hD hS => ?_)
                        obtain ⟨fz116, efz116, hP, hD⟩ : ∃ fz116 : Nat → Int64, fz116 = va_cpy (lL0 0) (lL2 0) p2.toNatClampNeg p4.toNatClampNeg p5.toNatClampNeg ∧ va_P (dC, dI) vwCl (List.flatten [(wSlot qL0 k vL0 sL0 lL0), (wSlot qL1 k vL1 sL1 lL1), (wSlot qL2 k vL2 sL2 (va_up lL2 0 fz116)), (wSlot qL3 k vL3 sL3 lL3)] ++ List.flatten [(wSag qX k tapeX toldX actsX nowX trialX storyX attemptX orderSearchX routeSearchX setSearchX probeX (qL0 0) (qL1 0) (qL2 0) (qL3 0) image0X image1X image2X aX)]) H ∧ va_D A (List.flatten [(wSlot qL0 k vL0 sL0 lL0), (wSlot qL1 k vL1 sL1 lL1), (wSlot qL2 k vL2 sL2 (va_up lL2 0 fz116)), (wSlot qL3 k vL3 sL3 lL3)] ++ List.flatten [(wSag qX k tapeX toldX actsX nowX trialX storyX attemptX orderSearchX routeSearchX setSearchX probeX (qL0 0) (qL1 0) (qL2 0) (qL3 0) image0X image1X image2X aX)]) := ⟨_, rfl, hP, hD⟩
                        refine lv_iconst (v := 0) hx hb dX11_paste_112 (by decide) ?_
                        rw [hQ]
                        exact W.iret (v := (0 : Int32)) hx hb hr (fun t ht hW => ⟨⟨(0 : Int32), (), rfl, trivial, vL0, sL0, lL0, vL1, sL1, lL1, vL2, sL2, (va_up lL2 0 fz116), vL3, sL3, lL3, hsL0, hsL1, hsL2, hsL3, (show (vL0 0).toInt = (vL0 0).toInt ∧ (vL0 1).toInt = (vL0 1).toInt ∧ (sL0 0).toInt = (sL0 0).toInt from ⟨rfl, rfl, rfl⟩), (show (vL1 0).toInt = (vL1 0).toInt ∧ (vL1 1).toInt = (vL1 1).toInt ∧ (sL1 0).toInt = (sL1 0).toInt from ⟨rfl, rfl, rfl⟩), (show (vL2 0).toInt = (vL2 0).toInt ∧ (vL2 1).toInt = (vL2 1).toInt ∧ (sL2 0).toInt = (sL2 0).toInt from ⟨rfl, rfl, rfl⟩), (show (vL3 0).toInt = (vL3 0).toInt ∧ (vL3 1).toInt = (vL3 1).toInt ∧ (sL3 0).toInt = (sL3 0).toInt from ⟨rfl, rfl, rfl⟩), by rw [ht]; exact hP⟩, hS.F ht⟩) hS.2.2 dX11_paste_113
                      · skip
                        have zz117 : rz110.toInt = (0 : Int) := zi_eq.mp cz114
                        refine lv_bipush (v := (-7)) hx hb dX11_paste_91 (by decide) ?_
                        rw [hQ]
                        exact W.iret (v := (-7 : Int32)) hx hb hr (fun t ht hW => ⟨⟨(-7 : Int32), (), rfl, trivial, vL0, sL0, lL0, vL1, sL1, lL1, vL2, sL2, lL2, vL3, sL3, lL3, hsL0, hsL1, hsL2, hsL3, (show (vL0 0).toInt = (vL0 0).toInt ∧ (vL0 1).toInt = (vL0 1).toInt ∧ (sL0 0).toInt = (sL0 0).toInt from ⟨rfl, rfl, rfl⟩), (show (vL1 0).toInt = (vL1 0).toInt ∧ (vL1 1).toInt = (vL1 1).toInt ∧ (sL1 0).toInt = (sL1 0).toInt from ⟨rfl, rfl, rfl⟩), (show (vL2 0).toInt = (vL2 0).toInt ∧ (vL2 1).toInt = (vL2 1).toInt ∧ (sL2 0).toInt = (sL2 0).toInt from ⟨rfl, rfl, rfl⟩), (show (vL3 0).toInt = (vL3 0).toInt ∧ (vL3 1).toInt = (vL3 1).toInt ∧ (sL3 0).toInt = (sL3 0).toInt from ⟨rfl, rfl, rfl⟩), by rw [ht]; exact hP⟩, hS.F ht⟩) hS.2.2 dX11_paste_93
                  · skip
                    have zz118 : ¬ (vL0 1).toInt = (vL2 1).toInt := fun h9 => cz99 (zi_eq.mpr h9)
                    refine lv_bipush (v := (-8)) hx hb dX11_paste_65 (by decide) ?_
                    rw [hQ]
                    exact W.iret (v := (-8 : Int32)) hx hb hr (fun t ht hW => ⟨⟨(-8 : Int32), (), rfl, trivial, vL0, sL0, lL0, vL1, sL1, lL1, vL2, sL2, lL2, vL3, sL3, lL3, hsL0, hsL1, hsL2, hsL3, (show (vL0 0).toInt = (vL0 0).toInt ∧ (vL0 1).toInt = (vL0 1).toInt ∧ (sL0 0).toInt = (sL0 0).toInt from ⟨rfl, rfl, rfl⟩), (show (vL1 0).toInt = (vL1 0).toInt ∧ (vL1 1).toInt = (vL1 1).toInt ∧ (sL1 0).toInt = (sL1 0).toInt from ⟨rfl, rfl, rfl⟩), (show (vL2 0).toInt = (vL2 0).toInt ∧ (vL2 1).toInt = (vL2 1).toInt ∧ (sL2 0).toInt = (sL2 0).toInt from ⟨rfl, rfl, rfl⟩), (show (vL3 0).toInt = (vL3 0).toInt ∧ (vL3 1).toInt = (vL3 1).toInt ∧ (sL3 0).toInt = (sL3 0).toInt from ⟨rfl, rfl, rfl⟩), by rw [ht]; exact hP⟩, hS.F ht⟩) hS.2.2 dX11_paste_67
                · skip
                  have zz119 : (vL2 0).toInt = (0 : Int) := zi_eq.mp cz97
                  refine lv_bipush (v := (-6)) hx hb dX11_paste_49 (by decide) ?_
                  rw [hQ]
                  exact W.iret (v := (-6 : Int32)) hx hb hr (fun t ht hW => ⟨⟨(-6 : Int32), (), rfl, trivial, vL0, sL0, lL0, vL1, sL1, lL1, vL2, sL2, lL2, vL3, sL3, lL3, hsL0, hsL1, hsL2, hsL3, (show (vL0 0).toInt = (vL0 0).toInt ∧ (vL0 1).toInt = (vL0 1).toInt ∧ (sL0 0).toInt = (sL0 0).toInt from ⟨rfl, rfl, rfl⟩), (show (vL1 0).toInt = (vL1 0).toInt ∧ (vL1 1).toInt = (vL1 1).toInt ∧ (sL1 0).toInt = (sL1 0).toInt from ⟨rfl, rfl, rfl⟩), (show (vL2 0).toInt = (vL2 0).toInt ∧ (vL2 1).toInt = (vL2 1).toInt ∧ (sL2 0).toInt = (sL2 0).toInt from ⟨rfl, rfl, rfl⟩), (show (vL3 0).toInt = (vL3 0).toInt ∧ (vL3 1).toInt = (vL3 1).toInt ∧ (sL3 0).toInt = (sL3 0).toInt from ⟨rfl, rfl, rfl⟩), by rw [ht]; exact hP⟩, hS.F ht⟩) hS.2.2 dX11_paste_51
            · skip
              have zz120 : p3.toInt = (3 : Int) := zi_eq.mp cz39
              refine W.eq (g2 := F0 m 30 ls [.int 3, .ref (qX 3)]) (by rw [cz39]) ?_
              refine va_aldq hx hb hK hP 11 6 rfl rfl (by unfold vp_in; decide) dX11_paste_30 ?_
              refine W.eq (g2 := F0 m 31 ls [.ref (qL3 0)]) rfl ?_
              refine lv_astore (lv' := [(7, .ref (qL3 0)), (6, .ref (qL0 0)), (0, .ref (qX 0)), (1, .int p1), (2, .int p2), (3, .int p3), (4, .int p4), (5, .int p5)]) hx hb dX11_paste_31 hl (by decide) rfl (fun ls hl => ?_)
              refine lv_aload hx hb dX11_paste_33 (lv_at hl 1 rfl) ?_
              refine va_get (D := (dC, dI)) (ci := 6) (v := .int (vL0 0)) (C := RX6) (T := TX6) (N := 4) hx hb hts (fun w h => List.mem_cons_of_mem _ (List.mem_append_right _ (List.mem_append_right _ (List.mem_append_right _ (List.mem_append_left _ h))))) hown hK hP 0 rfl rfl 1 (by decide) (hts (.fieldLink RX11 386 "SagMemory$Slot" "has" "Z") (wl_mem 4 rfl)) (fun _ h9 => h9) rfl dX11_paste_35 ?_
              refine lv_if_eq (tgt := 49) hx hb dX11_paste_38 (by decide) (fun cz121 => ?_) (fun cz121 => ?_)
              · skip
                have zz122 : (vL0 0).toInt = (0 : Int) := zi_eq.mp cz121
                refine lv_bipush (v := (-6)) hx hb dX11_paste_49 (by decide) ?_
                rw [hQ]
                exact W.iret (v := (-6 : Int32)) hx hb hr (fun t ht hW => ⟨⟨(-6 : Int32), (), rfl, trivial, vL0, sL0, lL0, vL1, sL1, lL1, vL2, sL2, lL2, vL3, sL3, lL3, hsL0, hsL1, hsL2, hsL3, (show (vL0 0).toInt = (vL0 0).toInt ∧ (vL0 1).toInt = (vL0 1).toInt ∧ (sL0 0).toInt = (sL0 0).toInt from ⟨rfl, rfl, rfl⟩), (show (vL1 0).toInt = (vL1 0).toInt ∧ (vL1 1).toInt = (vL1 1).toInt ∧ (sL1 0).toInt = (sL1 0).toInt from ⟨rfl, rfl, rfl⟩), (show (vL2 0).toInt = (vL2 0).toInt ∧ (vL2 1).toInt = (vL2 1).toInt ∧ (sL2 0).toInt = (sL2 0).toInt from ⟨rfl, rfl, rfl⟩), (show (vL3 0).toInt = (vL3 0).toInt ∧ (vL3 1).toInt = (vL3 1).toInt ∧ (sL3 0).toInt = (sL3 0).toInt from ⟨rfl, rfl, rfl⟩), by rw [ht]; exact hP⟩, hS.F ht⟩) hS.2.2 dX11_paste_51
              · skip
                have zz123 : ¬ (vL0 0).toInt = (0 : Int) := fun h9 => cz121 (zi_eq.mpr h9)
                refine lv_aload hx hb dX11_paste_41 (lv_at hl 0 rfl) ?_
                refine va_get (D := (dC, dI)) (ci := 6) (v := .int (vL3 0)) (C := RX6) (T := TX6) (N := 4) hx hb hts (fun w h => List.mem_cons_of_mem _ (List.mem_append_right _ (List.mem_append_right _ (List.mem_append_right _ (List.mem_append_left _ h))))) hown hK hP 6 rfl rfl 1 (by decide) (hts (.fieldLink RX11 386 "SagMemory$Slot" "has" "Z") (wl_mem 4 rfl)) (fun _ h9 => h9) rfl dX11_paste_43 ?_
                refine lv_if_ne (tgt := 52) hx hb dX11_paste_46 (by decide) (fun cz124 => ?_) (fun cz124 => ?_)
                · skip
                  have zz125 : ¬ (vL3 0).toInt = (0 : Int) := fun h9 => cz124 (zi_eq.mpr h9)
                  refine lv_aload hx hb dX11_paste_52 (lv_at hl 1 rfl) ?_
                  refine va_get (D := (dC, dI)) (ci := 6) (v := .int (vL0 1)) (C := RX6) (T := TX6) (N := 4) hx hb hts (fun w h => List.mem_cons_of_mem _ (List.mem_append_right _ (List.mem_append_right _ (List.mem_append_right _ (List.mem_append_left _ h))))) hown hK hP 0 rfl rfl 2 (by decide) (hts (.fieldLink RX11 396 "SagMemory$Slot" "width" "I") (wl_mem 5 rfl)) (fun _ h9 => h9) rfl dX11_paste_54 ?_
                  refine lv_aload hx hb dX11_paste_57 (lv_at hl 0 rfl) ?_
                  refine va_get (D := (dC, dI)) (ci := 6) (v := .int (vL3 1)) (C := RX6) (T := TX6) (N := 4) hx hb hts (fun w h => List.mem_cons_of_mem _ (List.mem_append_right _ (List.mem_append_right _ (List.mem_append_right _ (List.mem_append_left _ h))))) hown hK hP 6 rfl rfl 2 (by decide) (hts (.fieldLink RX11 396 "SagMemory$Slot" "width" "I") (wl_mem 5 rfl)) (fun _ h9 => h9) rfl dX11_paste_59 ?_
                  refine lv_icmp_eq (tgt := 68) hx hb dX11_paste_62 (by decide) (fun cz126 => ?_) (fun cz126 => ?_)
                  · skip
                    have zz127 : (vL0 1).toInt = (vL3 1).toInt := zi_eq.mp cz126
                    refine lv_aload hx hb dX11_paste_68 (lv_at hl 1 rfl) ?_
                    refine lv_iload_n hx hb dX11_paste_70 rfl (lv_at hl 4 rfl) ?_
                    refine lv_iload hx hb dX11_paste_71 (lv_at hl 7 rfl) ?_
                    have hPc := hP.sub (ws' := (List.flatten [(wSlot qL0 k vL0 sL0 lL0)])) [0, 1] rfl
                    refine vp_callSi (va_Run.run (va_runV (As := [.int p2, .int p5]) (rest := []) ⟨hx, hb, hml, hown, hts⟩ (c_X6_spans_x l dC dI k qL0 vL0 sL0 lL0 p2 p5 hsL0) (cwV 2 hts (gk_V (wl_mem 6 rfl) (wl_mem 7 rfl) (wl_mem 8 rfl) (wl_mem 9 rfl) (fun w h => List.mem_cons_of_mem _ (List.mem_append_right _ (List.mem_append_right _ (List.mem_append_right _ (List.mem_append_right _ (List.mem_append_left _ h)))))) wkg_c_X6_spans_x) rfl rfl rfl (by decide +kernel) ⟨Nat.le_of_ble_eq_true rfl, Nat.le_of_ble_eq_true rfl⟩) ⟨fun a U g mk q => by obtain ⟨q0, qP, qK⟩ := q; exact ⟨q0, qP, va_K.moved (u := U) (U := U.calling g mk a) (Vm.Alike.refl U.vm) qK⟩, va_recv hK hPc (ci := 6) (q0 := 0) rfl rfl, fun U hU hW => ⟨rfl, by rw [hU]; exact hPc, va_K.moved hW.alike hK⟩⟩ rfl rfl hl.1 rfl (lv_room (Nat.le_of_ble_eq_true rfl)) dX11_paste_73 ⟨Nat.le_of_ble_eq_true rfl, Nat.le_of_ble_eq_true rfl⟩)) (fun rz129 gz128 => ?_)
                    clear hPc
                    obtain ⟨pz130, pz131⟩ := gz128
                    have pz130 : (rz129.toInt = 0 ∧ (p2.toInt < 0 ∨ p5.toInt < 0 ∨ (sL0 0).toInt < p2.toInt + p5.toInt)) ∨ (rz129.toInt = 1 ∧ 0 ≤ p2.toInt ∧ 0 ≤ p5.toInt ∧ p2.toInt + p5.toInt ≤ (sL0 0).toInt) := pz130
                    have pz131 : rz129.toInt = 0 ∨ rz129.toInt = 1 := pz131
                    have bz132 := hsL0 0
                    refine lv_if_eq (tgt := 91) hx hb dX11_paste_76 (by decide) (fun cz133 => ?_) (fun cz133 => ?_)
                    · skip
                      have zz134 : rz129.toInt = (0 : Int) := zi_eq.mp cz133
                      refine lv_bipush (v := (-7)) hx hb dX11_paste_91 (by decide) ?_
                      rw [hQ]
                      exact W.iret (v := (-7 : Int32)) hx hb hr (fun t ht hW => ⟨⟨(-7 : Int32), (), rfl, trivial, vL0, sL0, lL0, vL1, sL1, lL1, vL2, sL2, lL2, vL3, sL3, lL3, hsL0, hsL1, hsL2, hsL3, (show (vL0 0).toInt = (vL0 0).toInt ∧ (vL0 1).toInt = (vL0 1).toInt ∧ (sL0 0).toInt = (sL0 0).toInt from ⟨rfl, rfl, rfl⟩), (show (vL1 0).toInt = (vL1 0).toInt ∧ (vL1 1).toInt = (vL1 1).toInt ∧ (sL1 0).toInt = (sL1 0).toInt from ⟨rfl, rfl, rfl⟩), (show (vL2 0).toInt = (vL2 0).toInt ∧ (vL2 1).toInt = (vL2 1).toInt ∧ (sL2 0).toInt = (sL2 0).toInt from ⟨rfl, rfl, rfl⟩), (show (vL3 0).toInt = (vL3 0).toInt ∧ (vL3 1).toInt = (vL3 1).toInt ∧ (sL3 0).toInt = (sL3 0).toInt from ⟨rfl, rfl, rfl⟩), by rw [ht]; exact hP⟩, hS.F ht⟩) hS.2.2 dX11_paste_93
                    · skip
                      have zz135 : ¬ rz129.toInt = (0 : Int) := fun h9 => cz133 (zi_eq.mpr h9)
                      refine lv_aload hx hb dX11_paste_79 (lv_at hl 0 rfl) ?_
                      refine lv_iload hx hb dX11_paste_81 (lv_at hl 6 rfl) ?_
                      refine lv_iload hx hb dX11_paste_83 (lv_at hl 7 rfl) ?_
                      have hPc := hP.sub (ws' := (List.flatten [(wSlot qL3 k vL3 sL3 lL3)])) [6, 7] rfl
                      refine vp_callSi (va_Run.run (va_runV (As := [.int p4, .int p5]) (rest := []) ⟨hx, hb, hml, hown, hts⟩ (c_X6_spans_x l dC dI k qL3 vL3 sL3 lL3 p4 p5 hsL3) (cwV 2 hts (gk_V (wl_mem 6 rfl) (wl_mem 7 rfl) (wl_mem 8 rfl) (wl_mem 9 rfl) (fun w h => List.mem_cons_of_mem _ (List.mem_append_right _ (List.mem_append_right _ (List.mem_append_right _ (List.mem_append_right _ (List.mem_append_left _ h)))))) wkg_c_X6_spans_x) rfl rfl rfl (by decide +kernel) ⟨Nat.le_of_ble_eq_true rfl, Nat.le_of_ble_eq_true rfl⟩) ⟨fun a U g mk q => by obtain ⟨q0, qP, qK⟩ := q; exact ⟨q0, qP, va_K.moved (u := U) (U := U.calling g mk a) (Vm.Alike.refl U.vm) qK⟩, va_recv hK hPc (ci := 6) (q0 := 0) rfl rfl, fun U hU hW => ⟨rfl, by rw [hU]; exact hPc, va_K.moved hW.alike hK⟩⟩ rfl rfl hl.1 rfl (lv_room (Nat.le_of_ble_eq_true rfl)) dX11_paste_85 ⟨Nat.le_of_ble_eq_true rfl, Nat.le_of_ble_eq_true rfl⟩)) (fun rz137 gz136 => ?_)
                      clear hPc
                      obtain ⟨pz138, pz139⟩ := gz136
                      have pz138 : (rz137.toInt = 0 ∧ (p4.toInt < 0 ∨ p5.toInt < 0 ∨ (sL3 0).toInt < p4.toInt + p5.toInt)) ∨ (rz137.toInt = 1 ∧ 0 ≤ p4.toInt ∧ 0 ≤ p5.toInt ∧ p4.toInt + p5.toInt ≤ (sL3 0).toInt) := pz138
                      have pz139 : rz137.toInt = 0 ∨ rz137.toInt = 1 := pz139
                      have bz140 := hsL3 0
                      refine lv_if_ne (tgt := 94) hx hb dX11_paste_88 (by decide) (fun cz141 => ?_) (fun cz141 => ?_)
                      · skip
                        have zz142 : ¬ rz137.toInt = (0 : Int) := fun h9 => cz141 (zi_eq.mpr h9)
                        refine lv_aload hx hb dX11_paste_94 (lv_at hl 1 rfl) ?_
                        refine va_get (D := (dC, dI)) (ci := 6) (v := .ref (qL0 1)) (C := RX6) (T := TX6) (N := 4) hx hb hts (fun w h => List.mem_cons_of_mem _ (List.mem_append_right _ (List.mem_append_right _ (List.mem_append_right _ (List.mem_append_left _ h))))) hown hK hP 0 rfl rfl 0 (by decide) (hts (.fieldLink RX11 388 "SagMemory$Slot" "numbers" "[J") (wl_mem 10 rfl)) (fun _ h9 => h9) rfl dX11_paste_96 ?_
                        refine lv_iload_n hx hb dX11_paste_99 rfl (lv_at hl 4 rfl) ?_
                        refine lv_aload hx hb dX11_paste_100 (lv_at hl 0 rfl) ?_
                        refine va_get (D := (dC, dI)) (ci := 6) (v := .ref (qL3 1)) (C := RX6) (T := TX6) (N := 4) hx hb hts (fun w h => List.mem_cons_of_mem _ (List.mem_append_right _ (List.mem_append_right _ (List.mem_append_right _ (List.mem_append_left _ h))))) hown hK hP 6 rfl rfl 0 (by decide) (hts (.fieldLink RX11 388 "SagMemory$Slot" "numbers" "[J") (wl_mem 10 rfl)) (fun _ h9 => h9) rfl dX11_paste_102 ?_
                        refine lv_iload hx hb dX11_paste_105 (lv_at hl 6 rfl) ?_
                        refine lv_iload hx hb dX11_paste_107 (lv_at hl 7 rfl) ?_
                        refine va_copyl (ty := .long) hx hb (by rw [hml]; exact hl.1.symm) hown (hts (.methodLink RX11 402 arraycopyName) (wl_mem 11 rfl)) (hts (.native arraycopyName) (wl_mem 12 rfl)) (hts (.static arraycopyName) (wl_mem 13 rfl)) (hts (.initialized "java/lang/System") (wl_mem 14 rfl)) hK hP hD hS 1 7 1 1 rfl rfl rfl rfl rfl (fun h9 => by have h8 := zi_lt.mp h9; have h8 : p2.toInt < (0 : Int) := h8; omega) (fun h9 => by have h8 := zi_lt.mp h9; have h8 : p4.toInt < (0 : Int) := h8; omega) (fun h9 => by have h8 := zi_lt.mp h9; have h8 : p5.toInt < (0 : Int) := h8; omega) (by have h8 := zc_nat p2 (by show 0 ≤ p2.toInt; omega); have h9 := zc_nat p5 (by show 0 ≤ p5.toInt; omega); have h8 : ((p2).toNatClampNeg : Int) = p2.toInt := h8; have h9 : ((p5).toNatClampNeg : Int) = p5.toInt := h9; omega) (by have h8 := zc_nat p4 (by show 0 ≤ p4.toInt; omega); have h9 := zc_nat p5 (by show 0 ≤ p5.toInt; omega); have h8 : ((p4).toNatClampNeg : Int) = p4.toInt := h8; have h9 : ((p5).toNatClampNeg : Int) = p5.toInt := h9; omega) (fun _ _ => rfl) (Nat.le_of_ble_eq_true rfl) (Nat.le_of_ble_eq_true rfl) dX11_paste_109 (fun H locs hP hD hS => ?_)
                        obtain ⟨fz143, efz143, hP, hD⟩ : ∃ fz143 : Nat → Int64, fz143 = va_cpy (lL0 0) (lL3 0) p2.toNatClampNeg p4.toNatClampNeg p5.toNatClampNeg ∧ va_P (dC, dI) vwCl (List.flatten [(wSlot qL0 k vL0 sL0 lL0), (wSlot qL1 k vL1 sL1 lL1), (wSlot qL2 k vL2 sL2 lL2), (wSlot qL3 k vL3 sL3 (va_up lL3 0 fz143))] ++ List.flatten [(wSag qX k tapeX toldX actsX nowX trialX storyX attemptX orderSearchX routeSearchX setSearchX probeX (qL0 0) (qL1 0) (qL2 0) (qL3 0) image0X image1X image2X aX)]) H ∧ va_D A (List.flatten [(wSlot qL0 k vL0 sL0 lL0), (wSlot qL1 k vL1 sL1 lL1), (wSlot qL2 k vL2 sL2 lL2), (wSlot qL3 k vL3 sL3 (va_up lL3 0 fz143))] ++ List.flatten [(wSag qX k tapeX toldX actsX nowX trialX storyX attemptX orderSearchX routeSearchX setSearchX probeX (qL0 0) (qL1 0) (qL2 0) (qL3 0) image0X image1X image2X aX)]) := ⟨_, rfl, hP, hD⟩
                        refine lv_iconst (v := 0) hx hb dX11_paste_112 (by decide) ?_
                        rw [hQ]
                        exact W.iret (v := (0 : Int32)) hx hb hr (fun t ht hW => ⟨⟨(0 : Int32), (), rfl, trivial, vL0, sL0, lL0, vL1, sL1, lL1, vL2, sL2, lL2, vL3, sL3, (va_up lL3 0 fz143), hsL0, hsL1, hsL2, hsL3, (show (vL0 0).toInt = (vL0 0).toInt ∧ (vL0 1).toInt = (vL0 1).toInt ∧ (sL0 0).toInt = (sL0 0).toInt from ⟨rfl, rfl, rfl⟩), (show (vL1 0).toInt = (vL1 0).toInt ∧ (vL1 1).toInt = (vL1 1).toInt ∧ (sL1 0).toInt = (sL1 0).toInt from ⟨rfl, rfl, rfl⟩), (show (vL2 0).toInt = (vL2 0).toInt ∧ (vL2 1).toInt = (vL2 1).toInt ∧ (sL2 0).toInt = (sL2 0).toInt from ⟨rfl, rfl, rfl⟩), (show (vL3 0).toInt = (vL3 0).toInt ∧ (vL3 1).toInt = (vL3 1).toInt ∧ (sL3 0).toInt = (sL3 0).toInt from ⟨rfl, rfl, rfl⟩), by rw [ht]; exact hP⟩, hS.F ht⟩) hS.2.2 dX11_paste_113
                      · skip
                        have zz144 : rz137.toInt = (0 : Int) := zi_eq.mp cz141
                        refine lv_bipush (v := (-7)) hx hb dX11_paste_91 (by decide) ?_
                        rw [hQ]
                        exact W.iret (v := (-7 : Int32)) hx hb hr (fun t ht hW => ⟨⟨(-7 : Int32), (), rfl, trivial, vL0, sL0, lL0, vL1, sL1, lL1, vL2, sL2, lL2, vL3, sL3, lL3, hsL0, hsL1, hsL2, hsL3, (show (vL0 0).toInt = (vL0 0).toInt ∧ (vL0 1).toInt = (vL0 1).toInt ∧ (sL0 0).toInt = (sL0 0).toInt from ⟨rfl, rfl, rfl⟩), (show (vL1 0).toInt = (vL1 0).toInt ∧ (vL1 1).toInt = (vL1 1).toInt ∧ (sL1 0).toInt = (sL1 0).toInt from ⟨rfl, rfl, rfl⟩), (show (vL2 0).toInt = (vL2 0).toInt ∧ (vL2 1).toInt = (vL2 1).toInt ∧ (sL2 0).toInt = (sL2 0).toInt from ⟨rfl, rfl, rfl⟩), (show (vL3 0).toInt = (vL3 0).toInt ∧ (vL3 1).toInt = (vL3 1).toInt ∧ (sL3 0).toInt = (sL3 0).toInt from ⟨rfl, rfl, rfl⟩), by rw [ht]; exact hP⟩, hS.F ht⟩) hS.2.2 dX11_paste_93
                  · skip
                    have zz145 : ¬ (vL0 1).toInt = (vL3 1).toInt := fun h9 => cz126 (zi_eq.mpr h9)
                    refine lv_bipush (v := (-8)) hx hb dX11_paste_65 (by decide) ?_
                    rw [hQ]
                    exact W.iret (v := (-8 : Int32)) hx hb hr (fun t ht hW => ⟨⟨(-8 : Int32), (), rfl, trivial, vL0, sL0, lL0, vL1, sL1, lL1, vL2, sL2, lL2, vL3, sL3, lL3, hsL0, hsL1, hsL2, hsL3, (show (vL0 0).toInt = (vL0 0).toInt ∧ (vL0 1).toInt = (vL0 1).toInt ∧ (sL0 0).toInt = (sL0 0).toInt from ⟨rfl, rfl, rfl⟩), (show (vL1 0).toInt = (vL1 0).toInt ∧ (vL1 1).toInt = (vL1 1).toInt ∧ (sL1 0).toInt = (sL1 0).toInt from ⟨rfl, rfl, rfl⟩), (show (vL2 0).toInt = (vL2 0).toInt ∧ (vL2 1).toInt = (vL2 1).toInt ∧ (sL2 0).toInt = (sL2 0).toInt from ⟨rfl, rfl, rfl⟩), (show (vL3 0).toInt = (vL3 0).toInt ∧ (vL3 1).toInt = (vL3 1).toInt ∧ (sL3 0).toInt = (sL3 0).toInt from ⟨rfl, rfl, rfl⟩), by rw [ht]; exact hP⟩, hS.F ht⟩) hS.2.2 dX11_paste_67
                · skip
                  have zz146 : (vL3 0).toInt = (0 : Int) := zi_eq.mp cz124
                  refine lv_bipush (v := (-6)) hx hb dX11_paste_49 (by decide) ?_
                  rw [hQ]
                  exact W.iret (v := (-6 : Int32)) hx hb hr (fun t ht hW => ⟨⟨(-6 : Int32), (), rfl, trivial, vL0, sL0, lL0, vL1, sL1, lL1, vL2, sL2, lL2, vL3, sL3, lL3, hsL0, hsL1, hsL2, hsL3, (show (vL0 0).toInt = (vL0 0).toInt ∧ (vL0 1).toInt = (vL0 1).toInt ∧ (sL0 0).toInt = (sL0 0).toInt from ⟨rfl, rfl, rfl⟩), (show (vL1 0).toInt = (vL1 0).toInt ∧ (vL1 1).toInt = (vL1 1).toInt ∧ (sL1 0).toInt = (sL1 0).toInt from ⟨rfl, rfl, rfl⟩), (show (vL2 0).toInt = (vL2 0).toInt ∧ (vL2 1).toInt = (vL2 1).toInt ∧ (sL2 0).toInt = (sL2 0).toInt from ⟨rfl, rfl, rfl⟩), (show (vL3 0).toInt = (vL3 0).toInt ∧ (vL3 1).toInt = (vL3 1).toInt ∧ (sL3 0).toInt = (sL3 0).toInt from ⟨rfl, rfl, rfl⟩), by rw [ht]; exact hP⟩, hS.F ht⟩) hS.2.2 dX11_paste_51
          · skip
            have zz147 : p1.toInt = (1 : Int) := zi_eq.mp cz37
            refine W.eq (g2 := F0 m 22 ls [.int 1, .ref (qX 3)]) (by rw [cz37]) ?_
            refine va_aldq hx hb hK hP 11 6 rfl rfl (by unfold vp_in; decide) dX11_paste_22 ?_
            refine W.eq (g2 := F0 m 23 ls [.ref (qL1 0)]) rfl ?_
            refine lv_astore (lv' := [(6, .ref (qL1 0)), (0, .ref (qX 0)), (1, .int p1), (2, .int p2), (3, .int p3), (4, .int p4), (5, .int p5)]) hx hb dX11_paste_23 hl (by decide) rfl (fun ls hl => ?_)
            refine lv_aload_n hx hb dX11_paste_25 rfl (lv_at hl 1 rfl) ?_
            refine va_get (D := (dC, dI)) (ci := 11) (v := .ref (qX 3)) (C := RX11) (T := TX11) (N := 15) hx hb hts (fun w h => List.mem_cons_of_mem _ (List.mem_append_right _ (List.mem_append_right _ (List.mem_append_left _ h)))) hown hK hP 8 rfl rfl 13 (by decide) (hts (.fieldLink RX11 85 "SagMemory" "slots" "[LSagMemory$Slot;") (wl_mem 3 rfl)) (fun _ h9 => h9) rfl dX11_paste_26 ?_
            refine lv_iload_n hx hb dX11_paste_29 rfl (lv_at hl 4 rfl) ?_
            rcases (show p3 = 0 ∨ p3 = 1 ∨ p3 = 2 ∨ p3 = 3 by simp only [zi_eq]; show p3.toInt = 0 ∨ p3.toInt = 1 ∨ p3.toInt = 2 ∨ p3.toInt = 3; omega) with cz148 | cz148 | cz148 | cz148
            · skip
              have zz149 : p3.toInt = (0 : Int) := zi_eq.mp cz148
              refine W.eq (g2 := F0 m 30 ls [.int 0, .ref (qX 3)]) (by rw [cz148]) ?_
              refine va_aldq hx hb hK hP 11 6 rfl rfl (by unfold vp_in; decide) dX11_paste_30 ?_
              refine W.eq (g2 := F0 m 31 ls [.ref (qL0 0)]) rfl ?_
              refine lv_astore (lv' := [(7, .ref (qL0 0)), (6, .ref (qL1 0)), (0, .ref (qX 0)), (1, .int p1), (2, .int p2), (3, .int p3), (4, .int p4), (5, .int p5)]) hx hb dX11_paste_31 hl (by decide) rfl (fun ls hl => ?_)
              refine lv_aload hx hb dX11_paste_33 (lv_at hl 1 rfl) ?_
              refine va_get (D := (dC, dI)) (ci := 6) (v := .int (vL1 0)) (C := RX6) (T := TX6) (N := 4) hx hb hts (fun w h => List.mem_cons_of_mem _ (List.mem_append_right _ (List.mem_append_right _ (List.mem_append_right _ (List.mem_append_left _ h))))) hown hK hP 2 rfl rfl 1 (by decide) (hts (.fieldLink RX11 386 "SagMemory$Slot" "has" "Z") (wl_mem 4 rfl)) (fun _ h9 => h9) rfl dX11_paste_35 ?_
              refine lv_if_eq (tgt := 49) hx hb dX11_paste_38 (by decide) (fun cz150 => ?_) (fun cz150 => ?_)
              · skip
                have zz151 : (vL1 0).toInt = (0 : Int) := zi_eq.mp cz150
                refine lv_bipush (v := (-6)) hx hb dX11_paste_49 (by decide) ?_
                rw [hQ]
                exact W.iret (v := (-6 : Int32)) hx hb hr (fun t ht hW => ⟨⟨(-6 : Int32), (), rfl, trivial, vL0, sL0, lL0, vL1, sL1, lL1, vL2, sL2, lL2, vL3, sL3, lL3, hsL0, hsL1, hsL2, hsL3, (show (vL0 0).toInt = (vL0 0).toInt ∧ (vL0 1).toInt = (vL0 1).toInt ∧ (sL0 0).toInt = (sL0 0).toInt from ⟨rfl, rfl, rfl⟩), (show (vL1 0).toInt = (vL1 0).toInt ∧ (vL1 1).toInt = (vL1 1).toInt ∧ (sL1 0).toInt = (sL1 0).toInt from ⟨rfl, rfl, rfl⟩), (show (vL2 0).toInt = (vL2 0).toInt ∧ (vL2 1).toInt = (vL2 1).toInt ∧ (sL2 0).toInt = (sL2 0).toInt from ⟨rfl, rfl, rfl⟩), (show (vL3 0).toInt = (vL3 0).toInt ∧ (vL3 1).toInt = (vL3 1).toInt ∧ (sL3 0).toInt = (sL3 0).toInt from ⟨rfl, rfl, rfl⟩), by rw [ht]; exact hP⟩, hS.F ht⟩) hS.2.2 dX11_paste_51
              · skip
                have zz152 : ¬ (vL1 0).toInt = (0 : Int) := fun h9 => cz150 (zi_eq.mpr h9)
                refine lv_aload hx hb dX11_paste_41 (lv_at hl 0 rfl) ?_
                refine va_get (D := (dC, dI)) (ci := 6) (v := .int (vL0 0)) (C := RX6) (T := TX6) (N := 4) hx hb hts (fun w h => List.mem_cons_of_mem _ (List.mem_append_right _ (List.mem_append_right _ (List.mem_append_right _ (List.mem_append_left _ h))))) hown hK hP 0 rfl rfl 1 (by decide) (hts (.fieldLink RX11 386 "SagMemory$Slot" "has" "Z") (wl_mem 4 rfl)) (fun _ h9 => h9) rfl dX11_paste_43 ?_
                refine lv_if_ne (tgt := 52) hx hb dX11_paste_46 (by decide) (fun cz153 => ?_) (fun cz153 => ?_)
                · skip
                  have zz154 : ¬ (vL0 0).toInt = (0 : Int) := fun h9 => cz153 (zi_eq.mpr h9)
                  refine lv_aload hx hb dX11_paste_52 (lv_at hl 1 rfl) ?_
                  refine va_get (D := (dC, dI)) (ci := 6) (v := .int (vL1 1)) (C := RX6) (T := TX6) (N := 4) hx hb hts (fun w h => List.mem_cons_of_mem _ (List.mem_append_right _ (List.mem_append_right _ (List.mem_append_right _ (List.mem_append_left _ h))))) hown hK hP 2 rfl rfl 2 (by decide) (hts (.fieldLink RX11 396 "SagMemory$Slot" "width" "I") (wl_mem 5 rfl)) (fun _ h9 => h9) rfl dX11_paste_54 ?_
                  refine lv_aload hx hb dX11_paste_57 (lv_at hl 0 rfl) ?_
                  refine va_get (D := (dC, dI)) (ci := 6) (v := .int (vL0 1)) (C := RX6) (T := TX6) (N := 4) hx hb hts (fun w h => List.mem_cons_of_mem _ (List.mem_append_right _ (List.mem_append_right _ (List.mem_append_right _ (List.mem_append_left _ h))))) hown hK hP 0 rfl rfl 2 (by decide) (hts (.fieldLink RX11 396 "SagMemory$Slot" "width" "I") (wl_mem 5 rfl)) (fun _ h9 => h9) rfl dX11_paste_59 ?_
                  refine lv_icmp_eq (tgt := 68) hx hb dX11_paste_62 (by decide) (fun cz155 => ?_) (fun cz155 => ?_)
                  · skip
                    have zz156 : (vL1 1).toInt = (vL0 1).toInt := zi_eq.mp cz155
                    refine lv_aload hx hb dX11_paste_68 (lv_at hl 1 rfl) ?_
                    refine lv_iload_n hx hb dX11_paste_70 rfl (lv_at hl 4 rfl) ?_
                    refine lv_iload hx hb dX11_paste_71 (lv_at hl 7 rfl) ?_
                    have hPc := hP.sub (ws' := (List.flatten [(wSlot qL1 k vL1 sL1 lL1)])) [2, 3] rfl
                    refine vp_callSi (va_Run.run (va_runV (As := [.int p2, .int p5]) (rest := []) ⟨hx, hb, hml, hown, hts⟩ (c_X6_spans_x l dC dI k qL1 vL1 sL1 lL1 p2 p5 hsL1) (cwV 2 hts (gk_V (wl_mem 6 rfl) (wl_mem 7 rfl) (wl_mem 8 rfl) (wl_mem 9 rfl) (fun w h => List.mem_cons_of_mem _ (List.mem_append_right _ (List.mem_append_right _ (List.mem_append_right _ (List.mem_append_right _ (List.mem_append_left _ h)))))) wkg_c_X6_spans_x) rfl rfl rfl (by decide +kernel) ⟨Nat.le_of_ble_eq_true rfl, Nat.le_of_ble_eq_true rfl⟩) ⟨fun a U g mk q => by obtain ⟨q0, qP, qK⟩ := q; exact ⟨q0, qP, va_K.moved (u := U) (U := U.calling g mk a) (Vm.Alike.refl U.vm) qK⟩, va_recv hK hPc (ci := 6) (q0 := 0) rfl rfl, fun U hU hW => ⟨rfl, by rw [hU]; exact hPc, va_K.moved hW.alike hK⟩⟩ rfl rfl hl.1 rfl (lv_room (Nat.le_of_ble_eq_true rfl)) dX11_paste_73 ⟨Nat.le_of_ble_eq_true rfl, Nat.le_of_ble_eq_true rfl⟩)) (fun rz158 gz157 => ?_)
                    clear hPc
                    obtain ⟨pz159, pz160⟩ := gz157
                    have pz159 : (rz158.toInt = 0 ∧ (p2.toInt < 0 ∨ p5.toInt < 0 ∨ (sL1 0).toInt < p2.toInt + p5.toInt)) ∨ (rz158.toInt = 1 ∧ 0 ≤ p2.toInt ∧ 0 ≤ p5.toInt ∧ p2.toInt + p5.toInt ≤ (sL1 0).toInt) := pz159
                    have pz160 : rz158.toInt = 0 ∨ rz158.toInt = 1 := pz160
                    have bz161 := hsL1 0
                    refine lv_if_eq (tgt := 91) hx hb dX11_paste_76 (by decide) (fun cz162 => ?_) (fun cz162 => ?_)
                    · skip
                      have zz163 : rz158.toInt = (0 : Int) := zi_eq.mp cz162
                      refine lv_bipush (v := (-7)) hx hb dX11_paste_91 (by decide) ?_
                      rw [hQ]
                      exact W.iret (v := (-7 : Int32)) hx hb hr (fun t ht hW => ⟨⟨(-7 : Int32), (), rfl, trivial, vL0, sL0, lL0, vL1, sL1, lL1, vL2, sL2, lL2, vL3, sL3, lL3, hsL0, hsL1, hsL2, hsL3, (show (vL0 0).toInt = (vL0 0).toInt ∧ (vL0 1).toInt = (vL0 1).toInt ∧ (sL0 0).toInt = (sL0 0).toInt from ⟨rfl, rfl, rfl⟩), (show (vL1 0).toInt = (vL1 0).toInt ∧ (vL1 1).toInt = (vL1 1).toInt ∧ (sL1 0).toInt = (sL1 0).toInt from ⟨rfl, rfl, rfl⟩), (show (vL2 0).toInt = (vL2 0).toInt ∧ (vL2 1).toInt = (vL2 1).toInt ∧ (sL2 0).toInt = (sL2 0).toInt from ⟨rfl, rfl, rfl⟩), (show (vL3 0).toInt = (vL3 0).toInt ∧ (vL3 1).toInt = (vL3 1).toInt ∧ (sL3 0).toInt = (sL3 0).toInt from ⟨rfl, rfl, rfl⟩), by rw [ht]; exact hP⟩, hS.F ht⟩) hS.2.2 dX11_paste_93
                    · skip
                      have zz164 : ¬ rz158.toInt = (0 : Int) := fun h9 => cz162 (zi_eq.mpr h9)
                      refine lv_aload hx hb dX11_paste_79 (lv_at hl 0 rfl) ?_
                      refine lv_iload hx hb dX11_paste_81 (lv_at hl 6 rfl) ?_
                      refine lv_iload hx hb dX11_paste_83 (lv_at hl 7 rfl) ?_
                      have hPc := hP.sub (ws' := (List.flatten [(wSlot qL0 k vL0 sL0 lL0)])) [0, 1] rfl
                      refine vp_callSi (va_Run.run (va_runV (As := [.int p4, .int p5]) (rest := []) ⟨hx, hb, hml, hown, hts⟩ (c_X6_spans_x l dC dI k qL0 vL0 sL0 lL0 p4 p5 hsL0) (cwV 2 hts (gk_V (wl_mem 6 rfl) (wl_mem 7 rfl) (wl_mem 8 rfl) (wl_mem 9 rfl) (fun w h => List.mem_cons_of_mem _ (List.mem_append_right _ (List.mem_append_right _ (List.mem_append_right _ (List.mem_append_right _ (List.mem_append_left _ h)))))) wkg_c_X6_spans_x) rfl rfl rfl (by decide +kernel) ⟨Nat.le_of_ble_eq_true rfl, Nat.le_of_ble_eq_true rfl⟩) ⟨fun a U g mk q => by obtain ⟨q0, qP, qK⟩ := q; exact ⟨q0, qP, va_K.moved (u := U) (U := U.calling g mk a) (Vm.Alike.refl U.vm) qK⟩, va_recv hK hPc (ci := 6) (q0 := 0) rfl rfl, fun U hU hW => ⟨rfl, by rw [hU]; exact hPc, va_K.moved hW.alike hK⟩⟩ rfl rfl hl.1 rfl (lv_room (Nat.le_of_ble_eq_true rfl)) dX11_paste_85 ⟨Nat.le_of_ble_eq_true rfl, Nat.le_of_ble_eq_true rfl⟩)) (fun rz166 gz165 => ?_)
                      clear hPc
                      obtain ⟨pz167, pz168⟩ := gz165
                      have pz167 : (rz166.toInt = 0 ∧ (p4.toInt < 0 ∨ p5.toInt < 0 ∨ (sL0 0).toInt < p4.toInt + p5.toInt)) ∨ (rz166.toInt = 1 ∧ 0 ≤ p4.toInt ∧ 0 ≤ p5.toInt ∧ p4.toInt + p5.toInt ≤ (sL0 0).toInt) := pz167
                      have pz168 : rz166.toInt = 0 ∨ rz166.toInt = 1 := pz168
                      have bz169 := hsL0 0
                      refine lv_if_ne (tgt := 94) hx hb dX11_paste_88 (by decide) (fun cz170 => ?_) (fun cz170 => ?_)
                      · skip
                        have zz171 : ¬ rz166.toInt = (0 : Int) := fun h9 => cz170 (zi_eq.mpr h9)
                        refine lv_aload hx hb dX11_paste_94 (lv_at hl 1 rfl) ?_
                        refine va_get (D := (dC, dI)) (ci := 6) (v := .ref (qL1 1)) (C := RX6) (T := TX6) (N := 4) hx hb hts (fun w h => List.mem_cons_of_mem _ (List.mem_append_right _ (List.mem_append_right _ (List.mem_append_right _ (List.mem_append_left _ h))))) hown hK hP 2 rfl rfl 0 (by decide) (hts (.fieldLink RX11 388 "SagMemory$Slot" "numbers" "[J") (wl_mem 10 rfl)) (fun _ h9 => h9) rfl dX11_paste_96 ?_
                        refine lv_iload_n hx hb dX11_paste_99 rfl (lv_at hl 4 rfl) ?_
                        refine lv_aload hx hb dX11_paste_100 (lv_at hl 0 rfl) ?_
                        refine va_get (D := (dC, dI)) (ci := 6) (v := .ref (qL0 1)) (C := RX6) (T := TX6) (N := 4) hx hb hts (fun w h => List.mem_cons_of_mem _ (List.mem_append_right _ (List.mem_append_right _ (List.mem_append_right _ (List.mem_append_left _ h))))) hown hK hP 0 rfl rfl 0 (by decide) (hts (.fieldLink RX11 388 "SagMemory$Slot" "numbers" "[J") (wl_mem 10 rfl)) (fun _ h9 => h9) rfl dX11_paste_102 ?_
                        refine lv_iload hx hb dX11_paste_105 (lv_at hl 6 rfl) ?_
                        refine lv_iload hx hb dX11_paste_107 (lv_at hl 7 rfl) ?_
                        refine va_copyl (ty := .long) hx hb (by rw [hml]; exact hl.1.symm) hown (hts (.methodLink RX11 402 arraycopyName) (wl_mem 11 rfl)) (hts (.native arraycopyName) (wl_mem 12 rfl)) (hts (.static arraycopyName) (wl_mem 13 rfl)) (hts (.initialized "java/lang/System") (wl_mem 14 rfl)) hK hP hD hS 3 1 1 1 rfl rfl rfl rfl rfl (fun h9 => by have h8 := zi_lt.mp h9; have h8 : p2.toInt < (0 : Int) := h8; omega) (fun h9 => by have h8 := zi_lt.mp h9; have h8 : p4.toInt < (0 : Int) := h8; omega) (fun h9 => by have h8 := zi_lt.mp h9; have h8 : p5.toInt < (0 : Int) := h8; omega) (by have h8 := zc_nat p2 (by show 0 ≤ p2.toInt; omega); have h9 := zc_nat p5 (by show 0 ≤ p5.toInt; omega); have h8 : ((p2).toNatClampNeg : Int) = p2.toInt := h8; have h9 : ((p5).toNatClampNeg : Int) = p5.toInt := h9; omega) (by have h8 := zc_nat p4 (by show 0 ≤ p4.toInt; omega); have h9 := zc_nat p5 (by show 0 ≤ p5.toInt; omega); have h8 : ((p4).toNatClampNeg : Int) = p4.toInt := h8; have h9 : ((p5).toNatClampNeg : Int) = p5.toInt := h9; omega) (fun _ _ => rfl) (Nat.le_of_ble_eq_true rfl) (Nat.le_of_ble_eq_true rfl) dX11_paste_109 (fun H locs hP hD hS => ?_)
                        obtain ⟨fz172, efz172, hP, hD⟩ : ∃ fz172 : Nat → Int64, fz172 = va_cpy (lL1 0) (lL0 0) p2.toNatClampNeg p4.toNatClampNeg p5.toNatClampNeg ∧ va_P (dC, dI) vwCl (List.flatten [(wSlot qL0 k vL0 sL0 (va_up lL0 0 fz172)), (wSlot qL1 k vL1 sL1 lL1), (wSlot qL2 k vL2 sL2 lL2), (wSlot qL3 k vL3 sL3 lL3)] ++ List.flatten [(wSag qX k tapeX toldX actsX nowX trialX storyX attemptX orderSearchX routeSearchX setSearchX probeX (qL0 0) (qL1 0) (qL2 0) (qL3 0) image0X image1X image2X aX)]) H ∧ va_D A (List.flatten [(wSlot qL0 k vL0 sL0 (va_up lL0 0 fz172)), (wSlot qL1 k vL1 sL1 lL1), (wSlot qL2 k vL2 sL2 lL2), (wSlot qL3 k vL3 sL3 lL3)] ++ List.flatten [(wSag qX k tapeX toldX actsX nowX trialX storyX attemptX orderSearchX routeSearchX setSearchX probeX (qL0 0) (qL1 0) (qL2 0) (qL3 0) image0X image1X image2X aX)]) := ⟨_, rfl, hP, hD⟩
                        refine lv_iconst (v := 0) hx hb dX11_paste_112 (by decide) ?_
                        rw [hQ]
                        exact W.iret (v := (0 : Int32)) hx hb hr (fun t ht hW => ⟨⟨(0 : Int32), (), rfl, trivial, vL0, sL0, (va_up lL0 0 fz172), vL1, sL1, lL1, vL2, sL2, lL2, vL3, sL3, lL3, hsL0, hsL1, hsL2, hsL3, (show (vL0 0).toInt = (vL0 0).toInt ∧ (vL0 1).toInt = (vL0 1).toInt ∧ (sL0 0).toInt = (sL0 0).toInt from ⟨rfl, rfl, rfl⟩), (show (vL1 0).toInt = (vL1 0).toInt ∧ (vL1 1).toInt = (vL1 1).toInt ∧ (sL1 0).toInt = (sL1 0).toInt from ⟨rfl, rfl, rfl⟩), (show (vL2 0).toInt = (vL2 0).toInt ∧ (vL2 1).toInt = (vL2 1).toInt ∧ (sL2 0).toInt = (sL2 0).toInt from ⟨rfl, rfl, rfl⟩), (show (vL3 0).toInt = (vL3 0).toInt ∧ (vL3 1).toInt = (vL3 1).toInt ∧ (sL3 0).toInt = (sL3 0).toInt from ⟨rfl, rfl, rfl⟩), by rw [ht]; exact hP⟩, hS.F ht⟩) hS.2.2 dX11_paste_113
                      · skip
                        have zz173 : rz166.toInt = (0 : Int) := zi_eq.mp cz170
                        refine lv_bipush (v := (-7)) hx hb dX11_paste_91 (by decide) ?_
                        rw [hQ]
                        exact W.iret (v := (-7 : Int32)) hx hb hr (fun t ht hW => ⟨⟨(-7 : Int32), (), rfl, trivial, vL0, sL0, lL0, vL1, sL1, lL1, vL2, sL2, lL2, vL3, sL3, lL3, hsL0, hsL1, hsL2, hsL3, (show (vL0 0).toInt = (vL0 0).toInt ∧ (vL0 1).toInt = (vL0 1).toInt ∧ (sL0 0).toInt = (sL0 0).toInt from ⟨rfl, rfl, rfl⟩), (show (vL1 0).toInt = (vL1 0).toInt ∧ (vL1 1).toInt = (vL1 1).toInt ∧ (sL1 0).toInt = (sL1 0).toInt from ⟨rfl, rfl, rfl⟩), (show (vL2 0).toInt = (vL2 0).toInt ∧ (vL2 1).toInt = (vL2 1).toInt ∧ (sL2 0).toInt = (sL2 0).toInt from ⟨rfl, rfl, rfl⟩), (show (vL3 0).toInt = (vL3 0).toInt ∧ (vL3 1).toInt = (vL3 1).toInt ∧ (sL3 0).toInt = (sL3 0).toInt from ⟨rfl, rfl, rfl⟩), by rw [ht]; exact hP⟩, hS.F ht⟩) hS.2.2 dX11_paste_93
                  · skip
                    have zz174 : ¬ (vL1 1).toInt = (vL0 1).toInt := fun h9 => cz155 (zi_eq.mpr h9)
                    refine lv_bipush (v := (-8)) hx hb dX11_paste_65 (by decide) ?_
                    rw [hQ]
                    exact W.iret (v := (-8 : Int32)) hx hb hr (fun t ht hW => ⟨⟨(-8 : Int32), (), rfl, trivial, vL0, sL0, lL0, vL1, sL1, lL1, vL2, sL2, lL2, vL3, sL3, lL3, hsL0, hsL1, hsL2, hsL3, (show (vL0 0).toInt = (vL0 0).toInt ∧ (vL0 1).toInt = (vL0 1).toInt ∧ (sL0 0).toInt = (sL0 0).toInt from ⟨rfl, rfl, rfl⟩), (show (vL1 0).toInt = (vL1 0).toInt ∧ (vL1 1).toInt = (vL1 1).toInt ∧ (sL1 0).toInt = (sL1 0).toInt from ⟨rfl, rfl, rfl⟩), (show (vL2 0).toInt = (vL2 0).toInt ∧ (vL2 1).toInt = (vL2 1).toInt ∧ (sL2 0).toInt = (sL2 0).toInt from ⟨rfl, rfl, rfl⟩), (show (vL3 0).toInt = (vL3 0).toInt ∧ (vL3 1).toInt = (vL3 1).toInt ∧ (sL3 0).toInt = (sL3 0).toInt from ⟨rfl, rfl, rfl⟩), by rw [ht]; exact hP⟩, hS.F ht⟩) hS.2.2 dX11_paste_67
                · skip
                  have zz175 : (vL0 0).toInt = (0 : Int) := zi_eq.mp cz153
                  refine lv_bipush (v := (-6)) hx hb dX11_paste_49 (by decide) ?_
                  rw [hQ]
                  exact W.iret (v := (-6 : Int32)) hx hb hr (fun t ht hW => ⟨⟨(-6 : Int32), (), rfl, trivial, vL0, sL0, lL0, vL1, sL1, lL1, vL2, sL2, lL2, vL3, sL3, lL3, hsL0, hsL1, hsL2, hsL3, (show (vL0 0).toInt = (vL0 0).toInt ∧ (vL0 1).toInt = (vL0 1).toInt ∧ (sL0 0).toInt = (sL0 0).toInt from ⟨rfl, rfl, rfl⟩), (show (vL1 0).toInt = (vL1 0).toInt ∧ (vL1 1).toInt = (vL1 1).toInt ∧ (sL1 0).toInt = (sL1 0).toInt from ⟨rfl, rfl, rfl⟩), (show (vL2 0).toInt = (vL2 0).toInt ∧ (vL2 1).toInt = (vL2 1).toInt ∧ (sL2 0).toInt = (sL2 0).toInt from ⟨rfl, rfl, rfl⟩), (show (vL3 0).toInt = (vL3 0).toInt ∧ (vL3 1).toInt = (vL3 1).toInt ∧ (sL3 0).toInt = (sL3 0).toInt from ⟨rfl, rfl, rfl⟩), by rw [ht]; exact hP⟩, hS.F ht⟩) hS.2.2 dX11_paste_51
            · skip
              have zz176 : p3.toInt = (1 : Int) := zi_eq.mp cz148
              refine W.eq (g2 := F0 m 30 ls [.int 1, .ref (qX 3)]) (by rw [cz148]) ?_
              refine va_aldq hx hb hK hP 11 6 rfl rfl (by unfold vp_in; decide) dX11_paste_30 ?_
              refine W.eq (g2 := F0 m 31 ls [.ref (qL1 0)]) rfl ?_
              refine lv_astore (lv' := [(7, .ref (qL1 0)), (6, .ref (qL1 0)), (0, .ref (qX 0)), (1, .int p1), (2, .int p2), (3, .int p3), (4, .int p4), (5, .int p5)]) hx hb dX11_paste_31 hl (by decide) rfl (fun ls hl => ?_)
              refine lv_aload hx hb dX11_paste_33 (lv_at hl 1 rfl) ?_
              refine va_get (D := (dC, dI)) (ci := 6) (v := .int (vL1 0)) (C := RX6) (T := TX6) (N := 4) hx hb hts (fun w h => List.mem_cons_of_mem _ (List.mem_append_right _ (List.mem_append_right _ (List.mem_append_right _ (List.mem_append_left _ h))))) hown hK hP 2 rfl rfl 1 (by decide) (hts (.fieldLink RX11 386 "SagMemory$Slot" "has" "Z") (wl_mem 4 rfl)) (fun _ h9 => h9) rfl dX11_paste_35 ?_
              refine lv_if_eq (tgt := 49) hx hb dX11_paste_38 (by decide) (fun cz177 => ?_) (fun cz177 => ?_)
              · skip
                have zz178 : (vL1 0).toInt = (0 : Int) := zi_eq.mp cz177
                refine lv_bipush (v := (-6)) hx hb dX11_paste_49 (by decide) ?_
                rw [hQ]
                exact W.iret (v := (-6 : Int32)) hx hb hr (fun t ht hW => ⟨⟨(-6 : Int32), (), rfl, trivial, vL0, sL0, lL0, vL1, sL1, lL1, vL2, sL2, lL2, vL3, sL3, lL3, hsL0, hsL1, hsL2, hsL3, (show (vL0 0).toInt = (vL0 0).toInt ∧ (vL0 1).toInt = (vL0 1).toInt ∧ (sL0 0).toInt = (sL0 0).toInt from ⟨rfl, rfl, rfl⟩), (show (vL1 0).toInt = (vL1 0).toInt ∧ (vL1 1).toInt = (vL1 1).toInt ∧ (sL1 0).toInt = (sL1 0).toInt from ⟨rfl, rfl, rfl⟩), (show (vL2 0).toInt = (vL2 0).toInt ∧ (vL2 1).toInt = (vL2 1).toInt ∧ (sL2 0).toInt = (sL2 0).toInt from ⟨rfl, rfl, rfl⟩), (show (vL3 0).toInt = (vL3 0).toInt ∧ (vL3 1).toInt = (vL3 1).toInt ∧ (sL3 0).toInt = (sL3 0).toInt from ⟨rfl, rfl, rfl⟩), by rw [ht]; exact hP⟩, hS.F ht⟩) hS.2.2 dX11_paste_51
              · skip
                have zz179 : ¬ (vL1 0).toInt = (0 : Int) := fun h9 => cz177 (zi_eq.mpr h9)
                refine lv_aload hx hb dX11_paste_41 (lv_at hl 0 rfl) ?_
                refine va_get (D := (dC, dI)) (ci := 6) (v := .int (vL1 0)) (C := RX6) (T := TX6) (N := 4) hx hb hts (fun w h => List.mem_cons_of_mem _ (List.mem_append_right _ (List.mem_append_right _ (List.mem_append_right _ (List.mem_append_left _ h))))) hown hK hP 2 rfl rfl 1 (by decide) (hts (.fieldLink RX11 386 "SagMemory$Slot" "has" "Z") (wl_mem 4 rfl)) (fun _ h9 => h9) rfl dX11_paste_43 ?_
                refine lv_if_ne (tgt := 52) hx hb dX11_paste_46 (by decide) (fun cz180 => ?_) (fun cz180 => ?_)
                · skip
                  have zz181 : ¬ (vL1 0).toInt = (0 : Int) := fun h9 => cz180 (zi_eq.mpr h9)
                  refine lv_aload hx hb dX11_paste_52 (lv_at hl 1 rfl) ?_
                  refine va_get (D := (dC, dI)) (ci := 6) (v := .int (vL1 1)) (C := RX6) (T := TX6) (N := 4) hx hb hts (fun w h => List.mem_cons_of_mem _ (List.mem_append_right _ (List.mem_append_right _ (List.mem_append_right _ (List.mem_append_left _ h))))) hown hK hP 2 rfl rfl 2 (by decide) (hts (.fieldLink RX11 396 "SagMemory$Slot" "width" "I") (wl_mem 5 rfl)) (fun _ h9 => h9) rfl dX11_paste_54 ?_
                  refine lv_aload hx hb dX11_paste_57 (lv_at hl 0 rfl) ?_
                  refine va_get (D := (dC, dI)) (ci := 6) (v := .int (vL1 1)) (C := RX6) (T := TX6) (N := 4) hx hb hts (fun w h => List.mem_cons_of_mem _ (List.mem_append_right _ (List.mem_append_right _ (List.mem_append_right _ (List.mem_append_left _ h))))) hown hK hP 2 rfl rfl 2 (by decide) (hts (.fieldLink RX11 396 "SagMemory$Slot" "width" "I") (wl_mem 5 rfl)) (fun _ h9 => h9) rfl dX11_paste_59 ?_
                  refine lv_icmp_eq (tgt := 68) hx hb dX11_paste_62 (by decide) (fun cz182 => ?_) (fun cz182 => ?_)
                  · skip
                    have zz183 : (vL1 1).toInt = (vL1 1).toInt := zi_eq.mp cz182
                    refine lv_aload hx hb dX11_paste_68 (lv_at hl 1 rfl) ?_
                    refine lv_iload_n hx hb dX11_paste_70 rfl (lv_at hl 4 rfl) ?_
                    refine lv_iload hx hb dX11_paste_71 (lv_at hl 7 rfl) ?_
                    have hPc := hP.sub (ws' := (List.flatten [(wSlot qL1 k vL1 sL1 lL1)])) [2, 3] rfl
                    refine vp_callSi (va_Run.run (va_runV (As := [.int p2, .int p5]) (rest := []) ⟨hx, hb, hml, hown, hts⟩ (c_X6_spans_x l dC dI k qL1 vL1 sL1 lL1 p2 p5 hsL1) (cwV 2 hts (gk_V (wl_mem 6 rfl) (wl_mem 7 rfl) (wl_mem 8 rfl) (wl_mem 9 rfl) (fun w h => List.mem_cons_of_mem _ (List.mem_append_right _ (List.mem_append_right _ (List.mem_append_right _ (List.mem_append_right _ (List.mem_append_left _ h)))))) wkg_c_X6_spans_x) rfl rfl rfl (by decide +kernel) ⟨Nat.le_of_ble_eq_true rfl, Nat.le_of_ble_eq_true rfl⟩) ⟨fun a U g mk q => by obtain ⟨q0, qP, qK⟩ := q; exact ⟨q0, qP, va_K.moved (u := U) (U := U.calling g mk a) (Vm.Alike.refl U.vm) qK⟩, va_recv hK hPc (ci := 6) (q0 := 0) rfl rfl, fun U hU hW => ⟨rfl, by rw [hU]; exact hPc, va_K.moved hW.alike hK⟩⟩ rfl rfl hl.1 rfl (lv_room (Nat.le_of_ble_eq_true rfl)) dX11_paste_73 ⟨Nat.le_of_ble_eq_true rfl, Nat.le_of_ble_eq_true rfl⟩)) (fun rz185 gz184 => ?_)
                    clear hPc
                    obtain ⟨pz186, pz187⟩ := gz184
                    have pz186 : (rz185.toInt = 0 ∧ (p2.toInt < 0 ∨ p5.toInt < 0 ∨ (sL1 0).toInt < p2.toInt + p5.toInt)) ∨ (rz185.toInt = 1 ∧ 0 ≤ p2.toInt ∧ 0 ≤ p5.toInt ∧ p2.toInt + p5.toInt ≤ (sL1 0).toInt) := pz186
                    have pz187 : rz185.toInt = 0 ∨ rz185.toInt = 1 := pz187
                    have bz188 := hsL1 0
                    refine lv_if_eq (tgt := 91) hx hb dX11_paste_76 (by decide) (fun cz189 => ?_) (fun cz189 => ?_)
                    · skip
                      have zz190 : rz185.toInt = (0 : Int) := zi_eq.mp cz189
                      refine lv_bipush (v := (-7)) hx hb dX11_paste_91 (by decide) ?_
                      rw [hQ]
                      exact W.iret (v := (-7 : Int32)) hx hb hr (fun t ht hW => ⟨⟨(-7 : Int32), (), rfl, trivial, vL0, sL0, lL0, vL1, sL1, lL1, vL2, sL2, lL2, vL3, sL3, lL3, hsL0, hsL1, hsL2, hsL3, (show (vL0 0).toInt = (vL0 0).toInt ∧ (vL0 1).toInt = (vL0 1).toInt ∧ (sL0 0).toInt = (sL0 0).toInt from ⟨rfl, rfl, rfl⟩), (show (vL1 0).toInt = (vL1 0).toInt ∧ (vL1 1).toInt = (vL1 1).toInt ∧ (sL1 0).toInt = (sL1 0).toInt from ⟨rfl, rfl, rfl⟩), (show (vL2 0).toInt = (vL2 0).toInt ∧ (vL2 1).toInt = (vL2 1).toInt ∧ (sL2 0).toInt = (sL2 0).toInt from ⟨rfl, rfl, rfl⟩), (show (vL3 0).toInt = (vL3 0).toInt ∧ (vL3 1).toInt = (vL3 1).toInt ∧ (sL3 0).toInt = (sL3 0).toInt from ⟨rfl, rfl, rfl⟩), by rw [ht]; exact hP⟩, hS.F ht⟩) hS.2.2 dX11_paste_93
                    · skip
                      have zz191 : ¬ rz185.toInt = (0 : Int) := fun h9 => cz189 (zi_eq.mpr h9)
                      refine lv_aload hx hb dX11_paste_79 (lv_at hl 0 rfl) ?_
                      refine lv_iload hx hb dX11_paste_81 (lv_at hl 6 rfl) ?_
                      refine lv_iload hx hb dX11_paste_83 (lv_at hl 7 rfl) ?_
                      have hPc := hP.sub (ws' := (List.flatten [(wSlot qL1 k vL1 sL1 lL1)])) [2, 3] rfl
                      refine vp_callSi (va_Run.run (va_runV (As := [.int p4, .int p5]) (rest := []) ⟨hx, hb, hml, hown, hts⟩ (c_X6_spans_x l dC dI k qL1 vL1 sL1 lL1 p4 p5 hsL1) (cwV 2 hts (gk_V (wl_mem 6 rfl) (wl_mem 7 rfl) (wl_mem 8 rfl) (wl_mem 9 rfl) (fun w h => List.mem_cons_of_mem _ (List.mem_append_right _ (List.mem_append_right _ (List.mem_append_right _ (List.mem_append_right _ (List.mem_append_left _ h)))))) wkg_c_X6_spans_x) rfl rfl rfl (by decide +kernel) ⟨Nat.le_of_ble_eq_true rfl, Nat.le_of_ble_eq_true rfl⟩) ⟨fun a U g mk q => by obtain ⟨q0, qP, qK⟩ := q; exact ⟨q0, qP, va_K.moved (u := U) (U := U.calling g mk a) (Vm.Alike.refl U.vm) qK⟩, va_recv hK hPc (ci := 6) (q0 := 0) rfl rfl, fun U hU hW => ⟨rfl, by rw [hU]; exact hPc, va_K.moved hW.alike hK⟩⟩ rfl rfl hl.1 rfl (lv_room (Nat.le_of_ble_eq_true rfl)) dX11_paste_85 ⟨Nat.le_of_ble_eq_true rfl, Nat.le_of_ble_eq_true rfl⟩)) (fun rz193 gz192 => ?_)
                      clear hPc
                      obtain ⟨pz194, pz195⟩ := gz192
                      have pz194 : (rz193.toInt = 0 ∧ (p4.toInt < 0 ∨ p5.toInt < 0 ∨ (sL1 0).toInt < p4.toInt + p5.toInt)) ∨ (rz193.toInt = 1 ∧ 0 ≤ p4.toInt ∧ 0 ≤ p5.toInt ∧ p4.toInt + p5.toInt ≤ (sL1 0).toInt) := pz194
                      have pz195 : rz193.toInt = 0 ∨ rz193.toInt = 1 := pz195
                      refine lv_if_ne (tgt := 94) hx hb dX11_paste_88 (by decide) (fun cz196 => ?_) (fun cz196 => ?_)
                      · skip
                        have zz197 : ¬ rz193.toInt = (0 : Int) := fun h9 => cz196 (zi_eq.mpr h9)
                        refine lv_aload hx hb dX11_paste_94 (lv_at hl 1 rfl) ?_
                        refine va_get (D := (dC, dI)) (ci := 6) (v := .ref (qL1 1)) (C := RX6) (T := TX6) (N := 4) hx hb hts (fun w h => List.mem_cons_of_mem _ (List.mem_append_right _ (List.mem_append_right _ (List.mem_append_right _ (List.mem_append_left _ h))))) hown hK hP 2 rfl rfl 0 (by decide) (hts (.fieldLink RX11 388 "SagMemory$Slot" "numbers" "[J") (wl_mem 10 rfl)) (fun _ h9 => h9) rfl dX11_paste_96 ?_
                        refine lv_iload_n hx hb dX11_paste_99 rfl (lv_at hl 4 rfl) ?_
                        refine lv_aload hx hb dX11_paste_100 (lv_at hl 0 rfl) ?_
                        refine va_get (D := (dC, dI)) (ci := 6) (v := .ref (qL1 1)) (C := RX6) (T := TX6) (N := 4) hx hb hts (fun w h => List.mem_cons_of_mem _ (List.mem_append_right _ (List.mem_append_right _ (List.mem_append_right _ (List.mem_append_left _ h))))) hown hK hP 2 rfl rfl 0 (by decide) (hts (.fieldLink RX11 388 "SagMemory$Slot" "numbers" "[J") (wl_mem 10 rfl)) (fun _ h9 => h9) rfl dX11_paste_102 ?_
                        refine lv_iload hx hb dX11_paste_105 (lv_at hl 6 rfl) ?_
                        refine lv_iload hx hb dX11_paste_107 (lv_at hl 7 rfl) ?_
                        refine va_copyl (ty := .long) hx hb (by rw [hml]; exact hl.1.symm) hown (hts (.methodLink RX11 402 arraycopyName) (wl_mem 11 rfl)) (hts (.native arraycopyName) (wl_mem 12 rfl)) (hts (.static arraycopyName) (wl_mem 13 rfl)) (hts (.initialized "java/lang/System") (wl_mem 14 rfl)) hK hP hD hS 3 3 1 1 rfl rfl rfl rfl rfl (fun h9 => by have h8 := zi_lt.mp h9; have h8 : p2.toInt < (0 : Int) := h8; omega) (fun h9 => by have h8 := zi_lt.mp h9; have h8 : p4.toInt < (0 : Int) := h8; omega) (fun h9 => by have h8 := zi_lt.mp h9; have h8 : p5.toInt < (0 : Int) := h8; omega) (by have h8 := zc_nat p2 (by show 0 ≤ p2.toInt; omega); have h9 := zc_nat p5 (by show 0 ≤ p5.toInt; omega); have h8 : ((p2).toNatClampNeg : Int) = p2.toInt := h8; have h9 : ((p5).toNatClampNeg : Int) = p5.toInt := h9; omega) (by have h8 := zc_nat p4 (by show 0 ≤ p4.toInt; omega); have h9 := zc_nat p5 (by show 0 ≤ p5.toInt; omega); have h8 : ((p4).toNatClampNeg : Int) = p4.toInt := h8; have h9 : ((p5).toNatClampNeg : Int) = p5.toInt := h9; omega) (fun _ _ => rfl) (Nat.le_of_ble_eq_true rfl) (Nat.le_of_ble_eq_true rfl) dX11_paste_109 (fun H locs hP hD hS => ?_)
                        obtain ⟨fz198, efz198, hP, hD⟩ : ∃ fz198 : Nat → Int64, fz198 = va_cpy (lL1 0) (lL1 0) p2.toNatClampNeg p4.toNatClampNeg p5.toNatClampNeg ∧ va_P (dC, dI) vwCl (List.flatten [(wSlot qL0 k vL0 sL0 lL0), (wSlot qL1 k vL1 sL1 (va_up lL1 0 fz198)), (wSlot qL2 k vL2 sL2 lL2), (wSlot qL3 k vL3 sL3 lL3)] ++ List.flatten [(wSag qX k tapeX toldX actsX nowX trialX storyX attemptX orderSearchX routeSearchX setSearchX probeX (qL0 0) (qL1 0) (qL2 0) (qL3 0) image0X image1X image2X aX)]) H ∧ va_D A (List.flatten [(wSlot qL0 k vL0 sL0 lL0), (wSlot qL1 k vL1 sL1 (va_up lL1 0 fz198)), (wSlot qL2 k vL2 sL2 lL2), (wSlot qL3 k vL3 sL3 lL3)] ++ List.flatten [(wSag qX k tapeX toldX actsX nowX trialX storyX attemptX orderSearchX routeSearchX setSearchX probeX (qL0 0) (qL1 0) (qL2 0) (qL3 0) image0X image1X image2X aX)]) := ⟨_, rfl, hP, hD⟩
                        refine lv_iconst (v := 0) hx hb dX11_paste_112 (by decide) ?_
                        rw [hQ]
                        exact W.iret (v := (0 : Int32)) hx hb hr (fun t ht hW => ⟨⟨(0 : Int32), (), rfl, trivial, vL0, sL0, lL0, vL1, sL1, (va_up lL1 0 fz198), vL2, sL2, lL2, vL3, sL3, lL3, hsL0, hsL1, hsL2, hsL3, (show (vL0 0).toInt = (vL0 0).toInt ∧ (vL0 1).toInt = (vL0 1).toInt ∧ (sL0 0).toInt = (sL0 0).toInt from ⟨rfl, rfl, rfl⟩), (show (vL1 0).toInt = (vL1 0).toInt ∧ (vL1 1).toInt = (vL1 1).toInt ∧ (sL1 0).toInt = (sL1 0).toInt from ⟨rfl, rfl, rfl⟩), (show (vL2 0).toInt = (vL2 0).toInt ∧ (vL2 1).toInt = (vL2 1).toInt ∧ (sL2 0).toInt = (sL2 0).toInt from ⟨rfl, rfl, rfl⟩), (show (vL3 0).toInt = (vL3 0).toInt ∧ (vL3 1).toInt = (vL3 1).toInt ∧ (sL3 0).toInt = (sL3 0).toInt from ⟨rfl, rfl, rfl⟩), by rw [ht]; exact hP⟩, hS.F ht⟩) hS.2.2 dX11_paste_113
                      · skip
                        have zz199 : rz193.toInt = (0 : Int) := zi_eq.mp cz196
                        refine lv_bipush (v := (-7)) hx hb dX11_paste_91 (by decide) ?_
                        rw [hQ]
                        exact W.iret (v := (-7 : Int32)) hx hb hr (fun t ht hW => ⟨⟨(-7 : Int32), (), rfl, trivial, vL0, sL0, lL0, vL1, sL1, lL1, vL2, sL2, lL2, vL3, sL3, lL3, hsL0, hsL1, hsL2, hsL3, (show (vL0 0).toInt = (vL0 0).toInt ∧ (vL0 1).toInt = (vL0 1).toInt ∧ (sL0 0).toInt = (sL0 0).toInt from ⟨rfl, rfl, rfl⟩), (show (vL1 0).toInt = (vL1 0).toInt ∧ (vL1 1).toInt = (vL1 1).toInt ∧ (sL1 0).toInt = (sL1 0).toInt from ⟨rfl, rfl, rfl⟩), (show (vL2 0).toInt = (vL2 0).toInt ∧ (vL2 1).toInt = (vL2 1).toInt ∧ (sL2 0).toInt = (sL2 0).toInt from ⟨rfl, rfl, rfl⟩), (show (vL3 0).toInt = (vL3 0).toInt ∧ (vL3 1).toInt = (vL3 1).toInt ∧ (sL3 0).toInt = (sL3 0).toInt from ⟨rfl, rfl, rfl⟩), by rw [ht]; exact hP⟩, hS.F ht⟩) hS.2.2 dX11_paste_93
                  · skip
                    have zz200 : ¬ (vL1 1).toInt = (vL1 1).toInt := fun h9 => cz182 (zi_eq.mpr h9)
                    exact absurd rfl cz182
                · skip
                  have zz201 : (vL1 0).toInt = (0 : Int) := zi_eq.mp cz180
                  omega
            · skip
              have zz202 : p3.toInt = (2 : Int) := zi_eq.mp cz148
              refine W.eq (g2 := F0 m 30 ls [.int 2, .ref (qX 3)]) (by rw [cz148]) ?_
              refine va_aldq hx hb hK hP 11 6 rfl rfl (by unfold vp_in; decide) dX11_paste_30 ?_
              refine W.eq (g2 := F0 m 31 ls [.ref (qL2 0)]) rfl ?_
              refine lv_astore (lv' := [(7, .ref (qL2 0)), (6, .ref (qL1 0)), (0, .ref (qX 0)), (1, .int p1), (2, .int p2), (3, .int p3), (4, .int p4), (5, .int p5)]) hx hb dX11_paste_31 hl (by decide) rfl (fun ls hl => ?_)
              refine lv_aload hx hb dX11_paste_33 (lv_at hl 1 rfl) ?_
              refine va_get (D := (dC, dI)) (ci := 6) (v := .int (vL1 0)) (C := RX6) (T := TX6) (N := 4) hx hb hts (fun w h => List.mem_cons_of_mem _ (List.mem_append_right _ (List.mem_append_right _ (List.mem_append_right _ (List.mem_append_left _ h))))) hown hK hP 2 rfl rfl 1 (by decide) (hts (.fieldLink RX11 386 "SagMemory$Slot" "has" "Z") (wl_mem 4 rfl)) (fun _ h9 => h9) rfl dX11_paste_35 ?_
              refine lv_if_eq (tgt := 49) hx hb dX11_paste_38 (by decide) (fun cz203 => ?_) (fun cz203 => ?_)
              · skip
                have zz204 : (vL1 0).toInt = (0 : Int) := zi_eq.mp cz203
                refine lv_bipush (v := (-6)) hx hb dX11_paste_49 (by decide) ?_
                rw [hQ]
                exact W.iret (v := (-6 : Int32)) hx hb hr (fun t ht hW => ⟨⟨(-6 : Int32), (), rfl, trivial, vL0, sL0, lL0, vL1, sL1, lL1, vL2, sL2, lL2, vL3, sL3, lL3, hsL0, hsL1, hsL2, hsL3, (show (vL0 0).toInt = (vL0 0).toInt ∧ (vL0 1).toInt = (vL0 1).toInt ∧ (sL0 0).toInt = (sL0 0).toInt from ⟨rfl, rfl, rfl⟩), (show (vL1 0).toInt = (vL1 0).toInt ∧ (vL1 1).toInt = (vL1 1).toInt ∧ (sL1 0).toInt = (sL1 0).toInt from ⟨rfl, rfl, rfl⟩), (show (vL2 0).toInt = (vL2 0).toInt ∧ (vL2 1).toInt = (vL2 1).toInt ∧ (sL2 0).toInt = (sL2 0).toInt from ⟨rfl, rfl, rfl⟩), (show (vL3 0).toInt = (vL3 0).toInt ∧ (vL3 1).toInt = (vL3 1).toInt ∧ (sL3 0).toInt = (sL3 0).toInt from ⟨rfl, rfl, rfl⟩), by rw [ht]; exact hP⟩, hS.F ht⟩) hS.2.2 dX11_paste_51
              · skip
                have zz205 : ¬ (vL1 0).toInt = (0 : Int) := fun h9 => cz203 (zi_eq.mpr h9)
                refine lv_aload hx hb dX11_paste_41 (lv_at hl 0 rfl) ?_
                refine va_get (D := (dC, dI)) (ci := 6) (v := .int (vL2 0)) (C := RX6) (T := TX6) (N := 4) hx hb hts (fun w h => List.mem_cons_of_mem _ (List.mem_append_right _ (List.mem_append_right _ (List.mem_append_right _ (List.mem_append_left _ h))))) hown hK hP 4 rfl rfl 1 (by decide) (hts (.fieldLink RX11 386 "SagMemory$Slot" "has" "Z") (wl_mem 4 rfl)) (fun _ h9 => h9) rfl dX11_paste_43 ?_
                refine lv_if_ne (tgt := 52) hx hb dX11_paste_46 (by decide) (fun cz206 => ?_) (fun cz206 => ?_)
                · skip
                  have zz207 : ¬ (vL2 0).toInt = (0 : Int) := fun h9 => cz206 (zi_eq.mpr h9)
                  refine lv_aload hx hb dX11_paste_52 (lv_at hl 1 rfl) ?_
                  refine va_get (D := (dC, dI)) (ci := 6) (v := .int (vL1 1)) (C := RX6) (T := TX6) (N := 4) hx hb hts (fun w h => List.mem_cons_of_mem _ (List.mem_append_right _ (List.mem_append_right _ (List.mem_append_right _ (List.mem_append_left _ h))))) hown hK hP 2 rfl rfl 2 (by decide) (hts (.fieldLink RX11 396 "SagMemory$Slot" "width" "I") (wl_mem 5 rfl)) (fun _ h9 => h9) rfl dX11_paste_54 ?_
                  refine lv_aload hx hb dX11_paste_57 (lv_at hl 0 rfl) ?_
                  refine va_get (D := (dC, dI)) (ci := 6) (v := .int (vL2 1)) (C := RX6) (T := TX6) (N := 4) hx hb hts (fun w h => List.mem_cons_of_mem _ (List.mem_append_right _ (List.mem_append_right _ (List.mem_append_right _ (List.mem_append_left _ h))))) hown hK hP 4 rfl rfl 2 (by decide) (hts (.fieldLink RX11 396 "SagMemory$Slot" "width" "I") (wl_mem 5 rfl)) (fun _ h9 => h9) rfl dX11_paste_59 ?_
                  refine lv_icmp_eq (tgt := 68) hx hb dX11_paste_62 (by decide) (fun cz208 => ?_) (fun cz208 => ?_)
                  · skip
                    have zz209 : (vL1 1).toInt = (vL2 1).toInt := zi_eq.mp cz208
                    refine lv_aload hx hb dX11_paste_68 (lv_at hl 1 rfl) ?_
                    refine lv_iload_n hx hb dX11_paste_70 rfl (lv_at hl 4 rfl) ?_
                    refine lv_iload hx hb dX11_paste_71 (lv_at hl 7 rfl) ?_
                    have hPc := hP.sub (ws' := (List.flatten [(wSlot qL1 k vL1 sL1 lL1)])) [2, 3] rfl
                    refine vp_callSi (va_Run.run (va_runV (As := [.int p2, .int p5]) (rest := []) ⟨hx, hb, hml, hown, hts⟩ (c_X6_spans_x l dC dI k qL1 vL1 sL1 lL1 p2 p5 hsL1) (cwV 2 hts (gk_V (wl_mem 6 rfl) (wl_mem 7 rfl) (wl_mem 8 rfl) (wl_mem 9 rfl) (fun w h => List.mem_cons_of_mem _ (List.mem_append_right _ (List.mem_append_right _ (List.mem_append_right _ (List.mem_append_right _ (List.mem_append_left _ h)))))) wkg_c_X6_spans_x) rfl rfl rfl (by decide +kernel) ⟨Nat.le_of_ble_eq_true rfl, Nat.le_of_ble_eq_true rfl⟩) ⟨fun a U g mk q => by obtain ⟨q0, qP, qK⟩ := q; exact ⟨q0, qP, va_K.moved (u := U) (U := U.calling g mk a) (Vm.Alike.refl U.vm) qK⟩, va_recv hK hPc (ci := 6) (q0 := 0) rfl rfl, fun U hU hW => ⟨rfl, by rw [hU]; exact hPc, va_K.moved hW.alike hK⟩⟩ rfl rfl hl.1 rfl (lv_room (Nat.le_of_ble_eq_true rfl)) dX11_paste_73 ⟨Nat.le_of_ble_eq_true rfl, Nat.le_of_ble_eq_true rfl⟩)) (fun rz211 gz210 => ?_)
                    clear hPc
                    obtain ⟨pz212, pz213⟩ := gz210
                    have pz212 : (rz211.toInt = 0 ∧ (p2.toInt < 0 ∨ p5.toInt < 0 ∨ (sL1 0).toInt < p2.toInt + p5.toInt)) ∨ (rz211.toInt = 1 ∧ 0 ≤ p2.toInt ∧ 0 ≤ p5.toInt ∧ p2.toInt + p5.toInt ≤ (sL1 0).toInt) := pz212
                    have pz213 : rz211.toInt = 0 ∨ rz211.toInt = 1 := pz213
                    have bz214 := hsL1 0
                    refine lv_if_eq (tgt := 91) hx hb dX11_paste_76 (by decide) (fun cz215 => ?_) (fun cz215 => ?_)
                    · skip
                      have zz216 : rz211.toInt = (0 : Int) := zi_eq.mp cz215
                      refine lv_bipush (v := (-7)) hx hb dX11_paste_91 (by decide) ?_
                      rw [hQ]
                      exact W.iret (v := (-7 : Int32)) hx hb hr (fun t ht hW => ⟨⟨(-7 : Int32), (), rfl, trivial, vL0, sL0, lL0, vL1, sL1, lL1, vL2, sL2, lL2, vL3, sL3, lL3, hsL0, hsL1, hsL2, hsL3, (show (vL0 0).toInt = (vL0 0).toInt ∧ (vL0 1).toInt = (vL0 1).toInt ∧ (sL0 0).toInt = (sL0 0).toInt from ⟨rfl, rfl, rfl⟩), (show (vL1 0).toInt = (vL1 0).toInt ∧ (vL1 1).toInt = (vL1 1).toInt ∧ (sL1 0).toInt = (sL1 0).toInt from ⟨rfl, rfl, rfl⟩), (show (vL2 0).toInt = (vL2 0).toInt ∧ (vL2 1).toInt = (vL2 1).toInt ∧ (sL2 0).toInt = (sL2 0).toInt from ⟨rfl, rfl, rfl⟩), (show (vL3 0).toInt = (vL3 0).toInt ∧ (vL3 1).toInt = (vL3 1).toInt ∧ (sL3 0).toInt = (sL3 0).toInt from ⟨rfl, rfl, rfl⟩), by rw [ht]; exact hP⟩, hS.F ht⟩) hS.2.2 dX11_paste_93
                    · skip
                      have zz217 : ¬ rz211.toInt = (0 : Int) := fun h9 => cz215 (zi_eq.mpr h9)
                      refine lv_aload hx hb dX11_paste_79 (lv_at hl 0 rfl) ?_
                      refine lv_iload hx hb dX11_paste_81 (lv_at hl 6 rfl) ?_
                      refine lv_iload hx hb dX11_paste_83 (lv_at hl 7 rfl) ?_
                      have hPc := hP.sub (ws' := (List.flatten [(wSlot qL2 k vL2 sL2 lL2)])) [4, 5] rfl
                      refine vp_callSi (va_Run.run (va_runV (As := [.int p4, .int p5]) (rest := []) ⟨hx, hb, hml, hown, hts⟩ (c_X6_spans_x l dC dI k qL2 vL2 sL2 lL2 p4 p5 hsL2) (cwV 2 hts (gk_V (wl_mem 6 rfl) (wl_mem 7 rfl) (wl_mem 8 rfl) (wl_mem 9 rfl) (fun w h => List.mem_cons_of_mem _ (List.mem_append_right _ (List.mem_append_right _ (List.mem_append_right _ (List.mem_append_right _ (List.mem_append_left _ h)))))) wkg_c_X6_spans_x) rfl rfl rfl (by decide +kernel) ⟨Nat.le_of_ble_eq_true rfl, Nat.le_of_ble_eq_true rfl⟩) ⟨fun a U g mk q => by obtain ⟨q0, qP, qK⟩ := q; exact ⟨q0, qP, va_K.moved (u := U) (U := U.calling g mk a) (Vm.Alike.refl U.vm) qK⟩, va_recv hK hPc (ci := 6) (q0 := 0) rfl rfl, fun U hU hW => ⟨rfl, by rw [hU]; exact hPc, va_K.moved hW.alike hK⟩⟩ rfl rfl hl.1 rfl (lv_room (Nat.le_of_ble_eq_true rfl)) dX11_paste_85 ⟨Nat.le_of_ble_eq_true rfl, Nat.le_of_ble_eq_true rfl⟩)) (fun rz219 gz218 => ?_)
                      clear hPc
                      obtain ⟨pz220, pz221⟩ := gz218
                      have pz220 : (rz219.toInt = 0 ∧ (p4.toInt < 0 ∨ p5.toInt < 0 ∨ (sL2 0).toInt < p4.toInt + p5.toInt)) ∨ (rz219.toInt = 1 ∧ 0 ≤ p4.toInt ∧ 0 ≤ p5.toInt ∧ p4.toInt + p5.toInt ≤ (sL2 0).toInt) := pz220
                      have pz221 : rz219.toInt = 0 ∨ rz219.toInt = 1 := pz221
                      have bz222 := hsL2 0
                      refine lv_if_ne (tgt := 94) hx hb dX11_paste_88 (by decide) (fun cz223 => ?_) (fun cz223 => ?_)
                      · skip
                        have zz224 : ¬ rz219.toInt = (0 : Int) := fun h9 => cz223 (zi_eq.mpr h9)
                        refine lv_aload hx hb dX11_paste_94 (lv_at hl 1 rfl) ?_
                        refine va_get (D := (dC, dI)) (ci := 6) (v := .ref (qL1 1)) (C := RX6) (T := TX6) (N := 4) hx hb hts (fun w h => List.mem_cons_of_mem _ (List.mem_append_right _ (List.mem_append_right _ (List.mem_append_right _ (List.mem_append_left _ h))))) hown hK hP 2 rfl rfl 0 (by decide) (hts (.fieldLink RX11 388 "SagMemory$Slot" "numbers" "[J") (wl_mem 10 rfl)) (fun _ h9 => h9) rfl dX11_paste_96 ?_
                        refine lv_iload_n hx hb dX11_paste_99 rfl (lv_at hl 4 rfl) ?_
                        refine lv_aload hx hb dX11_paste_100 (lv_at hl 0 rfl) ?_
                        refine va_get (D := (dC, dI)) (ci := 6) (v := .ref (qL2 1)) (C := RX6) (T := TX6) (N := 4) hx hb hts (fun w h => List.mem_cons_of_mem _ (List.mem_append_right _ (List.mem_append_right _ (List.mem_append_right _ (List.mem_append_left _ h))))) hown hK hP 4 rfl rfl 0 (by decide) (hts (.fieldLink RX11 388 "SagMemory$Slot" "numbers" "[J") (wl_mem 10 rfl)) (fun _ h9 => h9) rfl dX11_paste_102 ?_
                        refine lv_iload hx hb dX11_paste_105 (lv_at hl 6 rfl) ?_
                        refine lv_iload hx hb dX11_paste_107 (lv_at hl 7 rfl) ?_
                        refine va_copyl (ty := .long) hx hb (by rw [hml]; exact hl.1.symm) hown (hts (.methodLink RX11 402 arraycopyName) (wl_mem 11 rfl)) (hts (.native arraycopyName) (wl_mem 12 rfl)) (hts (.static arraycopyName) (wl_mem 13 rfl)) (hts (.initialized "java/lang/System") (wl_mem 14 rfl)) hK hP hD hS 3 5 1 1 rfl rfl rfl rfl rfl (fun h9 => by have h8 := zi_lt.mp h9; have h8 : p2.toInt < (0 : Int) := h8; omega) (fun h9 => by have h8 := zi_lt.mp h9; have h8 : p4.toInt < (0 : Int) := h8; omega) (fun h9 => by have h8 := zi_lt.mp h9; have h8 : p5.toInt < (0 : Int) := h8; omega) (by have h8 := zc_nat p2 (by show 0 ≤ p2.toInt; omega); have h9 := zc_nat p5 (by show 0 ≤ p5.toInt; omega); have h8 : ((p2).toNatClampNeg : Int) = p2.toInt := h8; have h9 : ((p5).toNatClampNeg : Int) = p5.toInt := h9; omega) (by have h8 := zc_nat p4 (by show 0 ≤ p4.toInt; omega); have h9 := zc_nat p5 (by show 0 ≤ p5.toInt; omega); have h8 : ((p4).toNatClampNeg : Int) = p4.toInt := h8; have h9 : ((p5).toNatClampNeg : Int) = p5.toInt := h9; omega) (fun _ _ => rfl) (Nat.le_of_ble_eq_true rfl) (Nat.le_of_ble_eq_true rfl) dX11_paste_109 (fun H locs hP hD hS => ?_)
                        obtain ⟨fz225, efz225, hP, hD⟩ : ∃ fz225 : Nat → Int64, fz225 = va_cpy (lL1 0) (lL2 0) p2.toNatClampNeg p4.toNatClampNeg p5.toNatClampNeg ∧ va_P (dC, dI) vwCl (List.flatten [(wSlot qL0 k vL0 sL0 lL0), (wSlot qL1 k vL1 sL1 lL1), (wSlot qL2 k vL2 sL2 (va_up lL2 0 fz225)), (wSlot qL3 k vL3 sL3 lL3)] ++ List.flatten [(wSag qX k tapeX toldX actsX nowX trialX storyX attemptX orderSearchX routeSearchX setSearchX probeX (qL0 0) (qL1 0) (qL2 0) (qL3 0) image0X image1X image2X aX)]) H ∧ va_D A (List.flatten [(wSlot qL0 k vL0 sL0 lL0), (wSlot qL1 k vL1 sL1 lL1), (wSlot qL2 k vL2 sL2 (va_up lL2 0 fz225)), (wSlot qL3 k vL3 sL3 lL3)] ++ List.flatten [(wSag qX k tapeX toldX actsX nowX trialX storyX attemptX orderSearchX routeSearchX setSearchX probeX (qL0 0) (qL1 0) (qL2 0) (qL3 0) image0X image1X image2X aX)]) := ⟨_, rfl, hP, hD⟩
                        refine lv_iconst (v := 0) hx hb dX11_paste_112 (by decide) ?_
                        rw [hQ]
                        exact W.iret (v := (0 : Int32)) hx hb hr (fun t ht hW => ⟨⟨(0 : Int32), (), rfl, trivial, vL0, sL0, lL0, vL1, sL1, lL1, vL2, sL2, (va_up lL2 0 fz225), vL3, sL3, lL3, hsL0, hsL1, hsL2, hsL3, (show (vL0 0).toInt = (vL0 0).toInt ∧ (vL0 1).toInt = (vL0 1).toInt ∧ (sL0 0).toInt = (sL0 0).toInt from ⟨rfl, rfl, rfl⟩), (show (vL1 0).toInt = (vL1 0).toInt ∧ (vL1 1).toInt = (vL1 1).toInt ∧ (sL1 0).toInt = (sL1 0).toInt from ⟨rfl, rfl, rfl⟩), (show (vL2 0).toInt = (vL2 0).toInt ∧ (vL2 1).toInt = (vL2 1).toInt ∧ (sL2 0).toInt = (sL2 0).toInt from ⟨rfl, rfl, rfl⟩), (show (vL3 0).toInt = (vL3 0).toInt ∧ (vL3 1).toInt = (vL3 1).toInt ∧ (sL3 0).toInt = (sL3 0).toInt from ⟨rfl, rfl, rfl⟩), by rw [ht]; exact hP⟩, hS.F ht⟩) hS.2.2 dX11_paste_113
                      · skip
                        have zz226 : rz219.toInt = (0 : Int) := zi_eq.mp cz223
                        refine lv_bipush (v := (-7)) hx hb dX11_paste_91 (by decide) ?_
                        rw [hQ]
                        exact W.iret (v := (-7 : Int32)) hx hb hr (fun t ht hW => ⟨⟨(-7 : Int32), (), rfl, trivial, vL0, sL0, lL0, vL1, sL1, lL1, vL2, sL2, lL2, vL3, sL3, lL3, hsL0, hsL1, hsL2, hsL3, (show (vL0 0).toInt = (vL0 0).toInt ∧ (vL0 1).toInt = (vL0 1).toInt ∧ (sL0 0).toInt = (sL0 0).toInt from ⟨rfl, rfl, rfl⟩), (show (vL1 0).toInt = (vL1 0).toInt ∧ (vL1 1).toInt = (vL1 1).toInt ∧ (sL1 0).toInt = (sL1 0).toInt from ⟨rfl, rfl, rfl⟩), (show (vL2 0).toInt = (vL2 0).toInt ∧ (vL2 1).toInt = (vL2 1).toInt ∧ (sL2 0).toInt = (sL2 0).toInt from ⟨rfl, rfl, rfl⟩), (show (vL3 0).toInt = (vL3 0).toInt ∧ (vL3 1).toInt = (vL3 1).toInt ∧ (sL3 0).toInt = (sL3 0).toInt from ⟨rfl, rfl, rfl⟩), by rw [ht]; exact hP⟩, hS.F ht⟩) hS.2.2 dX11_paste_93
                  · skip
                    have zz227 : ¬ (vL1 1).toInt = (vL2 1).toInt := fun h9 => cz208 (zi_eq.mpr h9)
                    refine lv_bipush (v := (-8)) hx hb dX11_paste_65 (by decide) ?_
                    rw [hQ]
                    exact W.iret (v := (-8 : Int32)) hx hb hr (fun t ht hW => ⟨⟨(-8 : Int32), (), rfl, trivial, vL0, sL0, lL0, vL1, sL1, lL1, vL2, sL2, lL2, vL3, sL3, lL3, hsL0, hsL1, hsL2, hsL3, (show (vL0 0).toInt = (vL0 0).toInt ∧ (vL0 1).toInt = (vL0 1).toInt ∧ (sL0 0).toInt = (sL0 0).toInt from ⟨rfl, rfl, rfl⟩), (show (vL1 0).toInt = (vL1 0).toInt ∧ (vL1 1).toInt = (vL1 1).toInt ∧ (sL1 0).toInt = (sL1 0).toInt from ⟨rfl, rfl, rfl⟩), (show (vL2 0).toInt = (vL2 0).toInt ∧ (vL2 1).toInt = (vL2 1).toInt ∧ (sL2 0).toInt = (sL2 0).toInt from ⟨rfl, rfl, rfl⟩), (show (vL3 0).toInt = (vL3 0).toInt ∧ (vL3 1).toInt = (vL3 1).toInt ∧ (sL3 0).toInt = (sL3 0).toInt from ⟨rfl, rfl, rfl⟩), by rw [ht]; exact hP⟩, hS.F ht⟩) hS.2.2 dX11_paste_67
                · skip
                  have zz228 : (vL2 0).toInt = (0 : Int) := zi_eq.mp cz206
                  refine lv_bipush (v := (-6)) hx hb dX11_paste_49 (by decide) ?_
                  rw [hQ]
                  exact W.iret (v := (-6 : Int32)) hx hb hr (fun t ht hW => ⟨⟨(-6 : Int32), (), rfl, trivial, vL0, sL0, lL0, vL1, sL1, lL1, vL2, sL2, lL2, vL3, sL3, lL3, hsL0, hsL1, hsL2, hsL3, (show (vL0 0).toInt = (vL0 0).toInt ∧ (vL0 1).toInt = (vL0 1).toInt ∧ (sL0 0).toInt = (sL0 0).toInt from ⟨rfl, rfl, rfl⟩), (show (vL1 0).toInt = (vL1 0).toInt ∧ (vL1 1).toInt = (vL1 1).toInt ∧ (sL1 0).toInt = (sL1 0).toInt from ⟨rfl, rfl, rfl⟩), (show (vL2 0).toInt = (vL2 0).toInt ∧ (vL2 1).toInt = (vL2 1).toInt ∧ (sL2 0).toInt = (sL2 0).toInt from ⟨rfl, rfl, rfl⟩), (show (vL3 0).toInt = (vL3 0).toInt ∧ (vL3 1).toInt = (vL3 1).toInt ∧ (sL3 0).toInt = (sL3 0).toInt from ⟨rfl, rfl, rfl⟩), by rw [ht]; exact hP⟩, hS.F ht⟩) hS.2.2 dX11_paste_51
            · skip
              have zz229 : p3.toInt = (3 : Int) := zi_eq.mp cz148
              refine W.eq (g2 := F0 m 30 ls [.int 3, .ref (qX 3)]) (by rw [cz148]) ?_
              refine va_aldq hx hb hK hP 11 6 rfl rfl (by unfold vp_in; decide) dX11_paste_30 ?_
              refine W.eq (g2 := F0 m 31 ls [.ref (qL3 0)]) rfl ?_
              refine lv_astore (lv' := [(7, .ref (qL3 0)), (6, .ref (qL1 0)), (0, .ref (qX 0)), (1, .int p1), (2, .int p2), (3, .int p3), (4, .int p4), (5, .int p5)]) hx hb dX11_paste_31 hl (by decide) rfl (fun ls hl => ?_)
              refine lv_aload hx hb dX11_paste_33 (lv_at hl 1 rfl) ?_
              refine va_get (D := (dC, dI)) (ci := 6) (v := .int (vL1 0)) (C := RX6) (T := TX6) (N := 4) hx hb hts (fun w h => List.mem_cons_of_mem _ (List.mem_append_right _ (List.mem_append_right _ (List.mem_append_right _ (List.mem_append_left _ h))))) hown hK hP 2 rfl rfl 1 (by decide) (hts (.fieldLink RX11 386 "SagMemory$Slot" "has" "Z") (wl_mem 4 rfl)) (fun _ h9 => h9) rfl dX11_paste_35 ?_
              refine lv_if_eq (tgt := 49) hx hb dX11_paste_38 (by decide) (fun cz230 => ?_) (fun cz230 => ?_)
              · skip
                have zz231 : (vL1 0).toInt = (0 : Int) := zi_eq.mp cz230
                refine lv_bipush (v := (-6)) hx hb dX11_paste_49 (by decide) ?_
                rw [hQ]
                exact W.iret (v := (-6 : Int32)) hx hb hr (fun t ht hW => ⟨⟨(-6 : Int32), (), rfl, trivial, vL0, sL0, lL0, vL1, sL1, lL1, vL2, sL2, lL2, vL3, sL3, lL3, hsL0, hsL1, hsL2, hsL3, (show (vL0 0).toInt = (vL0 0).toInt ∧ (vL0 1).toInt = (vL0 1).toInt ∧ (sL0 0).toInt = (sL0 0).toInt from ⟨rfl, rfl, rfl⟩), (show (vL1 0).toInt = (vL1 0).toInt ∧ (vL1 1).toInt = (vL1 1).toInt ∧ (sL1 0).toInt = (sL1 0).toInt from ⟨rfl, rfl, rfl⟩), (show (vL2 0).toInt = (vL2 0).toInt ∧ (vL2 1).toInt = (vL2 1).toInt ∧ (sL2 0).toInt = (sL2 0).toInt from ⟨rfl, rfl, rfl⟩), (show (vL3 0).toInt = (vL3 0).toInt ∧ (vL3 1).toInt = (vL3 1).toInt ∧ (sL3 0).toInt = (sL3 0).toInt from ⟨rfl, rfl, rfl⟩), by rw [ht]; exact hP⟩, hS.F ht⟩) hS.2.2 dX11_paste_51
              · skip
                have zz232 : ¬ (vL1 0).toInt = (0 : Int) := fun h9 => cz230 (zi_eq.mpr h9)
                refine lv_aload hx hb dX11_paste_41 (lv_at hl 0 rfl) ?_
                refine va_get (D := (dC, dI)) (ci := 6) (v := .int (vL3 0)) (C := RX6) (T := TX6) (N := 4) hx hb hts (fun w h => List.mem_cons_of_mem _ (List.mem_append_right _ (List.mem_append_right _ (List.mem_append_right _ (List.mem_append_left _ h))))) hown hK hP 6 rfl rfl 1 (by decide) (hts (.fieldLink RX11 386 "SagMemory$Slot" "has" "Z") (wl_mem 4 rfl)) (fun _ h9 => h9) rfl dX11_paste_43 ?_
                refine lv_if_ne (tgt := 52) hx hb dX11_paste_46 (by decide) (fun cz233 => ?_) (fun cz233 => ?_)
                · skip
                  have zz234 : ¬ (vL3 0).toInt = (0 : Int) := fun h9 => cz233 (zi_eq.mpr h9)
                  refine lv_aload hx hb dX11_paste_52 (lv_at hl 1 rfl) ?_
                  refine va_get (D := (dC, dI)) (ci := 6) (v := .int (vL1 1)) (C := RX6) (T := TX6) (N := 4) hx hb hts (fun w h => List.mem_cons_of_mem _ (List.mem_append_right _ (List.mem_append_right _ (List.mem_append_right _ (List.mem_append_left _ h))))) hown hK hP 2 rfl rfl 2 (by decide) (hts (.fieldLink RX11 396 "SagMemory$Slot" "width" "I") (wl_mem 5 rfl)) (fun _ h9 => h9) rfl dX11_paste_54 ?_
                  refine lv_aload hx hb dX11_paste_57 (lv_at hl 0 rfl) ?_
                  refine va_get (D := (dC, dI)) (ci := 6) (v := .int (vL3 1)) (C := RX6) (T := TX6) (N := 4) hx hb hts (fun w h => List.mem_cons_of_mem _ (List.mem_append_right _ (List.mem_append_right _ (List.mem_append_right _ (List.mem_append_left _ h))))) hown hK hP 6 rfl rfl 2 (by decide) (hts (.fieldLink RX11 396 "SagMemory$Slot" "width" "I") (wl_mem 5 rfl)) (fun _ h9 => h9) rfl dX11_paste_59 ?_
                  refine lv_icmp_eq (tgt := 68) hx hb dX11_paste_62 (by decide) (fun cz235 => ?_) (fun cz235 => ?_)
                  · skip
                    have zz236 : (vL1 1).toInt = (vL3 1).toInt := zi_eq.mp cz235
                    refine lv_aload hx hb dX11_paste_68 (lv_at hl 1 rfl) ?_
                    refine lv_iload_n hx hb dX11_paste_70 rfl (lv_at hl 4 rfl) ?_
                    refine lv_iload hx hb dX11_paste_71 (lv_at hl 7 rfl) ?_
                    have hPc := hP.sub (ws' := (List.flatten [(wSlot qL1 k vL1 sL1 lL1)])) [2, 3] rfl
                    refine vp_callSi (va_Run.run (va_runV (As := [.int p2, .int p5]) (rest := []) ⟨hx, hb, hml, hown, hts⟩ (c_X6_spans_x l dC dI k qL1 vL1 sL1 lL1 p2 p5 hsL1) (cwV 2 hts (gk_V (wl_mem 6 rfl) (wl_mem 7 rfl) (wl_mem 8 rfl) (wl_mem 9 rfl) (fun w h => List.mem_cons_of_mem _ (List.mem_append_right _ (List.mem_append_right _ (List.mem_append_right _ (List.mem_append_right _ (List.mem_append_left _ h)))))) wkg_c_X6_spans_x) rfl rfl rfl (by decide +kernel) ⟨Nat.le_of_ble_eq_true rfl, Nat.le_of_ble_eq_true rfl⟩) ⟨fun a U g mk q => by obtain ⟨q0, qP, qK⟩ := q; exact ⟨q0, qP, va_K.moved (u := U) (U := U.calling g mk a) (Vm.Alike.refl U.vm) qK⟩, va_recv hK hPc (ci := 6) (q0 := 0) rfl rfl, fun U hU hW => ⟨rfl, by rw [hU]; exact hPc, va_K.moved hW.alike hK⟩⟩ rfl rfl hl.1 rfl (lv_room (Nat.le_of_ble_eq_true rfl)) dX11_paste_73 ⟨Nat.le_of_ble_eq_true rfl, Nat.le_of_ble_eq_true rfl⟩)) (fun rz238 gz237 => ?_)
                    clear hPc
                    obtain ⟨pz239, pz240⟩ := gz237
                    have pz239 : (rz238.toInt = 0 ∧ (p2.toInt < 0 ∨ p5.toInt < 0 ∨ (sL1 0).toInt < p2.toInt + p5.toInt)) ∨ (rz238.toInt = 1 ∧ 0 ≤ p2.toInt ∧ 0 ≤ p5.toInt ∧ p2.toInt + p5.toInt ≤ (sL1 0).toInt) := pz239
                    have pz240 : rz238.toInt = 0 ∨ rz238.toInt = 1 := pz240
                    have bz241 := hsL1 0
                    refine lv_if_eq (tgt := 91) hx hb dX11_paste_76 (by decide) (fun cz242 => ?_) (fun cz242 => ?_)
                    · skip
                      have zz243 : rz238.toInt = (0 : Int) := zi_eq.mp cz242
                      refine lv_bipush (v := (-7)) hx hb dX11_paste_91 (by decide) ?_
                      rw [hQ]
                      exact W.iret (v := (-7 : Int32)) hx hb hr (fun t ht hW => ⟨⟨(-7 : Int32), (), rfl, trivial, vL0, sL0, lL0, vL1, sL1, lL1, vL2, sL2, lL2, vL3, sL3, lL3, hsL0, hsL1, hsL2, hsL3, (show (vL0 0).toInt = (vL0 0).toInt ∧ (vL0 1).toInt = (vL0 1).toInt ∧ (sL0 0).toInt = (sL0 0).toInt from ⟨rfl, rfl, rfl⟩), (show (vL1 0).toInt = (vL1 0).toInt ∧ (vL1 1).toInt = (vL1 1).toInt ∧ (sL1 0).toInt = (sL1 0).toInt from ⟨rfl, rfl, rfl⟩), (show (vL2 0).toInt = (vL2 0).toInt ∧ (vL2 1).toInt = (vL2 1).toInt ∧ (sL2 0).toInt = (sL2 0).toInt from ⟨rfl, rfl, rfl⟩), (show (vL3 0).toInt = (vL3 0).toInt ∧ (vL3 1).toInt = (vL3 1).toInt ∧ (sL3 0).toInt = (sL3 0).toInt from ⟨rfl, rfl, rfl⟩), by rw [ht]; exact hP⟩, hS.F ht⟩) hS.2.2 dX11_paste_93
                    · skip
                      have zz244 : ¬ rz238.toInt = (0 : Int) := fun h9 => cz242 (zi_eq.mpr h9)
                      refine lv_aload hx hb dX11_paste_79 (lv_at hl 0 rfl) ?_
                      refine lv_iload hx hb dX11_paste_81 (lv_at hl 6 rfl) ?_
                      refine lv_iload hx hb dX11_paste_83 (lv_at hl 7 rfl) ?_
                      have hPc := hP.sub (ws' := (List.flatten [(wSlot qL3 k vL3 sL3 lL3)])) [6, 7] rfl
                      refine vp_callSi (va_Run.run (va_runV (As := [.int p4, .int p5]) (rest := []) ⟨hx, hb, hml, hown, hts⟩ (c_X6_spans_x l dC dI k qL3 vL3 sL3 lL3 p4 p5 hsL3) (cwV 2 hts (gk_V (wl_mem 6 rfl) (wl_mem 7 rfl) (wl_mem 8 rfl) (wl_mem 9 rfl) (fun w h => List.mem_cons_of_mem _ (List.mem_append_right _ (List.mem_append_right _ (List.mem_append_right _ (List.mem_append_right _ (List.mem_append_left _ h)))))) wkg_c_X6_spans_x) rfl rfl rfl (by decide +kernel) ⟨Nat.le_of_ble_eq_true rfl, Nat.le_of_ble_eq_true rfl⟩) ⟨fun a U g mk q => by obtain ⟨q0, qP, qK⟩ := q; exact ⟨q0, qP, va_K.moved (u := U) (U := U.calling g mk a) (Vm.Alike.refl U.vm) qK⟩, va_recv hK hPc (ci := 6) (q0 := 0) rfl rfl, fun U hU hW => ⟨rfl, by rw [hU]; exact hPc, va_K.moved hW.alike hK⟩⟩ rfl rfl hl.1 rfl (lv_room (Nat.le_of_ble_eq_true rfl)) dX11_paste_85 ⟨Nat.le_of_ble_eq_true rfl, Nat.le_of_ble_eq_true rfl⟩)) (fun rz246 gz245 => ?_)
                      clear hPc
                      obtain ⟨pz247, pz248⟩ := gz245
                      have pz247 : (rz246.toInt = 0 ∧ (p4.toInt < 0 ∨ p5.toInt < 0 ∨ (sL3 0).toInt < p4.toInt + p5.toInt)) ∨ (rz246.toInt = 1 ∧ 0 ≤ p4.toInt ∧ 0 ≤ p5.toInt ∧ p4.toInt + p5.toInt ≤ (sL3 0).toInt) := pz247
                      have pz248 : rz246.toInt = 0 ∨ rz246.toInt = 1 := pz248
                      have bz249 := hsL3 0
                      refine lv_if_ne (tgt := 94) hx hb dX11_paste_88 (by decide) (fun cz250 => ?_) (fun cz250 => ?_)
                      · skip
                        have zz251 : ¬ rz246.toInt = (0 : Int) := fun h9 => cz250 (zi_eq.mpr h9)
                        refine lv_aload hx hb dX11_paste_94 (lv_at hl 1 rfl) ?_
                        refine va_get (D := (dC, dI)) (ci := 6) (v := .ref (qL1 1)) (C := RX6) (T := TX6) (N := 4) hx hb hts (fun w h => List.mem_cons_of_mem _ (List.mem_append_right _ (List.mem_append_right _ (List.mem_append_right _ (List.mem_append_left _ h))))) hown hK hP 2 rfl rfl 0 (by decide) (hts (.fieldLink RX11 388 "SagMemory$Slot" "numbers" "[J") (wl_mem 10 rfl)) (fun _ h9 => h9) rfl dX11_paste_96 ?_
                        refine lv_iload_n hx hb dX11_paste_99 rfl (lv_at hl 4 rfl) ?_
                        refine lv_aload hx hb dX11_paste_100 (lv_at hl 0 rfl) ?_
                        refine va_get (D := (dC, dI)) (ci := 6) (v := .ref (qL3 1)) (C := RX6) (T := TX6) (N := 4) hx hb hts (fun w h => List.mem_cons_of_mem _ (List.mem_append_right _ (List.mem_append_right _ (List.mem_append_right _ (List.mem_append_left _ h))))) hown hK hP 6 rfl rfl 0 (by decide) (hts (.fieldLink RX11 388 "SagMemory$Slot" "numbers" "[J") (wl_mem 10 rfl)) (fun _ h9 => h9) rfl dX11_paste_102 ?_
                        refine lv_iload hx hb dX11_paste_105 (lv_at hl 6 rfl) ?_
                        refine lv_iload hx hb dX11_paste_107 (lv_at hl 7 rfl) ?_
                        refine va_copyl (ty := .long) hx hb (by rw [hml]; exact hl.1.symm) hown (hts (.methodLink RX11 402 arraycopyName) (wl_mem 11 rfl)) (hts (.native arraycopyName) (wl_mem 12 rfl)) (hts (.static arraycopyName) (wl_mem 13 rfl)) (hts (.initialized "java/lang/System") (wl_mem 14 rfl)) hK hP hD hS 3 7 1 1 rfl rfl rfl rfl rfl (fun h9 => by have h8 := zi_lt.mp h9; have h8 : p2.toInt < (0 : Int) := h8; omega) (fun h9 => by have h8 := zi_lt.mp h9; have h8 : p4.toInt < (0 : Int) := h8; omega) (fun h9 => by have h8 := zi_lt.mp h9; have h8 : p5.toInt < (0 : Int) := h8; omega) (by have h8 := zc_nat p2 (by show 0 ≤ p2.toInt; omega); have h9 := zc_nat p5 (by show 0 ≤ p5.toInt; omega); have h8 : ((p2).toNatClampNeg : Int) = p2.toInt := h8; have h9 : ((p5).toNatClampNeg : Int) = p5.toInt := h9; omega) (by have h8 := zc_nat p4 (by show 0 ≤ p4.toInt; omega); have h9 := zc_nat p5 (by show 0 ≤ p5.toInt; omega); have h8 : ((p4).toNatClampNeg : Int) = p4.toInt := h8; have h9 : ((p5).toNatClampNeg : Int) = p5.toInt := h9; omega) (fun _ _ => rfl) (Nat.le_of_ble_eq_true rfl) (Nat.le_of_ble_eq_true rfl) dX11_paste_109 (fun H locs hP hD hS => ?_)
                        obtain ⟨fz252, efz252, hP, hD⟩ : ∃ fz252 : Nat → Int64, fz252 = va_cpy (lL1 0) (lL3 0) p2.toNatClampNeg p4.toNatClampNeg p5.toNatClampNeg ∧ va_P (dC, dI) vwCl (List.flatten [(wSlot qL0 k vL0 sL0 lL0), (wSlot qL1 k vL1 sL1 lL1), (wSlot qL2 k vL2 sL2 lL2), (wSlot qL3 k vL3 sL3 (va_up lL3 0 fz252))] ++ List.flatten [(wSag qX k tapeX toldX actsX nowX trialX storyX attemptX orderSearchX routeSearchX setSearchX probeX (qL0 0) (qL1 0) (qL2 0) (qL3 0) image0X image1X image2X aX)]) H ∧ va_D A (List.flatten [(wSlot qL0 k vL0 sL0 lL0), (wSlot qL1 k vL1 sL1 lL1), (wSlot qL2 k vL2 sL2 lL2), (wSlot qL3 k vL3 sL3 (va_up lL3 0 fz252))] ++ List.flatten [(wSag qX k tapeX toldX actsX nowX trialX storyX attemptX orderSearchX routeSearchX setSearchX probeX (qL0 0) (qL1 0) (qL2 0) (qL3 0) image0X image1X image2X aX)]) := ⟨_, rfl, hP, hD⟩
                        refine lv_iconst (v := 0) hx hb dX11_paste_112 (by decide) ?_
                        rw [hQ]
                        exact W.iret (v := (0 : Int32)) hx hb hr (fun t ht hW => ⟨⟨(0 : Int32), (), rfl, trivial, vL0, sL0, lL0, vL1, sL1, lL1, vL2, sL2, lL2, vL3, sL3, (va_up lL3 0 fz252), hsL0, hsL1, hsL2, hsL3, (show (vL0 0).toInt = (vL0 0).toInt ∧ (vL0 1).toInt = (vL0 1).toInt ∧ (sL0 0).toInt = (sL0 0).toInt from ⟨rfl, rfl, rfl⟩), (show (vL1 0).toInt = (vL1 0).toInt ∧ (vL1 1).toInt = (vL1 1).toInt ∧ (sL1 0).toInt = (sL1 0).toInt from ⟨rfl, rfl, rfl⟩), (show (vL2 0).toInt = (vL2 0).toInt ∧ (vL2 1).toInt = (vL2 1).toInt ∧ (sL2 0).toInt = (sL2 0).toInt from ⟨rfl, rfl, rfl⟩), (show (vL3 0).toInt = (vL3 0).toInt ∧ (vL3 1).toInt = (vL3 1).toInt ∧ (sL3 0).toInt = (sL3 0).toInt from ⟨rfl, rfl, rfl⟩), by rw [ht]; exact hP⟩, hS.F ht⟩) hS.2.2 dX11_paste_113
                      · skip
                        have zz253 : rz246.toInt = (0 : Int) := zi_eq.mp cz250
                        refine lv_bipush (v := (-7)) hx hb dX11_paste_91 (by decide) ?_
                        rw [hQ]
                        exact W.iret (v := (-7 : Int32)) hx hb hr (fun t ht hW => ⟨⟨(-7 : Int32), (), rfl, trivial, vL0, sL0, lL0, vL1, sL1, lL1, vL2, sL2, lL2, vL3, sL3, lL3, hsL0, hsL1, hsL2, hsL3, (show (vL0 0).toInt = (vL0 0).toInt ∧ (vL0 1).toInt = (vL0 1).toInt ∧ (sL0 0).toInt = (sL0 0).toInt from ⟨rfl, rfl, rfl⟩), (show (vL1 0).toInt = (vL1 0).toInt ∧ (vL1 1).toInt = (vL1 1).toInt ∧ (sL1 0).toInt = (sL1 0).toInt from ⟨rfl, rfl, rfl⟩), (show (vL2 0).toInt = (vL2 0).toInt ∧ (vL2 1).toInt = (vL2 1).toInt ∧ (sL2 0).toInt = (sL2 0).toInt from ⟨rfl, rfl, rfl⟩), (show (vL3 0).toInt = (vL3 0).toInt ∧ (vL3 1).toInt = (vL3 1).toInt ∧ (sL3 0).toInt = (sL3 0).toInt from ⟨rfl, rfl, rfl⟩), by rw [ht]; exact hP⟩, hS.F ht⟩) hS.2.2 dX11_paste_93
                  · skip
                    have zz254 : ¬ (vL1 1).toInt = (vL3 1).toInt := fun h9 => cz235 (zi_eq.mpr h9)
                    refine lv_bipush (v := (-8)) hx hb dX11_paste_65 (by decide) ?_
                    rw [hQ]
                    exact W.iret (v := (-8 : Int32)) hx hb hr (fun t ht hW => ⟨⟨(-8 : Int32), (), rfl, trivial, vL0, sL0, lL0, vL1, sL1, lL1, vL2, sL2, lL2, vL3, sL3, lL3, hsL0, hsL1, hsL2, hsL3, (show (vL0 0).toInt = (vL0 0).toInt ∧ (vL0 1).toInt = (vL0 1).toInt ∧ (sL0 0).toInt = (sL0 0).toInt from ⟨rfl, rfl, rfl⟩), (show (vL1 0).toInt = (vL1 0).toInt ∧ (vL1 1).toInt = (vL1 1).toInt ∧ (sL1 0).toInt = (sL1 0).toInt from ⟨rfl, rfl, rfl⟩), (show (vL2 0).toInt = (vL2 0).toInt ∧ (vL2 1).toInt = (vL2 1).toInt ∧ (sL2 0).toInt = (sL2 0).toInt from ⟨rfl, rfl, rfl⟩), (show (vL3 0).toInt = (vL3 0).toInt ∧ (vL3 1).toInt = (vL3 1).toInt ∧ (sL3 0).toInt = (sL3 0).toInt from ⟨rfl, rfl, rfl⟩), by rw [ht]; exact hP⟩, hS.F ht⟩) hS.2.2 dX11_paste_67
                · skip
                  have zz255 : (vL3 0).toInt = (0 : Int) := zi_eq.mp cz233
                  refine lv_bipush (v := (-6)) hx hb dX11_paste_49 (by decide) ?_
                  rw [hQ]
                  exact W.iret (v := (-6 : Int32)) hx hb hr (fun t ht hW => ⟨⟨(-6 : Int32), (), rfl, trivial, vL0, sL0, lL0, vL1, sL1, lL1, vL2, sL2, lL2, vL3, sL3, lL3, hsL0, hsL1, hsL2, hsL3, (show (vL0 0).toInt = (vL0 0).toInt ∧ (vL0 1).toInt = (vL0 1).toInt ∧ (sL0 0).toInt = (sL0 0).toInt from ⟨rfl, rfl, rfl⟩), (show (vL1 0).toInt = (vL1 0).toInt ∧ (vL1 1).toInt = (vL1 1).toInt ∧ (sL1 0).toInt = (sL1 0).toInt from ⟨rfl, rfl, rfl⟩), (show (vL2 0).toInt = (vL2 0).toInt ∧ (vL2 1).toInt = (vL2 1).toInt ∧ (sL2 0).toInt = (sL2 0).toInt from ⟨rfl, rfl, rfl⟩), (show (vL3 0).toInt = (vL3 0).toInt ∧ (vL3 1).toInt = (vL3 1).toInt ∧ (sL3 0).toInt = (sL3 0).toInt from ⟨rfl, rfl, rfl⟩), by rw [ht]; exact hP⟩, hS.F ht⟩) hS.2.2 dX11_paste_51
          · skip
            have zz256 : p1.toInt = (2 : Int) := zi_eq.mp cz37
            refine W.eq (g2 := F0 m 22 ls [.int 2, .ref (qX 3)]) (by rw [cz37]) ?_
            refine va_aldq hx hb hK hP 11 6 rfl rfl (by unfold vp_in; decide) dX11_paste_22 ?_
            refine W.eq (g2 := F0 m 23 ls [.ref (qL2 0)]) rfl ?_
            refine lv_astore (lv' := [(6, .ref (qL2 0)), (0, .ref (qX 0)), (1, .int p1), (2, .int p2), (3, .int p3), (4, .int p4), (5, .int p5)]) hx hb dX11_paste_23 hl (by decide) rfl (fun ls hl => ?_)
            refine lv_aload_n hx hb dX11_paste_25 rfl (lv_at hl 1 rfl) ?_
            refine va_get (D := (dC, dI)) (ci := 11) (v := .ref (qX 3)) (C := RX11) (T := TX11) (N := 15) hx hb hts (fun w h => List.mem_cons_of_mem _ (List.mem_append_right _ (List.mem_append_right _ (List.mem_append_left _ h)))) hown hK hP 8 rfl rfl 13 (by decide) (hts (.fieldLink RX11 85 "SagMemory" "slots" "[LSagMemory$Slot;") (wl_mem 3 rfl)) (fun _ h9 => h9) rfl dX11_paste_26 ?_
            refine lv_iload_n hx hb dX11_paste_29 rfl (lv_at hl 4 rfl) ?_
            rcases (show p3 = 0 ∨ p3 = 1 ∨ p3 = 2 ∨ p3 = 3 by simp only [zi_eq]; show p3.toInt = 0 ∨ p3.toInt = 1 ∨ p3.toInt = 2 ∨ p3.toInt = 3; omega) with cz257 | cz257 | cz257 | cz257
            · skip
              have zz258 : p3.toInt = (0 : Int) := zi_eq.mp cz257
              refine W.eq (g2 := F0 m 30 ls [.int 0, .ref (qX 3)]) (by rw [cz257]) ?_
              refine va_aldq hx hb hK hP 11 6 rfl rfl (by unfold vp_in; decide) dX11_paste_30 ?_
              refine W.eq (g2 := F0 m 31 ls [.ref (qL0 0)]) rfl ?_
              refine lv_astore (lv' := [(7, .ref (qL0 0)), (6, .ref (qL2 0)), (0, .ref (qX 0)), (1, .int p1), (2, .int p2), (3, .int p3), (4, .int p4), (5, .int p5)]) hx hb dX11_paste_31 hl (by decide) rfl (fun ls hl => ?_)
              refine lv_aload hx hb dX11_paste_33 (lv_at hl 1 rfl) ?_
              refine va_get (D := (dC, dI)) (ci := 6) (v := .int (vL2 0)) (C := RX6) (T := TX6) (N := 4) hx hb hts (fun w h => List.mem_cons_of_mem _ (List.mem_append_right _ (List.mem_append_right _ (List.mem_append_right _ (List.mem_append_left _ h))))) hown hK hP 4 rfl rfl 1 (by decide) (hts (.fieldLink RX11 386 "SagMemory$Slot" "has" "Z") (wl_mem 4 rfl)) (fun _ h9 => h9) rfl dX11_paste_35 ?_
              refine lv_if_eq (tgt := 49) hx hb dX11_paste_38 (by decide) (fun cz259 => ?_) (fun cz259 => ?_)
              · skip
                have zz260 : (vL2 0).toInt = (0 : Int) := zi_eq.mp cz259
                refine lv_bipush (v := (-6)) hx hb dX11_paste_49 (by decide) ?_
                rw [hQ]
                exact W.iret (v := (-6 : Int32)) hx hb hr (fun t ht hW => ⟨⟨(-6 : Int32), (), rfl, trivial, vL0, sL0, lL0, vL1, sL1, lL1, vL2, sL2, lL2, vL3, sL3, lL3, hsL0, hsL1, hsL2, hsL3, (show (vL0 0).toInt = (vL0 0).toInt ∧ (vL0 1).toInt = (vL0 1).toInt ∧ (sL0 0).toInt = (sL0 0).toInt from ⟨rfl, rfl, rfl⟩), (show (vL1 0).toInt = (vL1 0).toInt ∧ (vL1 1).toInt = (vL1 1).toInt ∧ (sL1 0).toInt = (sL1 0).toInt from ⟨rfl, rfl, rfl⟩), (show (vL2 0).toInt = (vL2 0).toInt ∧ (vL2 1).toInt = (vL2 1).toInt ∧ (sL2 0).toInt = (sL2 0).toInt from ⟨rfl, rfl, rfl⟩), (show (vL3 0).toInt = (vL3 0).toInt ∧ (vL3 1).toInt = (vL3 1).toInt ∧ (sL3 0).toInt = (sL3 0).toInt from ⟨rfl, rfl, rfl⟩), by rw [ht]; exact hP⟩, hS.F ht⟩) hS.2.2 dX11_paste_51
              · skip
                have zz261 : ¬ (vL2 0).toInt = (0 : Int) := fun h9 => cz259 (zi_eq.mpr h9)
                refine lv_aload hx hb dX11_paste_41 (lv_at hl 0 rfl) ?_
                refine va_get (D := (dC, dI)) (ci := 6) (v := .int (vL0 0)) (C := RX6) (T := TX6) (N := 4) hx hb hts (fun w h => List.mem_cons_of_mem _ (List.mem_append_right _ (List.mem_append_right _ (List.mem_append_right _ (List.mem_append_left _ h))))) hown hK hP 0 rfl rfl 1 (by decide) (hts (.fieldLink RX11 386 "SagMemory$Slot" "has" "Z") (wl_mem 4 rfl)) (fun _ h9 => h9) rfl dX11_paste_43 ?_
                refine lv_if_ne (tgt := 52) hx hb dX11_paste_46 (by decide) (fun cz262 => ?_) (fun cz262 => ?_)
                · skip
                  have zz263 : ¬ (vL0 0).toInt = (0 : Int) := fun h9 => cz262 (zi_eq.mpr h9)
                  refine lv_aload hx hb dX11_paste_52 (lv_at hl 1 rfl) ?_
                  refine va_get (D := (dC, dI)) (ci := 6) (v := .int (vL2 1)) (C := RX6) (T := TX6) (N := 4) hx hb hts (fun w h => List.mem_cons_of_mem _ (List.mem_append_right _ (List.mem_append_right _ (List.mem_append_right _ (List.mem_append_left _ h))))) hown hK hP 4 rfl rfl 2 (by decide) (hts (.fieldLink RX11 396 "SagMemory$Slot" "width" "I") (wl_mem 5 rfl)) (fun _ h9 => h9) rfl dX11_paste_54 ?_
                  refine lv_aload hx hb dX11_paste_57 (lv_at hl 0 rfl) ?_
                  refine va_get (D := (dC, dI)) (ci := 6) (v := .int (vL0 1)) (C := RX6) (T := TX6) (N := 4) hx hb hts (fun w h => List.mem_cons_of_mem _ (List.mem_append_right _ (List.mem_append_right _ (List.mem_append_right _ (List.mem_append_left _ h))))) hown hK hP 0 rfl rfl 2 (by decide) (hts (.fieldLink RX11 396 "SagMemory$Slot" "width" "I") (wl_mem 5 rfl)) (fun _ h9 => h9) rfl dX11_paste_59 ?_
                  refine lv_icmp_eq (tgt := 68) hx hb dX11_paste_62 (by decide) (fun cz264 => ?_) (fun cz264 => ?_)
                  · skip
                    have zz265 : (vL2 1).toInt = (vL0 1).toInt := zi_eq.mp cz264
                    refine lv_aload hx hb dX11_paste_68 (lv_at hl 1 rfl) ?_
                    refine lv_iload_n hx hb dX11_paste_70 rfl (lv_at hl 4 rfl) ?_
                    refine lv_iload hx hb dX11_paste_71 (lv_at hl 7 rfl) ?_
                    have hPc := hP.sub (ws' := (List.flatten [(wSlot qL2 k vL2 sL2 lL2)])) [4, 5] rfl
                    refine vp_callSi (va_Run.run (va_runV (As := [.int p2, .int p5]) (rest := []) ⟨hx, hb, hml, hown, hts⟩ (c_X6_spans_x l dC dI k qL2 vL2 sL2 lL2 p2 p5 hsL2) (cwV 2 hts (gk_V (wl_mem 6 rfl) (wl_mem 7 rfl) (wl_mem 8 rfl) (wl_mem 9 rfl) (fun w h => List.mem_cons_of_mem _ (List.mem_append_right _ (List.mem_append_right _ (List.mem_append_right _ (List.mem_append_right _ (List.mem_append_left _ h)))))) wkg_c_X6_spans_x) rfl rfl rfl (by decide +kernel) ⟨Nat.le_of_ble_eq_true rfl, Nat.le_of_ble_eq_true rfl⟩) ⟨fun a U g mk q => by obtain ⟨q0, qP, qK⟩ := q; exact ⟨q0, qP, va_K.moved (u := U) (U := U.calling g mk a) (Vm.Alike.refl U.vm) qK⟩, va_recv hK hPc (ci := 6) (q0 := 0) rfl rfl, fun U hU hW => ⟨rfl, by rw [hU]; exact hPc, va_K.moved hW.alike hK⟩⟩ rfl rfl hl.1 rfl (lv_room (Nat.le_of_ble_eq_true rfl)) dX11_paste_73 ⟨Nat.le_of_ble_eq_true rfl, Nat.le_of_ble_eq_true rfl⟩)) (fun rz267 gz266 => ?_)
                    clear hPc
                    obtain ⟨pz268, pz269⟩ := gz266
                    have pz268 : (rz267.toInt = 0 ∧ (p2.toInt < 0 ∨ p5.toInt < 0 ∨ (sL2 0).toInt < p2.toInt + p5.toInt)) ∨ (rz267.toInt = 1 ∧ 0 ≤ p2.toInt ∧ 0 ≤ p5.toInt ∧ p2.toInt + p5.toInt ≤ (sL2 0).toInt) := pz268
                    have pz269 : rz267.toInt = 0 ∨ rz267.toInt = 1 := pz269
                    have bz270 := hsL2 0
                    refine lv_if_eq (tgt := 91) hx hb dX11_paste_76 (by decide) (fun cz271 => ?_) (fun cz271 => ?_)
                    · skip
                      have zz272 : rz267.toInt = (0 : Int) := zi_eq.mp cz271
                      refine lv_bipush (v := (-7)) hx hb dX11_paste_91 (by decide) ?_
                      rw [hQ]
                      exact W.iret (v := (-7 : Int32)) hx hb hr (fun t ht hW => ⟨⟨(-7 : Int32), (), rfl, trivial, vL0, sL0, lL0, vL1, sL1, lL1, vL2, sL2, lL2, vL3, sL3, lL3, hsL0, hsL1, hsL2, hsL3, (show (vL0 0).toInt = (vL0 0).toInt ∧ (vL0 1).toInt = (vL0 1).toInt ∧ (sL0 0).toInt = (sL0 0).toInt from ⟨rfl, rfl, rfl⟩), (show (vL1 0).toInt = (vL1 0).toInt ∧ (vL1 1).toInt = (vL1 1).toInt ∧ (sL1 0).toInt = (sL1 0).toInt from ⟨rfl, rfl, rfl⟩), (show (vL2 0).toInt = (vL2 0).toInt ∧ (vL2 1).toInt = (vL2 1).toInt ∧ (sL2 0).toInt = (sL2 0).toInt from ⟨rfl, rfl, rfl⟩), (show (vL3 0).toInt = (vL3 0).toInt ∧ (vL3 1).toInt = (vL3 1).toInt ∧ (sL3 0).toInt = (sL3 0).toInt from ⟨rfl, rfl, rfl⟩), by rw [ht]; exact hP⟩, hS.F ht⟩) hS.2.2 dX11_paste_93
                    · skip
                      have zz273 : ¬ rz267.toInt = (0 : Int) := fun h9 => cz271 (zi_eq.mpr h9)
                      refine lv_aload hx hb dX11_paste_79 (lv_at hl 0 rfl) ?_
                      refine lv_iload hx hb dX11_paste_81 (lv_at hl 6 rfl) ?_
                      refine lv_iload hx hb dX11_paste_83 (lv_at hl 7 rfl) ?_
                      have hPc := hP.sub (ws' := (List.flatten [(wSlot qL0 k vL0 sL0 lL0)])) [0, 1] rfl
                      refine vp_callSi (va_Run.run (va_runV (As := [.int p4, .int p5]) (rest := []) ⟨hx, hb, hml, hown, hts⟩ (c_X6_spans_x l dC dI k qL0 vL0 sL0 lL0 p4 p5 hsL0) (cwV 2 hts (gk_V (wl_mem 6 rfl) (wl_mem 7 rfl) (wl_mem 8 rfl) (wl_mem 9 rfl) (fun w h => List.mem_cons_of_mem _ (List.mem_append_right _ (List.mem_append_right _ (List.mem_append_right _ (List.mem_append_right _ (List.mem_append_left _ h)))))) wkg_c_X6_spans_x) rfl rfl rfl (by decide +kernel) ⟨Nat.le_of_ble_eq_true rfl, Nat.le_of_ble_eq_true rfl⟩) ⟨fun a U g mk q => by obtain ⟨q0, qP, qK⟩ := q; exact ⟨q0, qP, va_K.moved (u := U) (U := U.calling g mk a) (Vm.Alike.refl U.vm) qK⟩, va_recv hK hPc (ci := 6) (q0 := 0) rfl rfl, fun U hU hW => ⟨rfl, by rw [hU]; exact hPc, va_K.moved hW.alike hK⟩⟩ rfl rfl hl.1 rfl (lv_room (Nat.le_of_ble_eq_true rfl)) dX11_paste_85 ⟨Nat.le_of_ble_eq_true rfl, Nat.le_of_ble_eq_true rfl⟩)) (fun rz275 gz274 => ?_)
                      clear hPc
                      obtain ⟨pz276, pz277⟩ := gz274
                      have pz276 : (rz275.toInt = 0 ∧ (p4.toInt < 0 ∨ p5.toInt < 0 ∨ (sL0 0).toInt < p4.toInt + p5.toInt)) ∨ (rz275.toInt = 1 ∧ 0 ≤ p4.toInt ∧ 0 ≤ p5.toInt ∧ p4.toInt + p5.toInt ≤ (sL0 0).toInt) := pz276
                      have pz277 : rz275.toInt = 0 ∨ rz275.toInt = 1 := pz277
                      have bz278 := hsL0 0
                      refine lv_if_ne (tgt := 94) hx hb dX11_paste_88 (by decide) (fun cz279 => ?_) (fun cz279 => ?_)
                      · skip
                        have zz280 : ¬ rz275.toInt = (0 : Int) := fun h9 => cz279 (zi_eq.mpr h9)
                        refine lv_aload hx hb dX11_paste_94 (lv_at hl 1 rfl) ?_
                        refine va_get (D := (dC, dI)) (ci := 6) (v := .ref (qL2 1)) (C := RX6) (T := TX6) (N := 4) hx hb hts (fun w h => List.mem_cons_of_mem _ (List.mem_append_right _ (List.mem_append_right _ (List.mem_append_right _ (List.mem_append_left _ h))))) hown hK hP 4 rfl rfl 0 (by decide) (hts (.fieldLink RX11 388 "SagMemory$Slot" "numbers" "[J") (wl_mem 10 rfl)) (fun _ h9 => h9) rfl dX11_paste_96 ?_
                        refine lv_iload_n hx hb dX11_paste_99 rfl (lv_at hl 4 rfl) ?_
                        refine lv_aload hx hb dX11_paste_100 (lv_at hl 0 rfl) ?_
                        refine va_get (D := (dC, dI)) (ci := 6) (v := .ref (qL0 1)) (C := RX6) (T := TX6) (N := 4) hx hb hts (fun w h => List.mem_cons_of_mem _ (List.mem_append_right _ (List.mem_append_right _ (List.mem_append_right _ (List.mem_append_left _ h))))) hown hK hP 0 rfl rfl 0 (by decide) (hts (.fieldLink RX11 388 "SagMemory$Slot" "numbers" "[J") (wl_mem 10 rfl)) (fun _ h9 => h9) rfl dX11_paste_102 ?_
                        refine lv_iload hx hb dX11_paste_105 (lv_at hl 6 rfl) ?_
                        refine lv_iload hx hb dX11_paste_107 (lv_at hl 7 rfl) ?_
                        refine va_copyl (ty := .long) hx hb (by rw [hml]; exact hl.1.symm) hown (hts (.methodLink RX11 402 arraycopyName) (wl_mem 11 rfl)) (hts (.native arraycopyName) (wl_mem 12 rfl)) (hts (.static arraycopyName) (wl_mem 13 rfl)) (hts (.initialized "java/lang/System") (wl_mem 14 rfl)) hK hP hD hS 5 1 1 1 rfl rfl rfl rfl rfl (fun h9 => by have h8 := zi_lt.mp h9; have h8 : p2.toInt < (0 : Int) := h8; omega) (fun h9 => by have h8 := zi_lt.mp h9; have h8 : p4.toInt < (0 : Int) := h8; omega) (fun h9 => by have h8 := zi_lt.mp h9; have h8 : p5.toInt < (0 : Int) := h8; omega) (by have h8 := zc_nat p2 (by show 0 ≤ p2.toInt; omega); have h9 := zc_nat p5 (by show 0 ≤ p5.toInt; omega); have h8 : ((p2).toNatClampNeg : Int) = p2.toInt := h8; have h9 : ((p5).toNatClampNeg : Int) = p5.toInt := h9; omega) (by have h8 := zc_nat p4 (by show 0 ≤ p4.toInt; omega); have h9 := zc_nat p5 (by show 0 ≤ p5.toInt; omega); have h8 : ((p4).toNatClampNeg : Int) = p4.toInt := h8; have h9 : ((p5).toNatClampNeg : Int) = p5.toInt := h9; omega) (fun _ _ => rfl) (Nat.le_of_ble_eq_true rfl) (Nat.le_of_ble_eq_true rfl) dX11_paste_109 (fun H locs hP hD hS => ?_)
                        obtain ⟨fz281, efz281, hP, hD⟩ : ∃ fz281 : Nat → Int64, fz281 = va_cpy (lL2 0) (lL0 0) p2.toNatClampNeg p4.toNatClampNeg p5.toNatClampNeg ∧ va_P (dC, dI) vwCl (List.flatten [(wSlot qL0 k vL0 sL0 (va_up lL0 0 fz281)), (wSlot qL1 k vL1 sL1 lL1), (wSlot qL2 k vL2 sL2 lL2), (wSlot qL3 k vL3 sL3 lL3)] ++ List.flatten [(wSag qX k tapeX toldX actsX nowX trialX storyX attemptX orderSearchX routeSearchX setSearchX probeX (qL0 0) (qL1 0) (qL2 0) (qL3 0) image0X image1X image2X aX)]) H ∧ va_D A (List.flatten [(wSlot qL0 k vL0 sL0 (va_up lL0 0 fz281)), (wSlot qL1 k vL1 sL1 lL1), (wSlot qL2 k vL2 sL2 lL2), (wSlot qL3 k vL3 sL3 lL3)] ++ List.flatten [(wSag qX k tapeX toldX actsX nowX trialX storyX attemptX orderSearchX routeSearchX setSearchX probeX (qL0 0) (qL1 0) (qL2 0) (qL3 0) image0X image1X image2X aX)]) := ⟨_, rfl, hP, hD⟩
                        refine lv_iconst (v := 0) hx hb dX11_paste_112 (by decide) ?_
                        rw [hQ]
                        exact W.iret (v := (0 : Int32)) hx hb hr (fun t ht hW => ⟨⟨(0 : Int32), (), rfl, trivial, vL0, sL0, (va_up lL0 0 fz281), vL1, sL1, lL1, vL2, sL2, lL2, vL3, sL3, lL3, hsL0, hsL1, hsL2, hsL3, (show (vL0 0).toInt = (vL0 0).toInt ∧ (vL0 1).toInt = (vL0 1).toInt ∧ (sL0 0).toInt = (sL0 0).toInt from ⟨rfl, rfl, rfl⟩), (show (vL1 0).toInt = (vL1 0).toInt ∧ (vL1 1).toInt = (vL1 1).toInt ∧ (sL1 0).toInt = (sL1 0).toInt from ⟨rfl, rfl, rfl⟩), (show (vL2 0).toInt = (vL2 0).toInt ∧ (vL2 1).toInt = (vL2 1).toInt ∧ (sL2 0).toInt = (sL2 0).toInt from ⟨rfl, rfl, rfl⟩), (show (vL3 0).toInt = (vL3 0).toInt ∧ (vL3 1).toInt = (vL3 1).toInt ∧ (sL3 0).toInt = (sL3 0).toInt from ⟨rfl, rfl, rfl⟩), by rw [ht]; exact hP⟩, hS.F ht⟩) hS.2.2 dX11_paste_113
                      · skip
                        have zz282 : rz275.toInt = (0 : Int) := zi_eq.mp cz279
                        refine lv_bipush (v := (-7)) hx hb dX11_paste_91 (by decide) ?_
                        rw [hQ]
                        exact W.iret (v := (-7 : Int32)) hx hb hr (fun t ht hW => ⟨⟨(-7 : Int32), (), rfl, trivial, vL0, sL0, lL0, vL1, sL1, lL1, vL2, sL2, lL2, vL3, sL3, lL3, hsL0, hsL1, hsL2, hsL3, (show (vL0 0).toInt = (vL0 0).toInt ∧ (vL0 1).toInt = (vL0 1).toInt ∧ (sL0 0).toInt = (sL0 0).toInt from ⟨rfl, rfl, rfl⟩), (show (vL1 0).toInt = (vL1 0).toInt ∧ (vL1 1).toInt = (vL1 1).toInt ∧ (sL1 0).toInt = (sL1 0).toInt from ⟨rfl, rfl, rfl⟩), (show (vL2 0).toInt = (vL2 0).toInt ∧ (vL2 1).toInt = (vL2 1).toInt ∧ (sL2 0).toInt = (sL2 0).toInt from ⟨rfl, rfl, rfl⟩), (show (vL3 0).toInt = (vL3 0).toInt ∧ (vL3 1).toInt = (vL3 1).toInt ∧ (sL3 0).toInt = (sL3 0).toInt from ⟨rfl, rfl, rfl⟩), by rw [ht]; exact hP⟩, hS.F ht⟩) hS.2.2 dX11_paste_93
                  · skip
                    have zz283 : ¬ (vL2 1).toInt = (vL0 1).toInt := fun h9 => cz264 (zi_eq.mpr h9)
                    refine lv_bipush (v := (-8)) hx hb dX11_paste_65 (by decide) ?_
                    rw [hQ]
                    exact W.iret (v := (-8 : Int32)) hx hb hr (fun t ht hW => ⟨⟨(-8 : Int32), (), rfl, trivial, vL0, sL0, lL0, vL1, sL1, lL1, vL2, sL2, lL2, vL3, sL3, lL3, hsL0, hsL1, hsL2, hsL3, (show (vL0 0).toInt = (vL0 0).toInt ∧ (vL0 1).toInt = (vL0 1).toInt ∧ (sL0 0).toInt = (sL0 0).toInt from ⟨rfl, rfl, rfl⟩), (show (vL1 0).toInt = (vL1 0).toInt ∧ (vL1 1).toInt = (vL1 1).toInt ∧ (sL1 0).toInt = (sL1 0).toInt from ⟨rfl, rfl, rfl⟩), (show (vL2 0).toInt = (vL2 0).toInt ∧ (vL2 1).toInt = (vL2 1).toInt ∧ (sL2 0).toInt = (sL2 0).toInt from ⟨rfl, rfl, rfl⟩), (show (vL3 0).toInt = (vL3 0).toInt ∧ (vL3 1).toInt = (vL3 1).toInt ∧ (sL3 0).toInt = (sL3 0).toInt from ⟨rfl, rfl, rfl⟩), by rw [ht]; exact hP⟩, hS.F ht⟩) hS.2.2 dX11_paste_67
                · skip
                  have zz284 : (vL0 0).toInt = (0 : Int) := zi_eq.mp cz262
                  refine lv_bipush (v := (-6)) hx hb dX11_paste_49 (by decide) ?_
                  rw [hQ]
                  exact W.iret (v := (-6 : Int32)) hx hb hr (fun t ht hW => ⟨⟨(-6 : Int32), (), rfl, trivial, vL0, sL0, lL0, vL1, sL1, lL1, vL2, sL2, lL2, vL3, sL3, lL3, hsL0, hsL1, hsL2, hsL3, (show (vL0 0).toInt = (vL0 0).toInt ∧ (vL0 1).toInt = (vL0 1).toInt ∧ (sL0 0).toInt = (sL0 0).toInt from ⟨rfl, rfl, rfl⟩), (show (vL1 0).toInt = (vL1 0).toInt ∧ (vL1 1).toInt = (vL1 1).toInt ∧ (sL1 0).toInt = (sL1 0).toInt from ⟨rfl, rfl, rfl⟩), (show (vL2 0).toInt = (vL2 0).toInt ∧ (vL2 1).toInt = (vL2 1).toInt ∧ (sL2 0).toInt = (sL2 0).toInt from ⟨rfl, rfl, rfl⟩), (show (vL3 0).toInt = (vL3 0).toInt ∧ (vL3 1).toInt = (vL3 1).toInt ∧ (sL3 0).toInt = (sL3 0).toInt from ⟨rfl, rfl, rfl⟩), by rw [ht]; exact hP⟩, hS.F ht⟩) hS.2.2 dX11_paste_51
            · skip
              have zz285 : p3.toInt = (1 : Int) := zi_eq.mp cz257
              refine W.eq (g2 := F0 m 30 ls [.int 1, .ref (qX 3)]) (by rw [cz257]) ?_
              refine va_aldq hx hb hK hP 11 6 rfl rfl (by unfold vp_in; decide) dX11_paste_30 ?_
              refine W.eq (g2 := F0 m 31 ls [.ref (qL1 0)]) rfl ?_
              refine lv_astore (lv' := [(7, .ref (qL1 0)), (6, .ref (qL2 0)), (0, .ref (qX 0)), (1, .int p1), (2, .int p2), (3, .int p3), (4, .int p4), (5, .int p5)]) hx hb dX11_paste_31 hl (by decide) rfl (fun ls hl => ?_)
              refine lv_aload hx hb dX11_paste_33 (lv_at hl 1 rfl) ?_
              refine va_get (D := (dC, dI)) (ci := 6) (v := .int (vL2 0)) (C := RX6) (T := TX6) (N := 4) hx hb hts (fun w h => List.mem_cons_of_mem _ (List.mem_append_right _ (List.mem_append_right _ (List.mem_append_right _ (List.mem_append_left _ h))))) hown hK hP 4 rfl rfl 1 (by decide) (hts (.fieldLink RX11 386 "SagMemory$Slot" "has" "Z") (wl_mem 4 rfl)) (fun _ h9 => h9) rfl dX11_paste_35 ?_
              refine lv_if_eq (tgt := 49) hx hb dX11_paste_38 (by decide) (fun cz286 => ?_) (fun cz286 => ?_)
              · skip
                have zz287 : (vL2 0).toInt = (0 : Int) := zi_eq.mp cz286
                refine lv_bipush (v := (-6)) hx hb dX11_paste_49 (by decide) ?_
                rw [hQ]
                exact W.iret (v := (-6 : Int32)) hx hb hr (fun t ht hW => ⟨⟨(-6 : Int32), (), rfl, trivial, vL0, sL0, lL0, vL1, sL1, lL1, vL2, sL2, lL2, vL3, sL3, lL3, hsL0, hsL1, hsL2, hsL3, (show (vL0 0).toInt = (vL0 0).toInt ∧ (vL0 1).toInt = (vL0 1).toInt ∧ (sL0 0).toInt = (sL0 0).toInt from ⟨rfl, rfl, rfl⟩), (show (vL1 0).toInt = (vL1 0).toInt ∧ (vL1 1).toInt = (vL1 1).toInt ∧ (sL1 0).toInt = (sL1 0).toInt from ⟨rfl, rfl, rfl⟩), (show (vL2 0).toInt = (vL2 0).toInt ∧ (vL2 1).toInt = (vL2 1).toInt ∧ (sL2 0).toInt = (sL2 0).toInt from ⟨rfl, rfl, rfl⟩), (show (vL3 0).toInt = (vL3 0).toInt ∧ (vL3 1).toInt = (vL3 1).toInt ∧ (sL3 0).toInt = (sL3 0).toInt from ⟨rfl, rfl, rfl⟩), by rw [ht]; exact hP⟩, hS.F ht⟩) hS.2.2 dX11_paste_51
              · skip
                have zz288 : ¬ (vL2 0).toInt = (0 : Int) := fun h9 => cz286 (zi_eq.mpr h9)
                refine lv_aload hx hb dX11_paste_41 (lv_at hl 0 rfl) ?_
                refine va_get (D := (dC, dI)) (ci := 6) (v := .int (vL1 0)) (C := RX6) (T := TX6) (N := 4) hx hb hts (fun w h => List.mem_cons_of_mem _ (List.mem_append_right _ (List.mem_append_right _ (List.mem_append_right _ (List.mem_append_left _ h))))) hown hK hP 2 rfl rfl 1 (by decide) (hts (.fieldLink RX11 386 "SagMemory$Slot" "has" "Z") (wl_mem 4 rfl)) (fun _ h9 => h9) rfl dX11_paste_43 ?_
                refine lv_if_ne (tgt := 52) hx hb dX11_paste_46 (by decide) (fun cz289 => ?_) (fun cz289 => ?_)
                · skip
                  have zz290 : ¬ (vL1 0).toInt = (0 : Int) := fun h9 => cz289 (zi_eq.mpr h9)
                  refine lv_aload hx hb dX11_paste_52 (lv_at hl 1 rfl) ?_
                  refine va_get (D := (dC, dI)) (ci := 6) (v := .int (vL2 1)) (C := RX6) (T := TX6) (N := 4) hx hb hts (fun w h => List.mem_cons_of_mem _ (List.mem_append_right _ (List.mem_append_right _ (List.mem_append_right _ (List.mem_append_left _ h))))) hown hK hP 4 rfl rfl 2 (by decide) (hts (.fieldLink RX11 396 "SagMemory$Slot" "width" "I") (wl_mem 5 rfl)) (fun _ h9 => h9) rfl dX11_paste_54 ?_
                  refine lv_aload hx hb dX11_paste_57 (lv_at hl 0 rfl) ?_
                  refine va_get (D := (dC, dI)) (ci := 6) (v := .int (vL1 1)) (C := RX6) (T := TX6) (N := 4) hx hb hts (fun w h => List.mem_cons_of_mem _ (List.mem_append_right _ (List.mem_append_right _ (List.mem_append_right _ (List.mem_append_left _ h))))) hown hK hP 2 rfl rfl 2 (by decide) (hts (.fieldLink RX11 396 "SagMemory$Slot" "width" "I") (wl_mem 5 rfl)) (fun _ h9 => h9) rfl dX11_paste_59 ?_
                  refine lv_icmp_eq (tgt := 68) hx hb dX11_paste_62 (by decide) (fun cz291 => ?_) (fun cz291 => ?_)
                  · skip
                    have zz292 : (vL2 1).toInt = (vL1 1).toInt := zi_eq.mp cz291
                    refine lv_aload hx hb dX11_paste_68 (lv_at hl 1 rfl) ?_
                    refine lv_iload_n hx hb dX11_paste_70 rfl (lv_at hl 4 rfl) ?_
                    refine lv_iload hx hb dX11_paste_71 (lv_at hl 7 rfl) ?_
                    have hPc := hP.sub (ws' := (List.flatten [(wSlot qL2 k vL2 sL2 lL2)])) [4, 5] rfl
                    refine vp_callSi (va_Run.run (va_runV (As := [.int p2, .int p5]) (rest := []) ⟨hx, hb, hml, hown, hts⟩ (c_X6_spans_x l dC dI k qL2 vL2 sL2 lL2 p2 p5 hsL2) (cwV 2 hts (gk_V (wl_mem 6 rfl) (wl_mem 7 rfl) (wl_mem 8 rfl) (wl_mem 9 rfl) (fun w h => List.mem_cons_of_mem _ (List.mem_append_right _ (List.mem_append_right _ (List.mem_append_right _ (List.mem_append_right _ (List.mem_append_left _ h)))))) wkg_c_X6_spans_x) rfl rfl rfl (by decide +kernel) ⟨Nat.le_of_ble_eq_true rfl, Nat.le_of_ble_eq_true rfl⟩) ⟨fun a U g mk q => by obtain ⟨q0, qP, qK⟩ := q; exact ⟨q0, qP, va_K.moved (u := U) (U := U.calling g mk a) (Vm.Alike.refl U.vm) qK⟩, va_recv hK hPc (ci := 6) (q0 := 0) rfl rfl, fun U hU hW => ⟨rfl, by rw [hU]; exact hPc, va_K.moved hW.alike hK⟩⟩ rfl rfl hl.1 rfl (lv_room (Nat.le_of_ble_eq_true rfl)) dX11_paste_73 ⟨Nat.le_of_ble_eq_true rfl, Nat.le_of_ble_eq_true rfl⟩)) (fun rz294 gz293 => ?_)
                    clear hPc
                    obtain ⟨pz295, pz296⟩ := gz293
                    have pz295 : (rz294.toInt = 0 ∧ (p2.toInt < 0 ∨ p5.toInt < 0 ∨ (sL2 0).toInt < p2.toInt + p5.toInt)) ∨ (rz294.toInt = 1 ∧ 0 ≤ p2.toInt ∧ 0 ≤ p5.toInt ∧ p2.toInt + p5.toInt ≤ (sL2 0).toInt) := pz295
                    have pz296 : rz294.toInt = 0 ∨ rz294.toInt = 1 := pz296
                    have bz297 := hsL2 0
                    refine lv_if_eq (tgt := 91) hx hb dX11_paste_76 (by decide) (fun cz298 => ?_) (fun cz298 => ?_)
                    · skip
                      have zz299 : rz294.toInt = (0 : Int) := zi_eq.mp cz298
                      refine lv_bipush (v := (-7)) hx hb dX11_paste_91 (by decide) ?_
                      rw [hQ]
                      exact W.iret (v := (-7 : Int32)) hx hb hr (fun t ht hW => ⟨⟨(-7 : Int32), (), rfl, trivial, vL0, sL0, lL0, vL1, sL1, lL1, vL2, sL2, lL2, vL3, sL3, lL3, hsL0, hsL1, hsL2, hsL3, (show (vL0 0).toInt = (vL0 0).toInt ∧ (vL0 1).toInt = (vL0 1).toInt ∧ (sL0 0).toInt = (sL0 0).toInt from ⟨rfl, rfl, rfl⟩), (show (vL1 0).toInt = (vL1 0).toInt ∧ (vL1 1).toInt = (vL1 1).toInt ∧ (sL1 0).toInt = (sL1 0).toInt from ⟨rfl, rfl, rfl⟩), (show (vL2 0).toInt = (vL2 0).toInt ∧ (vL2 1).toInt = (vL2 1).toInt ∧ (sL2 0).toInt = (sL2 0).toInt from ⟨rfl, rfl, rfl⟩), (show (vL3 0).toInt = (vL3 0).toInt ∧ (vL3 1).toInt = (vL3 1).toInt ∧ (sL3 0).toInt = (sL3 0).toInt from ⟨rfl, rfl, rfl⟩), by rw [ht]; exact hP⟩, hS.F ht⟩) hS.2.2 dX11_paste_93
                    · skip
                      have zz300 : ¬ rz294.toInt = (0 : Int) := fun h9 => cz298 (zi_eq.mpr h9)
                      refine lv_aload hx hb dX11_paste_79 (lv_at hl 0 rfl) ?_
                      refine lv_iload hx hb dX11_paste_81 (lv_at hl 6 rfl) ?_
                      refine lv_iload hx hb dX11_paste_83 (lv_at hl 7 rfl) ?_
                      have hPc := hP.sub (ws' := (List.flatten [(wSlot qL1 k vL1 sL1 lL1)])) [2, 3] rfl
                      refine vp_callSi (va_Run.run (va_runV (As := [.int p4, .int p5]) (rest := []) ⟨hx, hb, hml, hown, hts⟩ (c_X6_spans_x l dC dI k qL1 vL1 sL1 lL1 p4 p5 hsL1) (cwV 2 hts (gk_V (wl_mem 6 rfl) (wl_mem 7 rfl) (wl_mem 8 rfl) (wl_mem 9 rfl) (fun w h => List.mem_cons_of_mem _ (List.mem_append_right _ (List.mem_append_right _ (List.mem_append_right _ (List.mem_append_right _ (List.mem_append_left _ h)))))) wkg_c_X6_spans_x) rfl rfl rfl (by decide +kernel) ⟨Nat.le_of_ble_eq_true rfl, Nat.le_of_ble_eq_true rfl⟩) ⟨fun a U g mk q => by obtain ⟨q0, qP, qK⟩ := q; exact ⟨q0, qP, va_K.moved (u := U) (U := U.calling g mk a) (Vm.Alike.refl U.vm) qK⟩, va_recv hK hPc (ci := 6) (q0 := 0) rfl rfl, fun U hU hW => ⟨rfl, by rw [hU]; exact hPc, va_K.moved hW.alike hK⟩⟩ rfl rfl hl.1 rfl (lv_room (Nat.le_of_ble_eq_true rfl)) dX11_paste_85 ⟨Nat.le_of_ble_eq_true rfl, Nat.le_of_ble_eq_true rfl⟩)) (fun rz302 gz301 => ?_)
                      clear hPc
                      obtain ⟨pz303, pz304⟩ := gz301
                      have pz303 : (rz302.toInt = 0 ∧ (p4.toInt < 0 ∨ p5.toInt < 0 ∨ (sL1 0).toInt < p4.toInt + p5.toInt)) ∨ (rz302.toInt = 1 ∧ 0 ≤ p4.toInt ∧ 0 ≤ p5.toInt ∧ p4.toInt + p5.toInt ≤ (sL1 0).toInt) := pz303
                      have pz304 : rz302.toInt = 0 ∨ rz302.toInt = 1 := pz304
                      have bz305 := hsL1 0
                      refine lv_if_ne (tgt := 94) hx hb dX11_paste_88 (by decide) (fun cz306 => ?_) (fun cz306 => ?_)
                      · skip
                        have zz307 : ¬ rz302.toInt = (0 : Int) := fun h9 => cz306 (zi_eq.mpr h9)
                        refine lv_aload hx hb dX11_paste_94 (lv_at hl 1 rfl) ?_
                        refine va_get (D := (dC, dI)) (ci := 6) (v := .ref (qL2 1)) (C := RX6) (T := TX6) (N := 4) hx hb hts (fun w h => List.mem_cons_of_mem _ (List.mem_append_right _ (List.mem_append_right _ (List.mem_append_right _ (List.mem_append_left _ h))))) hown hK hP 4 rfl rfl 0 (by decide) (hts (.fieldLink RX11 388 "SagMemory$Slot" "numbers" "[J") (wl_mem 10 rfl)) (fun _ h9 => h9) rfl dX11_paste_96 ?_
                        refine lv_iload_n hx hb dX11_paste_99 rfl (lv_at hl 4 rfl) ?_
                        refine lv_aload hx hb dX11_paste_100 (lv_at hl 0 rfl) ?_
                        refine va_get (D := (dC, dI)) (ci := 6) (v := .ref (qL1 1)) (C := RX6) (T := TX6) (N := 4) hx hb hts (fun w h => List.mem_cons_of_mem _ (List.mem_append_right _ (List.mem_append_right _ (List.mem_append_right _ (List.mem_append_left _ h))))) hown hK hP 2 rfl rfl 0 (by decide) (hts (.fieldLink RX11 388 "SagMemory$Slot" "numbers" "[J") (wl_mem 10 rfl)) (fun _ h9 => h9) rfl dX11_paste_102 ?_
                        refine lv_iload hx hb dX11_paste_105 (lv_at hl 6 rfl) ?_
                        refine lv_iload hx hb dX11_paste_107 (lv_at hl 7 rfl) ?_
                        refine va_copyl (ty := .long) hx hb (by rw [hml]; exact hl.1.symm) hown (hts (.methodLink RX11 402 arraycopyName) (wl_mem 11 rfl)) (hts (.native arraycopyName) (wl_mem 12 rfl)) (hts (.static arraycopyName) (wl_mem 13 rfl)) (hts (.initialized "java/lang/System") (wl_mem 14 rfl)) hK hP hD hS 5 3 1 1 rfl rfl rfl rfl rfl (fun h9 => by have h8 := zi_lt.mp h9; have h8 : p2.toInt < (0 : Int) := h8; omega) (fun h9 => by have h8 := zi_lt.mp h9; have h8 : p4.toInt < (0 : Int) := h8; omega) (fun h9 => by have h8 := zi_lt.mp h9; have h8 : p5.toInt < (0 : Int) := h8; omega) (by have h8 := zc_nat p2 (by show 0 ≤ p2.toInt; omega); have h9 := zc_nat p5 (by show 0 ≤ p5.toInt; omega); have h8 : ((p2).toNatClampNeg : Int) = p2.toInt := h8; have h9 : ((p5).toNatClampNeg : Int) = p5.toInt := h9; omega) (by have h8 := zc_nat p4 (by show 0 ≤ p4.toInt; omega); have h9 := zc_nat p5 (by show 0 ≤ p5.toInt; omega); have h8 : ((p4).toNatClampNeg : Int) = p4.toInt := h8; have h9 : ((p5).toNatClampNeg : Int) = p5.toInt := h9; omega) (fun _ _ => rfl) (Nat.le_of_ble_eq_true rfl) (Nat.le_of_ble_eq_true rfl) dX11_paste_109 (fun H locs hP hD hS => ?_)
                        obtain ⟨fz308, efz308, hP, hD⟩ : ∃ fz308 : Nat → Int64, fz308 = va_cpy (lL2 0) (lL1 0) p2.toNatClampNeg p4.toNatClampNeg p5.toNatClampNeg ∧ va_P (dC, dI) vwCl (List.flatten [(wSlot qL0 k vL0 sL0 lL0), (wSlot qL1 k vL1 sL1 (va_up lL1 0 fz308)), (wSlot qL2 k vL2 sL2 lL2), (wSlot qL3 k vL3 sL3 lL3)] ++ List.flatten [(wSag qX k tapeX toldX actsX nowX trialX storyX attemptX orderSearchX routeSearchX setSearchX probeX (qL0 0) (qL1 0) (qL2 0) (qL3 0) image0X image1X image2X aX)]) H ∧ va_D A (List.flatten [(wSlot qL0 k vL0 sL0 lL0), (wSlot qL1 k vL1 sL1 (va_up lL1 0 fz308)), (wSlot qL2 k vL2 sL2 lL2), (wSlot qL3 k vL3 sL3 lL3)] ++ List.flatten [(wSag qX k tapeX toldX actsX nowX trialX storyX attemptX orderSearchX routeSearchX setSearchX probeX (qL0 0) (qL1 0) (qL2 0) (qL3 0) image0X image1X image2X aX)]) := ⟨_, rfl, hP, hD⟩
                        refine lv_iconst (v := 0) hx hb dX11_paste_112 (by decide) ?_
                        rw [hQ]
                        exact W.iret (v := (0 : Int32)) hx hb hr (fun t ht hW => ⟨⟨(0 : Int32), (), rfl, trivial, vL0, sL0, lL0, vL1, sL1, (va_up lL1 0 fz308), vL2, sL2, lL2, vL3, sL3, lL3, hsL0, hsL1, hsL2, hsL3, (show (vL0 0).toInt = (vL0 0).toInt ∧ (vL0 1).toInt = (vL0 1).toInt ∧ (sL0 0).toInt = (sL0 0).toInt from ⟨rfl, rfl, rfl⟩), (show (vL1 0).toInt = (vL1 0).toInt ∧ (vL1 1).toInt = (vL1 1).toInt ∧ (sL1 0).toInt = (sL1 0).toInt from ⟨rfl, rfl, rfl⟩), (show (vL2 0).toInt = (vL2 0).toInt ∧ (vL2 1).toInt = (vL2 1).toInt ∧ (sL2 0).toInt = (sL2 0).toInt from ⟨rfl, rfl, rfl⟩), (show (vL3 0).toInt = (vL3 0).toInt ∧ (vL3 1).toInt = (vL3 1).toInt ∧ (sL3 0).toInt = (sL3 0).toInt from ⟨rfl, rfl, rfl⟩), by rw [ht]; exact hP⟩, hS.F ht⟩) hS.2.2 dX11_paste_113
                      · skip
                        have zz309 : rz302.toInt = (0 : Int) := zi_eq.mp cz306
                        refine lv_bipush (v := (-7)) hx hb dX11_paste_91 (by decide) ?_
                        rw [hQ]
                        exact W.iret (v := (-7 : Int32)) hx hb hr (fun t ht hW => ⟨⟨(-7 : Int32), (), rfl, trivial, vL0, sL0, lL0, vL1, sL1, lL1, vL2, sL2, lL2, vL3, sL3, lL3, hsL0, hsL1, hsL2, hsL3, (show (vL0 0).toInt = (vL0 0).toInt ∧ (vL0 1).toInt = (vL0 1).toInt ∧ (sL0 0).toInt = (sL0 0).toInt from ⟨rfl, rfl, rfl⟩), (show (vL1 0).toInt = (vL1 0).toInt ∧ (vL1 1).toInt = (vL1 1).toInt ∧ (sL1 0).toInt = (sL1 0).toInt from ⟨rfl, rfl, rfl⟩), (show (vL2 0).toInt = (vL2 0).toInt ∧ (vL2 1).toInt = (vL2 1).toInt ∧ (sL2 0).toInt = (sL2 0).toInt from ⟨rfl, rfl, rfl⟩), (show (vL3 0).toInt = (vL3 0).toInt ∧ (vL3 1).toInt = (vL3 1).toInt ∧ (sL3 0).toInt = (sL3 0).toInt from ⟨rfl, rfl, rfl⟩), by rw [ht]; exact hP⟩, hS.F ht⟩) hS.2.2 dX11_paste_93
                  · skip
                    have zz310 : ¬ (vL2 1).toInt = (vL1 1).toInt := fun h9 => cz291 (zi_eq.mpr h9)
                    refine lv_bipush (v := (-8)) hx hb dX11_paste_65 (by decide) ?_
                    rw [hQ]
                    exact W.iret (v := (-8 : Int32)) hx hb hr (fun t ht hW => ⟨⟨(-8 : Int32), (), rfl, trivial, vL0, sL0, lL0, vL1, sL1, lL1, vL2, sL2, lL2, vL3, sL3, lL3, hsL0, hsL1, hsL2, hsL3, (show (vL0 0).toInt = (vL0 0).toInt ∧ (vL0 1).toInt = (vL0 1).toInt ∧ (sL0 0).toInt = (sL0 0).toInt from ⟨rfl, rfl, rfl⟩), (show (vL1 0).toInt = (vL1 0).toInt ∧ (vL1 1).toInt = (vL1 1).toInt ∧ (sL1 0).toInt = (sL1 0).toInt from ⟨rfl, rfl, rfl⟩), (show (vL2 0).toInt = (vL2 0).toInt ∧ (vL2 1).toInt = (vL2 1).toInt ∧ (sL2 0).toInt = (sL2 0).toInt from ⟨rfl, rfl, rfl⟩), (show (vL3 0).toInt = (vL3 0).toInt ∧ (vL3 1).toInt = (vL3 1).toInt ∧ (sL3 0).toInt = (sL3 0).toInt from ⟨rfl, rfl, rfl⟩), by rw [ht]; exact hP⟩, hS.F ht⟩) hS.2.2 dX11_paste_67
                · skip
                  have zz311 : (vL1 0).toInt = (0 : Int) := zi_eq.mp cz289
                  refine lv_bipush (v := (-6)) hx hb dX11_paste_49 (by decide) ?_
                  rw [hQ]
                  exact W.iret (v := (-6 : Int32)) hx hb hr (fun t ht hW => ⟨⟨(-6 : Int32), (), rfl, trivial, vL0, sL0, lL0, vL1, sL1, lL1, vL2, sL2, lL2, vL3, sL3, lL3, hsL0, hsL1, hsL2, hsL3, (show (vL0 0).toInt = (vL0 0).toInt ∧ (vL0 1).toInt = (vL0 1).toInt ∧ (sL0 0).toInt = (sL0 0).toInt from ⟨rfl, rfl, rfl⟩), (show (vL1 0).toInt = (vL1 0).toInt ∧ (vL1 1).toInt = (vL1 1).toInt ∧ (sL1 0).toInt = (sL1 0).toInt from ⟨rfl, rfl, rfl⟩), (show (vL2 0).toInt = (vL2 0).toInt ∧ (vL2 1).toInt = (vL2 1).toInt ∧ (sL2 0).toInt = (sL2 0).toInt from ⟨rfl, rfl, rfl⟩), (show (vL3 0).toInt = (vL3 0).toInt ∧ (vL3 1).toInt = (vL3 1).toInt ∧ (sL3 0).toInt = (sL3 0).toInt from ⟨rfl, rfl, rfl⟩), by rw [ht]; exact hP⟩, hS.F ht⟩) hS.2.2 dX11_paste_51
            · skip
              have zz312 : p3.toInt = (2 : Int) := zi_eq.mp cz257
              refine W.eq (g2 := F0 m 30 ls [.int 2, .ref (qX 3)]) (by rw [cz257]) ?_
              refine va_aldq hx hb hK hP 11 6 rfl rfl (by unfold vp_in; decide) dX11_paste_30 ?_
              refine W.eq (g2 := F0 m 31 ls [.ref (qL2 0)]) rfl ?_
              refine lv_astore (lv' := [(7, .ref (qL2 0)), (6, .ref (qL2 0)), (0, .ref (qX 0)), (1, .int p1), (2, .int p2), (3, .int p3), (4, .int p4), (5, .int p5)]) hx hb dX11_paste_31 hl (by decide) rfl (fun ls hl => ?_)
              refine lv_aload hx hb dX11_paste_33 (lv_at hl 1 rfl) ?_
              refine va_get (D := (dC, dI)) (ci := 6) (v := .int (vL2 0)) (C := RX6) (T := TX6) (N := 4) hx hb hts (fun w h => List.mem_cons_of_mem _ (List.mem_append_right _ (List.mem_append_right _ (List.mem_append_right _ (List.mem_append_left _ h))))) hown hK hP 4 rfl rfl 1 (by decide) (hts (.fieldLink RX11 386 "SagMemory$Slot" "has" "Z") (wl_mem 4 rfl)) (fun _ h9 => h9) rfl dX11_paste_35 ?_
              refine lv_if_eq (tgt := 49) hx hb dX11_paste_38 (by decide) (fun cz313 => ?_) (fun cz313 => ?_)
              · skip
                have zz314 : (vL2 0).toInt = (0 : Int) := zi_eq.mp cz313
                refine lv_bipush (v := (-6)) hx hb dX11_paste_49 (by decide) ?_
                rw [hQ]
                exact W.iret (v := (-6 : Int32)) hx hb hr (fun t ht hW => ⟨⟨(-6 : Int32), (), rfl, trivial, vL0, sL0, lL0, vL1, sL1, lL1, vL2, sL2, lL2, vL3, sL3, lL3, hsL0, hsL1, hsL2, hsL3, (show (vL0 0).toInt = (vL0 0).toInt ∧ (vL0 1).toInt = (vL0 1).toInt ∧ (sL0 0).toInt = (sL0 0).toInt from ⟨rfl, rfl, rfl⟩), (show (vL1 0).toInt = (vL1 0).toInt ∧ (vL1 1).toInt = (vL1 1).toInt ∧ (sL1 0).toInt = (sL1 0).toInt from ⟨rfl, rfl, rfl⟩), (show (vL2 0).toInt = (vL2 0).toInt ∧ (vL2 1).toInt = (vL2 1).toInt ∧ (sL2 0).toInt = (sL2 0).toInt from ⟨rfl, rfl, rfl⟩), (show (vL3 0).toInt = (vL3 0).toInt ∧ (vL3 1).toInt = (vL3 1).toInt ∧ (sL3 0).toInt = (sL3 0).toInt from ⟨rfl, rfl, rfl⟩), by rw [ht]; exact hP⟩, hS.F ht⟩) hS.2.2 dX11_paste_51
              · skip
                have zz315 : ¬ (vL2 0).toInt = (0 : Int) := fun h9 => cz313 (zi_eq.mpr h9)
                refine lv_aload hx hb dX11_paste_41 (lv_at hl 0 rfl) ?_
                refine va_get (D := (dC, dI)) (ci := 6) (v := .int (vL2 0)) (C := RX6) (T := TX6) (N := 4) hx hb hts (fun w h => List.mem_cons_of_mem _ (List.mem_append_right _ (List.mem_append_right _ (List.mem_append_right _ (List.mem_append_left _ h))))) hown hK hP 4 rfl rfl 1 (by decide) (hts (.fieldLink RX11 386 "SagMemory$Slot" "has" "Z") (wl_mem 4 rfl)) (fun _ h9 => h9) rfl dX11_paste_43 ?_
                refine lv_if_ne (tgt := 52) hx hb dX11_paste_46 (by decide) (fun cz316 => ?_) (fun cz316 => ?_)
                · skip
                  have zz317 : ¬ (vL2 0).toInt = (0 : Int) := fun h9 => cz316 (zi_eq.mpr h9)
                  refine lv_aload hx hb dX11_paste_52 (lv_at hl 1 rfl) ?_
                  refine va_get (D := (dC, dI)) (ci := 6) (v := .int (vL2 1)) (C := RX6) (T := TX6) (N := 4) hx hb hts (fun w h => List.mem_cons_of_mem _ (List.mem_append_right _ (List.mem_append_right _ (List.mem_append_right _ (List.mem_append_left _ h))))) hown hK hP 4 rfl rfl 2 (by decide) (hts (.fieldLink RX11 396 "SagMemory$Slot" "width" "I") (wl_mem 5 rfl)) (fun _ h9 => h9) rfl dX11_paste_54 ?_
                  refine lv_aload hx hb dX11_paste_57 (lv_at hl 0 rfl) ?_
                  refine va_get (D := (dC, dI)) (ci := 6) (v := .int (vL2 1)) (C := RX6) (T := TX6) (N := 4) hx hb hts (fun w h => List.mem_cons_of_mem _ (List.mem_append_right _ (List.mem_append_right _ (List.mem_append_right _ (List.mem_append_left _ h))))) hown hK hP 4 rfl rfl 2 (by decide) (hts (.fieldLink RX11 396 "SagMemory$Slot" "width" "I") (wl_mem 5 rfl)) (fun _ h9 => h9) rfl dX11_paste_59 ?_
                  refine lv_icmp_eq (tgt := 68) hx hb dX11_paste_62 (by decide) (fun cz318 => ?_) (fun cz318 => ?_)
                  · skip
                    have zz319 : (vL2 1).toInt = (vL2 1).toInt := zi_eq.mp cz318
                    refine lv_aload hx hb dX11_paste_68 (lv_at hl 1 rfl) ?_
                    refine lv_iload_n hx hb dX11_paste_70 rfl (lv_at hl 4 rfl) ?_
                    refine lv_iload hx hb dX11_paste_71 (lv_at hl 7 rfl) ?_
                    have hPc := hP.sub (ws' := (List.flatten [(wSlot qL2 k vL2 sL2 lL2)])) [4, 5] rfl
                    refine vp_callSi (va_Run.run (va_runV (As := [.int p2, .int p5]) (rest := []) ⟨hx, hb, hml, hown, hts⟩ (c_X6_spans_x l dC dI k qL2 vL2 sL2 lL2 p2 p5 hsL2) (cwV 2 hts (gk_V (wl_mem 6 rfl) (wl_mem 7 rfl) (wl_mem 8 rfl) (wl_mem 9 rfl) (fun w h => List.mem_cons_of_mem _ (List.mem_append_right _ (List.mem_append_right _ (List.mem_append_right _ (List.mem_append_right _ (List.mem_append_left _ h)))))) wkg_c_X6_spans_x) rfl rfl rfl (by decide +kernel) ⟨Nat.le_of_ble_eq_true rfl, Nat.le_of_ble_eq_true rfl⟩) ⟨fun a U g mk q => by obtain ⟨q0, qP, qK⟩ := q; exact ⟨q0, qP, va_K.moved (u := U) (U := U.calling g mk a) (Vm.Alike.refl U.vm) qK⟩, va_recv hK hPc (ci := 6) (q0 := 0) rfl rfl, fun U hU hW => ⟨rfl, by rw [hU]; exact hPc, va_K.moved hW.alike hK⟩⟩ rfl rfl hl.1 rfl (lv_room (Nat.le_of_ble_eq_true rfl)) dX11_paste_73 ⟨Nat.le_of_ble_eq_true rfl, Nat.le_of_ble_eq_true rfl⟩)) (fun rz321 gz320 => ?_)
                    clear hPc
                    obtain ⟨pz322, pz323⟩ := gz320
                    have pz322 : (rz321.toInt = 0 ∧ (p2.toInt < 0 ∨ p5.toInt < 0 ∨ (sL2 0).toInt < p2.toInt + p5.toInt)) ∨ (rz321.toInt = 1 ∧ 0 ≤ p2.toInt ∧ 0 ≤ p5.toInt ∧ p2.toInt + p5.toInt ≤ (sL2 0).toInt) := pz322
                    have pz323 : rz321.toInt = 0 ∨ rz321.toInt = 1 := pz323
                    have bz324 := hsL2 0
                    refine lv_if_eq (tgt := 91) hx hb dX11_paste_76 (by decide) (fun cz325 => ?_) (fun cz325 => ?_)
                    · skip
                      have zz326 : rz321.toInt = (0 : Int) := zi_eq.mp cz325
                      refine lv_bipush (v := (-7)) hx hb dX11_paste_91 (by decide) ?_
                      rw [hQ]
                      exact W.iret (v := (-7 : Int32)) hx hb hr (fun t ht hW => ⟨⟨(-7 : Int32), (), rfl, trivial, vL0, sL0, lL0, vL1, sL1, lL1, vL2, sL2, lL2, vL3, sL3, lL3, hsL0, hsL1, hsL2, hsL3, (show (vL0 0).toInt = (vL0 0).toInt ∧ (vL0 1).toInt = (vL0 1).toInt ∧ (sL0 0).toInt = (sL0 0).toInt from ⟨rfl, rfl, rfl⟩), (show (vL1 0).toInt = (vL1 0).toInt ∧ (vL1 1).toInt = (vL1 1).toInt ∧ (sL1 0).toInt = (sL1 0).toInt from ⟨rfl, rfl, rfl⟩), (show (vL2 0).toInt = (vL2 0).toInt ∧ (vL2 1).toInt = (vL2 1).toInt ∧ (sL2 0).toInt = (sL2 0).toInt from ⟨rfl, rfl, rfl⟩), (show (vL3 0).toInt = (vL3 0).toInt ∧ (vL3 1).toInt = (vL3 1).toInt ∧ (sL3 0).toInt = (sL3 0).toInt from ⟨rfl, rfl, rfl⟩), by rw [ht]; exact hP⟩, hS.F ht⟩) hS.2.2 dX11_paste_93
                    · skip
                      have zz327 : ¬ rz321.toInt = (0 : Int) := fun h9 => cz325 (zi_eq.mpr h9)
                      refine lv_aload hx hb dX11_paste_79 (lv_at hl 0 rfl) ?_
                      refine lv_iload hx hb dX11_paste_81 (lv_at hl 6 rfl) ?_
                      refine lv_iload hx hb dX11_paste_83 (lv_at hl 7 rfl) ?_
                      have hPc := hP.sub (ws' := (List.flatten [(wSlot qL2 k vL2 sL2 lL2)])) [4, 5] rfl
                      refine vp_callSi (va_Run.run (va_runV (As := [.int p4, .int p5]) (rest := []) ⟨hx, hb, hml, hown, hts⟩ (c_X6_spans_x l dC dI k qL2 vL2 sL2 lL2 p4 p5 hsL2) (cwV 2 hts (gk_V (wl_mem 6 rfl) (wl_mem 7 rfl) (wl_mem 8 rfl) (wl_mem 9 rfl) (fun w h => List.mem_cons_of_mem _ (List.mem_append_right _ (List.mem_append_right _ (List.mem_append_right _ (List.mem_append_right _ (List.mem_append_left _ h)))))) wkg_c_X6_spans_x) rfl rfl rfl (by decide +kernel) ⟨Nat.le_of_ble_eq_true rfl, Nat.le_of_ble_eq_true rfl⟩) ⟨fun a U g mk q => by obtain ⟨q0, qP, qK⟩ := q; exact ⟨q0, qP, va_K.moved (u := U) (U := U.calling g mk a) (Vm.Alike.refl U.vm) qK⟩, va_recv hK hPc (ci := 6) (q0 := 0) rfl rfl, fun U hU hW => ⟨rfl, by rw [hU]; exact hPc, va_K.moved hW.alike hK⟩⟩ rfl rfl hl.1 rfl (lv_room (Nat.le_of_ble_eq_true rfl)) dX11_paste_85 ⟨Nat.le_of_ble_eq_true rfl, Nat.le_of_ble_eq_true rfl⟩)) (fun rz329 gz328 => ?_)
                      clear hPc
                      obtain ⟨pz330, pz331⟩ := gz328
                      have pz330 : (rz329.toInt = 0 ∧ (p4.toInt < 0 ∨ p5.toInt < 0 ∨ (sL2 0).toInt < p4.toInt + p5.toInt)) ∨ (rz329.toInt = 1 ∧ 0 ≤ p4.toInt ∧ 0 ≤ p5.toInt ∧ p4.toInt + p5.toInt ≤ (sL2 0).toInt) := pz330
                      have pz331 : rz329.toInt = 0 ∨ rz329.toInt = 1 := pz331
                      refine lv_if_ne (tgt := 94) hx hb dX11_paste_88 (by decide) (fun cz332 => ?_) (fun cz332 => ?_)
                      · skip
                        have zz333 : ¬ rz329.toInt = (0 : Int) := fun h9 => cz332 (zi_eq.mpr h9)
                        refine lv_aload hx hb dX11_paste_94 (lv_at hl 1 rfl) ?_
                        refine va_get (D := (dC, dI)) (ci := 6) (v := .ref (qL2 1)) (C := RX6) (T := TX6) (N := 4) hx hb hts (fun w h => List.mem_cons_of_mem _ (List.mem_append_right _ (List.mem_append_right _ (List.mem_append_right _ (List.mem_append_left _ h))))) hown hK hP 4 rfl rfl 0 (by decide) (hts (.fieldLink RX11 388 "SagMemory$Slot" "numbers" "[J") (wl_mem 10 rfl)) (fun _ h9 => h9) rfl dX11_paste_96 ?_
                        refine lv_iload_n hx hb dX11_paste_99 rfl (lv_at hl 4 rfl) ?_
                        refine lv_aload hx hb dX11_paste_100 (lv_at hl 0 rfl) ?_
                        refine va_get (D := (dC, dI)) (ci := 6) (v := .ref (qL2 1)) (C := RX6) (T := TX6) (N := 4) hx hb hts (fun w h => List.mem_cons_of_mem _ (List.mem_append_right _ (List.mem_append_right _ (List.mem_append_right _ (List.mem_append_left _ h))))) hown hK hP 4 rfl rfl 0 (by decide) (hts (.fieldLink RX11 388 "SagMemory$Slot" "numbers" "[J") (wl_mem 10 rfl)) (fun _ h9 => h9) rfl dX11_paste_102 ?_
                        refine lv_iload hx hb dX11_paste_105 (lv_at hl 6 rfl) ?_
                        refine lv_iload hx hb dX11_paste_107 (lv_at hl 7 rfl) ?_
                        refine va_copyl (ty := .long) hx hb (by rw [hml]; exact hl.1.symm) hown (hts (.methodLink RX11 402 arraycopyName) (wl_mem 11 rfl)) (hts (.native arraycopyName) (wl_mem 12 rfl)) (hts (.static arraycopyName) (wl_mem 13 rfl)) (hts (.initialized "java/lang/System") (wl_mem 14 rfl)) hK hP hD hS 5 5 1 1 rfl rfl rfl rfl rfl (fun h9 => by have h8 := zi_lt.mp h9; have h8 : p2.toInt < (0 : Int) := h8; omega) (fun h9 => by have h8 := zi_lt.mp h9; have h8 : p4.toInt < (0 : Int) := h8; omega) (fun h9 => by have h8 := zi_lt.mp h9; have h8 : p5.toInt < (0 : Int) := h8; omega) (by have h8 := zc_nat p2 (by show 0 ≤ p2.toInt; omega); have h9 := zc_nat p5 (by show 0 ≤ p5.toInt; omega); have h8 : ((p2).toNatClampNeg : Int) = p2.toInt := h8; have h9 : ((p5).toNatClampNeg : Int) = p5.toInt := h9; omega) (by have h8 := zc_nat p4 (by show 0 ≤ p4.toInt; omega); have h9 := zc_nat p5 (by show 0 ≤ p5.toInt; omega); have h8 : ((p4).toNatClampNeg : Int) = p4.toInt := h8; have h9 : ((p5).toNatClampNeg : Int) = p5.toInt := h9; omega) (fun _ _ => rfl) (Nat.le_of_ble_eq_true rfl) (Nat.le_of_ble_eq_true rfl) dX11_paste_109 (fun H locs hP hD hS => ?_)
                        obtain ⟨fz334, efz334, hP, hD⟩ : ∃ fz334 : Nat → Int64, fz334 = va_cpy (lL2 0) (lL2 0) p2.toNatClampNeg p4.toNatClampNeg p5.toNatClampNeg ∧ va_P (dC, dI) vwCl (List.flatten [(wSlot qL0 k vL0 sL0 lL0), (wSlot qL1 k vL1 sL1 lL1), (wSlot qL2 k vL2 sL2 (va_up lL2 0 fz334)), (wSlot qL3 k vL3 sL3 lL3)] ++ List.flatten [(wSag qX k tapeX toldX actsX nowX trialX storyX attemptX orderSearchX routeSearchX setSearchX probeX (qL0 0) (qL1 0) (qL2 0) (qL3 0) image0X image1X image2X aX)]) H ∧ va_D A (List.flatten [(wSlot qL0 k vL0 sL0 lL0), (wSlot qL1 k vL1 sL1 lL1), (wSlot qL2 k vL2 sL2 (va_up lL2 0 fz334)), (wSlot qL3 k vL3 sL3 lL3)] ++ List.flatten [(wSag qX k tapeX toldX actsX nowX trialX storyX attemptX orderSearchX routeSearchX setSearchX probeX (qL0 0) (qL1 0) (qL2 0) (qL3 0) image0X image1X image2X aX)]) := ⟨_, rfl, hP, hD⟩
                        refine lv_iconst (v := 0) hx hb dX11_paste_112 (by decide) ?_
                        rw [hQ]
                        exact W.iret (v := (0 : Int32)) hx hb hr (fun t ht hW => ⟨⟨(0 : Int32), (), rfl, trivial, vL0, sL0, lL0, vL1, sL1, lL1, vL2, sL2, (va_up lL2 0 fz334), vL3, sL3, lL3, hsL0, hsL1, hsL2, hsL3, (show (vL0 0).toInt = (vL0 0).toInt ∧ (vL0 1).toInt = (vL0 1).toInt ∧ (sL0 0).toInt = (sL0 0).toInt from ⟨rfl, rfl, rfl⟩), (show (vL1 0).toInt = (vL1 0).toInt ∧ (vL1 1).toInt = (vL1 1).toInt ∧ (sL1 0).toInt = (sL1 0).toInt from ⟨rfl, rfl, rfl⟩), (show (vL2 0).toInt = (vL2 0).toInt ∧ (vL2 1).toInt = (vL2 1).toInt ∧ (sL2 0).toInt = (sL2 0).toInt from ⟨rfl, rfl, rfl⟩), (show (vL3 0).toInt = (vL3 0).toInt ∧ (vL3 1).toInt = (vL3 1).toInt ∧ (sL3 0).toInt = (sL3 0).toInt from ⟨rfl, rfl, rfl⟩), by rw [ht]; exact hP⟩, hS.F ht⟩) hS.2.2 dX11_paste_113
                      · skip
                        have zz335 : rz329.toInt = (0 : Int) := zi_eq.mp cz332
                        refine lv_bipush (v := (-7)) hx hb dX11_paste_91 (by decide) ?_
                        rw [hQ]
                        exact W.iret (v := (-7 : Int32)) hx hb hr (fun t ht hW => ⟨⟨(-7 : Int32), (), rfl, trivial, vL0, sL0, lL0, vL1, sL1, lL1, vL2, sL2, lL2, vL3, sL3, lL3, hsL0, hsL1, hsL2, hsL3, (show (vL0 0).toInt = (vL0 0).toInt ∧ (vL0 1).toInt = (vL0 1).toInt ∧ (sL0 0).toInt = (sL0 0).toInt from ⟨rfl, rfl, rfl⟩), (show (vL1 0).toInt = (vL1 0).toInt ∧ (vL1 1).toInt = (vL1 1).toInt ∧ (sL1 0).toInt = (sL1 0).toInt from ⟨rfl, rfl, rfl⟩), (show (vL2 0).toInt = (vL2 0).toInt ∧ (vL2 1).toInt = (vL2 1).toInt ∧ (sL2 0).toInt = (sL2 0).toInt from ⟨rfl, rfl, rfl⟩), (show (vL3 0).toInt = (vL3 0).toInt ∧ (vL3 1).toInt = (vL3 1).toInt ∧ (sL3 0).toInt = (sL3 0).toInt from ⟨rfl, rfl, rfl⟩), by rw [ht]; exact hP⟩, hS.F ht⟩) hS.2.2 dX11_paste_93
                  · skip
                    have zz336 : ¬ (vL2 1).toInt = (vL2 1).toInt := fun h9 => cz318 (zi_eq.mpr h9)
                    exact absurd rfl cz318
                · skip
                  have zz337 : (vL2 0).toInt = (0 : Int) := zi_eq.mp cz316
                  omega
            · skip
              have zz338 : p3.toInt = (3 : Int) := zi_eq.mp cz257
              refine W.eq (g2 := F0 m 30 ls [.int 3, .ref (qX 3)]) (by rw [cz257]) ?_
              refine va_aldq hx hb hK hP 11 6 rfl rfl (by unfold vp_in; decide) dX11_paste_30 ?_
              refine W.eq (g2 := F0 m 31 ls [.ref (qL3 0)]) rfl ?_
              refine lv_astore (lv' := [(7, .ref (qL3 0)), (6, .ref (qL2 0)), (0, .ref (qX 0)), (1, .int p1), (2, .int p2), (3, .int p3), (4, .int p4), (5, .int p5)]) hx hb dX11_paste_31 hl (by decide) rfl (fun ls hl => ?_)
              refine lv_aload hx hb dX11_paste_33 (lv_at hl 1 rfl) ?_
              refine va_get (D := (dC, dI)) (ci := 6) (v := .int (vL2 0)) (C := RX6) (T := TX6) (N := 4) hx hb hts (fun w h => List.mem_cons_of_mem _ (List.mem_append_right _ (List.mem_append_right _ (List.mem_append_right _ (List.mem_append_left _ h))))) hown hK hP 4 rfl rfl 1 (by decide) (hts (.fieldLink RX11 386 "SagMemory$Slot" "has" "Z") (wl_mem 4 rfl)) (fun _ h9 => h9) rfl dX11_paste_35 ?_
              refine lv_if_eq (tgt := 49) hx hb dX11_paste_38 (by decide) (fun cz339 => ?_) (fun cz339 => ?_)
              · skip
                have zz340 : (vL2 0).toInt = (0 : Int) := zi_eq.mp cz339
                refine lv_bipush (v := (-6)) hx hb dX11_paste_49 (by decide) ?_
                rw [hQ]
                exact W.iret (v := (-6 : Int32)) hx hb hr (fun t ht hW => ⟨⟨(-6 : Int32), (), rfl, trivial, vL0, sL0, lL0, vL1, sL1, lL1, vL2, sL2, lL2, vL3, sL3, lL3, hsL0, hsL1, hsL2, hsL3, (show (vL0 0).toInt = (vL0 0).toInt ∧ (vL0 1).toInt = (vL0 1).toInt ∧ (sL0 0).toInt = (sL0 0).toInt from ⟨rfl, rfl, rfl⟩), (show (vL1 0).toInt = (vL1 0).toInt ∧ (vL1 1).toInt = (vL1 1).toInt ∧ (sL1 0).toInt = (sL1 0).toInt from ⟨rfl, rfl, rfl⟩), (show (vL2 0).toInt = (vL2 0).toInt ∧ (vL2 1).toInt = (vL2 1).toInt ∧ (sL2 0).toInt = (sL2 0).toInt from ⟨rfl, rfl, rfl⟩), (show (vL3 0).toInt = (vL3 0).toInt ∧ (vL3 1).toInt = (vL3 1).toInt ∧ (sL3 0).toInt = (sL3 0).toInt from ⟨rfl, rfl, rfl⟩), by rw [ht]; exact hP⟩, hS.F ht⟩) hS.2.2 dX11_paste_51
              · skip
                have zz341 : ¬ (vL2 0).toInt = (0 : Int) := fun h9 => cz339 (zi_eq.mpr h9)
                refine lv_aload hx hb dX11_paste_41 (lv_at hl 0 rfl) ?_
                refine va_get (D := (dC, dI)) (ci := 6) (v := .int (vL3 0)) (C := RX6) (T := TX6) (N := 4) hx hb hts (fun w h => List.mem_cons_of_mem _ (List.mem_append_right _ (List.mem_append_right _ (List.mem_append_right _ (List.mem_append_left _ h))))) hown hK hP 6 rfl rfl 1 (by decide) (hts (.fieldLink RX11 386 "SagMemory$Slot" "has" "Z") (wl_mem 4 rfl)) (fun _ h9 => h9) rfl dX11_paste_43 ?_
                refine lv_if_ne (tgt := 52) hx hb dX11_paste_46 (by decide) (fun cz342 => ?_) (fun cz342 => ?_)
                · skip
                  have zz343 : ¬ (vL3 0).toInt = (0 : Int) := fun h9 => cz342 (zi_eq.mpr h9)
                  refine lv_aload hx hb dX11_paste_52 (lv_at hl 1 rfl) ?_
                  refine va_get (D := (dC, dI)) (ci := 6) (v := .int (vL2 1)) (C := RX6) (T := TX6) (N := 4) hx hb hts (fun w h => List.mem_cons_of_mem _ (List.mem_append_right _ (List.mem_append_right _ (List.mem_append_right _ (List.mem_append_left _ h))))) hown hK hP 4 rfl rfl 2 (by decide) (hts (.fieldLink RX11 396 "SagMemory$Slot" "width" "I") (wl_mem 5 rfl)) (fun _ h9 => h9) rfl dX11_paste_54 ?_
                  refine lv_aload hx hb dX11_paste_57 (lv_at hl 0 rfl) ?_
                  refine va_get (D := (dC, dI)) (ci := 6) (v := .int (vL3 1)) (C := RX6) (T := TX6) (N := 4) hx hb hts (fun w h => List.mem_cons_of_mem _ (List.mem_append_right _ (List.mem_append_right _ (List.mem_append_right _ (List.mem_append_left _ h))))) hown hK hP 6 rfl rfl 2 (by decide) (hts (.fieldLink RX11 396 "SagMemory$Slot" "width" "I") (wl_mem 5 rfl)) (fun _ h9 => h9) rfl dX11_paste_59 ?_
                  refine lv_icmp_eq (tgt := 68) hx hb dX11_paste_62 (by decide) (fun cz344 => ?_) (fun cz344 => ?_)
                  · skip
                    have zz345 : (vL2 1).toInt = (vL3 1).toInt := zi_eq.mp cz344
                    refine lv_aload hx hb dX11_paste_68 (lv_at hl 1 rfl) ?_
                    refine lv_iload_n hx hb dX11_paste_70 rfl (lv_at hl 4 rfl) ?_
                    refine lv_iload hx hb dX11_paste_71 (lv_at hl 7 rfl) ?_
                    have hPc := hP.sub (ws' := (List.flatten [(wSlot qL2 k vL2 sL2 lL2)])) [4, 5] rfl
                    refine vp_callSi (va_Run.run (va_runV (As := [.int p2, .int p5]) (rest := []) ⟨hx, hb, hml, hown, hts⟩ (c_X6_spans_x l dC dI k qL2 vL2 sL2 lL2 p2 p5 hsL2) (cwV 2 hts (gk_V (wl_mem 6 rfl) (wl_mem 7 rfl) (wl_mem 8 rfl) (wl_mem 9 rfl) (fun w h => List.mem_cons_of_mem _ (List.mem_append_right _ (List.mem_append_right _ (List.mem_append_right _ (List.mem_append_right _ (List.mem_append_left _ h)))))) wkg_c_X6_spans_x) rfl rfl rfl (by decide +kernel) ⟨Nat.le_of_ble_eq_true rfl, Nat.le_of_ble_eq_true rfl⟩) ⟨fun a U g mk q => by obtain ⟨q0, qP, qK⟩ := q; exact ⟨q0, qP, va_K.moved (u := U) (U := U.calling g mk a) (Vm.Alike.refl U.vm) qK⟩, va_recv hK hPc (ci := 6) (q0 := 0) rfl rfl, fun U hU hW => ⟨rfl, by rw [hU]; exact hPc, va_K.moved hW.alike hK⟩⟩ rfl rfl hl.1 rfl (lv_room (Nat.le_of_ble_eq_true rfl)) dX11_paste_73 ⟨Nat.le_of_ble_eq_true rfl, Nat.le_of_ble_eq_true rfl⟩)) (fun rz347 gz346 => ?_)
                    clear hPc
                    obtain ⟨pz348, pz349⟩ := gz346
                    have pz348 : (rz347.toInt = 0 ∧ (p2.toInt < 0 ∨ p5.toInt < 0 ∨ (sL2 0).toInt < p2.toInt + p5.toInt)) ∨ (rz347.toInt = 1 ∧ 0 ≤ p2.toInt ∧ 0 ≤ p5.toInt ∧ p2.toInt + p5.toInt ≤ (sL2 0).toInt) := pz348
                    have pz349 : rz347.toInt = 0 ∨ rz347.toInt = 1 := pz349
                    have bz350 := hsL2 0
                    refine lv_if_eq (tgt := 91) hx hb dX11_paste_76 (by decide) (fun cz351 => ?_) (fun cz351 => ?_)
                    · skip
                      have zz352 : rz347.toInt = (0 : Int) := zi_eq.mp cz351
                      refine lv_bipush (v := (-7)) hx hb dX11_paste_91 (by decide) ?_
                      rw [hQ]
                      exact W.iret (v := (-7 : Int32)) hx hb hr (fun t ht hW => ⟨⟨(-7 : Int32), (), rfl, trivial, vL0, sL0, lL0, vL1, sL1, lL1, vL2, sL2, lL2, vL3, sL3, lL3, hsL0, hsL1, hsL2, hsL3, (show (vL0 0).toInt = (vL0 0).toInt ∧ (vL0 1).toInt = (vL0 1).toInt ∧ (sL0 0).toInt = (sL0 0).toInt from ⟨rfl, rfl, rfl⟩), (show (vL1 0).toInt = (vL1 0).toInt ∧ (vL1 1).toInt = (vL1 1).toInt ∧ (sL1 0).toInt = (sL1 0).toInt from ⟨rfl, rfl, rfl⟩), (show (vL2 0).toInt = (vL2 0).toInt ∧ (vL2 1).toInt = (vL2 1).toInt ∧ (sL2 0).toInt = (sL2 0).toInt from ⟨rfl, rfl, rfl⟩), (show (vL3 0).toInt = (vL3 0).toInt ∧ (vL3 1).toInt = (vL3 1).toInt ∧ (sL3 0).toInt = (sL3 0).toInt from ⟨rfl, rfl, rfl⟩), by rw [ht]; exact hP⟩, hS.F ht⟩) hS.2.2 dX11_paste_93
                    · skip
                      have zz353 : ¬ rz347.toInt = (0 : Int) := fun h9 => cz351 (zi_eq.mpr h9)
                      refine lv_aload hx hb dX11_paste_79 (lv_at hl 0 rfl) ?_
                      refine lv_iload hx hb dX11_paste_81 (lv_at hl 6 rfl) ?_
                      refine lv_iload hx hb dX11_paste_83 (lv_at hl 7 rfl) ?_
                      have hPc := hP.sub (ws' := (List.flatten [(wSlot qL3 k vL3 sL3 lL3)])) [6, 7] rfl
                      refine vp_callSi (va_Run.run (va_runV (As := [.int p4, .int p5]) (rest := []) ⟨hx, hb, hml, hown, hts⟩ (c_X6_spans_x l dC dI k qL3 vL3 sL3 lL3 p4 p5 hsL3) (cwV 2 hts (gk_V (wl_mem 6 rfl) (wl_mem 7 rfl) (wl_mem 8 rfl) (wl_mem 9 rfl) (fun w h => List.mem_cons_of_mem _ (List.mem_append_right _ (List.mem_append_right _ (List.mem_append_right _ (List.mem_append_right _ (List.mem_append_left _ h)))))) wkg_c_X6_spans_x) rfl rfl rfl (by decide +kernel) ⟨Nat.le_of_ble_eq_true rfl, Nat.le_of_ble_eq_true rfl⟩) ⟨fun a U g mk q => by obtain ⟨q0, qP, qK⟩ := q; exact ⟨q0, qP, va_K.moved (u := U) (U := U.calling g mk a) (Vm.Alike.refl U.vm) qK⟩, va_recv hK hPc (ci := 6) (q0 := 0) rfl rfl, fun U hU hW => ⟨rfl, by rw [hU]; exact hPc, va_K.moved hW.alike hK⟩⟩ rfl rfl hl.1 rfl (lv_room (Nat.le_of_ble_eq_true rfl)) dX11_paste_85 ⟨Nat.le_of_ble_eq_true rfl, Nat.le_of_ble_eq_true rfl⟩)) (fun rz355 gz354 => ?_)
                      clear hPc
                      obtain ⟨pz356, pz357⟩ := gz354
                      have pz356 : (rz355.toInt = 0 ∧ (p4.toInt < 0 ∨ p5.toInt < 0 ∨ (sL3 0).toInt < p4.toInt + p5.toInt)) ∨ (rz355.toInt = 1 ∧ 0 ≤ p4.toInt ∧ 0 ≤ p5.toInt ∧ p4.toInt + p5.toInt ≤ (sL3 0).toInt) := pz356
                      have pz357 : rz355.toInt = 0 ∨ rz355.toInt = 1 := pz357
                      have bz358 := hsL3 0
                      refine lv_if_ne (tgt := 94) hx hb dX11_paste_88 (by decide) (fun cz359 => ?_) (fun cz359 => ?_)
                      · skip
                        have zz360 : ¬ rz355.toInt = (0 : Int) := fun h9 => cz359 (zi_eq.mpr h9)
                        refine lv_aload hx hb dX11_paste_94 (lv_at hl 1 rfl) ?_
                        refine va_get (D := (dC, dI)) (ci := 6) (v := .ref (qL2 1)) (C := RX6) (T := TX6) (N := 4) hx hb hts (fun w h => List.mem_cons_of_mem _ (List.mem_append_right _ (List.mem_append_right _ (List.mem_append_right _ (List.mem_append_left _ h))))) hown hK hP 4 rfl rfl 0 (by decide) (hts (.fieldLink RX11 388 "SagMemory$Slot" "numbers" "[J") (wl_mem 10 rfl)) (fun _ h9 => h9) rfl dX11_paste_96 ?_
                        refine lv_iload_n hx hb dX11_paste_99 rfl (lv_at hl 4 rfl) ?_
                        refine lv_aload hx hb dX11_paste_100 (lv_at hl 0 rfl) ?_
                        refine va_get (D := (dC, dI)) (ci := 6) (v := .ref (qL3 1)) (C := RX6) (T := TX6) (N := 4) hx hb hts (fun w h => List.mem_cons_of_mem _ (List.mem_append_right _ (List.mem_append_right _ (List.mem_append_right _ (List.mem_append_left _ h))))) hown hK hP 6 rfl rfl 0 (by decide) (hts (.fieldLink RX11 388 "SagMemory$Slot" "numbers" "[J") (wl_mem 10 rfl)) (fun _ h9 => h9) rfl dX11_paste_102 ?_
                        refine lv_iload hx hb dX11_paste_105 (lv_at hl 6 rfl) ?_
                        refine lv_iload hx hb dX11_paste_107 (lv_at hl 7 rfl) ?_
                        refine va_copyl (ty := .long) hx hb (by rw [hml]; exact hl.1.symm) hown (hts (.methodLink RX11 402 arraycopyName) (wl_mem 11 rfl)) (hts (.native arraycopyName) (wl_mem 12 rfl)) (hts (.static arraycopyName) (wl_mem 13 rfl)) (hts (.initialized "java/lang/System") (wl_mem 14 rfl)) hK hP hD hS 5 7 1 1 rfl rfl rfl rfl rfl (fun h9 => by have h8 := zi_lt.mp h9; have h8 : p2.toInt < (0 : Int) := h8; omega) (fun h9 => by have h8 := zi_lt.mp h9; have h8 : p4.toInt < (0 : Int) := h8; omega) (fun h9 => by have h8 := zi_lt.mp h9; have h8 : p5.toInt < (0 : Int) := h8; omega) (by have h8 := zc_nat p2 (by show 0 ≤ p2.toInt; omega); have h9 := zc_nat p5 (by show 0 ≤ p5.toInt; omega); have h8 : ((p2).toNatClampNeg : Int) = p2.toInt := h8; have h9 : ((p5).toNatClampNeg : Int) = p5.toInt := h9; omega) (by have h8 := zc_nat p4 (by show 0 ≤ p4.toInt; omega); have h9 := zc_nat p5 (by show 0 ≤ p5.toInt; omega); have h8 : ((p4).toNatClampNeg : Int) = p4.toInt := h8; have h9 : ((p5).toNatClampNeg : Int) = p5.toInt := h9; omega) (fun _ _ => rfl) (Nat.le_of_ble_eq_true rfl) (Nat.le_of_ble_eq_true rfl) dX11_paste_109 (fun H locs hP hD hS => ?_)
                        obtain ⟨fz361, efz361, hP, hD⟩ : ∃ fz361 : Nat → Int64, fz361 = va_cpy (lL2 0) (lL3 0) p2.toNatClampNeg p4.toNatClampNeg p5.toNatClampNeg ∧ va_P (dC, dI) vwCl (List.flatten [(wSlot qL0 k vL0 sL0 lL0), (wSlot qL1 k vL1 sL1 lL1), (wSlot qL2 k vL2 sL2 lL2), (wSlot qL3 k vL3 sL3 (va_up lL3 0 fz361))] ++ List.flatten [(wSag qX k tapeX toldX actsX nowX trialX storyX attemptX orderSearchX routeSearchX setSearchX probeX (qL0 0) (qL1 0) (qL2 0) (qL3 0) image0X image1X image2X aX)]) H ∧ va_D A (List.flatten [(wSlot qL0 k vL0 sL0 lL0), (wSlot qL1 k vL1 sL1 lL1), (wSlot qL2 k vL2 sL2 lL2), (wSlot qL3 k vL3 sL3 (va_up lL3 0 fz361))] ++ List.flatten [(wSag qX k tapeX toldX actsX nowX trialX storyX attemptX orderSearchX routeSearchX setSearchX probeX (qL0 0) (qL1 0) (qL2 0) (qL3 0) image0X image1X image2X aX)]) := ⟨_, rfl, hP, hD⟩
                        refine lv_iconst (v := 0) hx hb dX11_paste_112 (by decide) ?_
                        rw [hQ]
                        exact W.iret (v := (0 : Int32)) hx hb hr (fun t ht hW => ⟨⟨(0 : Int32), (), rfl, trivial, vL0, sL0, lL0, vL1, sL1, lL1, vL2, sL2, lL2, vL3, sL3, (va_up lL3 0 fz361), hsL0, hsL1, hsL2, hsL3, (show (vL0 0).toInt = (vL0 0).toInt ∧ (vL0 1).toInt = (vL0 1).toInt ∧ (sL0 0).toInt = (sL0 0).toInt from ⟨rfl, rfl, rfl⟩), (show (vL1 0).toInt = (vL1 0).toInt ∧ (vL1 1).toInt = (vL1 1).toInt ∧ (sL1 0).toInt = (sL1 0).toInt from ⟨rfl, rfl, rfl⟩), (show (vL2 0).toInt = (vL2 0).toInt ∧ (vL2 1).toInt = (vL2 1).toInt ∧ (sL2 0).toInt = (sL2 0).toInt from ⟨rfl, rfl, rfl⟩), (show (vL3 0).toInt = (vL3 0).toInt ∧ (vL3 1).toInt = (vL3 1).toInt ∧ (sL3 0).toInt = (sL3 0).toInt from ⟨rfl, rfl, rfl⟩), by rw [ht]; exact hP⟩, hS.F ht⟩) hS.2.2 dX11_paste_113
                      · skip
                        have zz362 : rz355.toInt = (0 : Int) := zi_eq.mp cz359
                        refine lv_bipush (v := (-7)) hx hb dX11_paste_91 (by decide) ?_
                        rw [hQ]
                        exact W.iret (v := (-7 : Int32)) hx hb hr (fun t ht hW => ⟨⟨(-7 : Int32), (), rfl, trivial, vL0, sL0, lL0, vL1, sL1, lL1, vL2, sL2, lL2, vL3, sL3, lL3, hsL0, hsL1, hsL2, hsL3, (show (vL0 0).toInt = (vL0 0).toInt ∧ (vL0 1).toInt = (vL0 1).toInt ∧ (sL0 0).toInt = (sL0 0).toInt from ⟨rfl, rfl, rfl⟩), (show (vL1 0).toInt = (vL1 0).toInt ∧ (vL1 1).toInt = (vL1 1).toInt ∧ (sL1 0).toInt = (sL1 0).toInt from ⟨rfl, rfl, rfl⟩), (show (vL2 0).toInt = (vL2 0).toInt ∧ (vL2 1).toInt = (vL2 1).toInt ∧ (sL2 0).toInt = (sL2 0).toInt from ⟨rfl, rfl, rfl⟩), (show (vL3 0).toInt = (vL3 0).toInt ∧ (vL3 1).toInt = (vL3 1).toInt ∧ (sL3 0).toInt = (sL3 0).toInt from ⟨rfl, rfl, rfl⟩), by rw [ht]; exact hP⟩, hS.F ht⟩) hS.2.2 dX11_paste_93
                  · skip
                    have zz363 : ¬ (vL2 1).toInt = (vL3 1).toInt := fun h9 => cz344 (zi_eq.mpr h9)
                    refine lv_bipush (v := (-8)) hx hb dX11_paste_65 (by decide) ?_
                    rw [hQ]
                    exact W.iret (v := (-8 : Int32)) hx hb hr (fun t ht hW => ⟨⟨(-8 : Int32), (), rfl, trivial, vL0, sL0, lL0, vL1, sL1, lL1, vL2, sL2, lL2, vL3, sL3, lL3, hsL0, hsL1, hsL2, hsL3, (show (vL0 0).toInt = (vL0 0).toInt ∧ (vL0 1).toInt = (vL0 1).toInt ∧ (sL0 0).toInt = (sL0 0).toInt from ⟨rfl, rfl, rfl⟩), (show (vL1 0).toInt = (vL1 0).toInt ∧ (vL1 1).toInt = (vL1 1).toInt ∧ (sL1 0).toInt = (sL1 0).toInt from ⟨rfl, rfl, rfl⟩), (show (vL2 0).toInt = (vL2 0).toInt ∧ (vL2 1).toInt = (vL2 1).toInt ∧ (sL2 0).toInt = (sL2 0).toInt from ⟨rfl, rfl, rfl⟩), (show (vL3 0).toInt = (vL3 0).toInt ∧ (vL3 1).toInt = (vL3 1).toInt ∧ (sL3 0).toInt = (sL3 0).toInt from ⟨rfl, rfl, rfl⟩), by rw [ht]; exact hP⟩, hS.F ht⟩) hS.2.2 dX11_paste_67
                · skip
                  have zz364 : (vL3 0).toInt = (0 : Int) := zi_eq.mp cz342
                  refine lv_bipush (v := (-6)) hx hb dX11_paste_49 (by decide) ?_
                  rw [hQ]
                  exact W.iret (v := (-6 : Int32)) hx hb hr (fun t ht hW => ⟨⟨(-6 : Int32), (), rfl, trivial, vL0, sL0, lL0, vL1, sL1, lL1, vL2, sL2, lL2, vL3, sL3, lL3, hsL0, hsL1, hsL2, hsL3, (show (vL0 0).toInt = (vL0 0).toInt ∧ (vL0 1).toInt = (vL0 1).toInt ∧ (sL0 0).toInt = (sL0 0).toInt from ⟨rfl, rfl, rfl⟩), (show (vL1 0).toInt = (vL1 0).toInt ∧ (vL1 1).toInt = (vL1 1).toInt ∧ (sL1 0).toInt = (sL1 0).toInt from ⟨rfl, rfl, rfl⟩), (show (vL2 0).toInt = (vL2 0).toInt ∧ (vL2 1).toInt = (vL2 1).toInt ∧ (sL2 0).toInt = (sL2 0).toInt from ⟨rfl, rfl, rfl⟩), (show (vL3 0).toInt = (vL3 0).toInt ∧ (vL3 1).toInt = (vL3 1).toInt ∧ (sL3 0).toInt = (sL3 0).toInt from ⟨rfl, rfl, rfl⟩), by rw [ht]; exact hP⟩, hS.F ht⟩) hS.2.2 dX11_paste_51
          · skip
            have zz365 : p1.toInt = (3 : Int) := zi_eq.mp cz37
            refine W.eq (g2 := F0 m 22 ls [.int 3, .ref (qX 3)]) (by rw [cz37]) ?_
            refine va_aldq hx hb hK hP 11 6 rfl rfl (by unfold vp_in; decide) dX11_paste_22 ?_
            refine W.eq (g2 := F0 m 23 ls [.ref (qL3 0)]) rfl ?_
            refine lv_astore (lv' := [(6, .ref (qL3 0)), (0, .ref (qX 0)), (1, .int p1), (2, .int p2), (3, .int p3), (4, .int p4), (5, .int p5)]) hx hb dX11_paste_23 hl (by decide) rfl (fun ls hl => ?_)
            refine lv_aload_n hx hb dX11_paste_25 rfl (lv_at hl 1 rfl) ?_
            refine va_get (D := (dC, dI)) (ci := 11) (v := .ref (qX 3)) (C := RX11) (T := TX11) (N := 15) hx hb hts (fun w h => List.mem_cons_of_mem _ (List.mem_append_right _ (List.mem_append_right _ (List.mem_append_left _ h)))) hown hK hP 8 rfl rfl 13 (by decide) (hts (.fieldLink RX11 85 "SagMemory" "slots" "[LSagMemory$Slot;") (wl_mem 3 rfl)) (fun _ h9 => h9) rfl dX11_paste_26 ?_
            refine lv_iload_n hx hb dX11_paste_29 rfl (lv_at hl 4 rfl) ?_
            rcases (show p3 = 0 ∨ p3 = 1 ∨ p3 = 2 ∨ p3 = 3 by simp only [zi_eq]; show p3.toInt = 0 ∨ p3.toInt = 1 ∨ p3.toInt = 2 ∨ p3.toInt = 3; omega) with cz366 | cz366 | cz366 | cz366
            · skip
              have zz367 : p3.toInt = (0 : Int) := zi_eq.mp cz366
              refine W.eq (g2 := F0 m 30 ls [.int 0, .ref (qX 3)]) (by rw [cz366]) ?_
              refine va_aldq hx hb hK hP 11 6 rfl rfl (by unfold vp_in; decide) dX11_paste_30 ?_
              refine W.eq (g2 := F0 m 31 ls [.ref (qL0 0)]) rfl ?_
              refine lv_astore (lv' := [(7, .ref (qL0 0)), (6, .ref (qL3 0)), (0, .ref (qX 0)), (1, .int p1), (2, .int p2), (3, .int p3), (4, .int p4), (5, .int p5)]) hx hb dX11_paste_31 hl (by decide) rfl (fun ls hl => ?_)
              refine lv_aload hx hb dX11_paste_33 (lv_at hl 1 rfl) ?_
              refine va_get (D := (dC, dI)) (ci := 6) (v := .int (vL3 0)) (C := RX6) (T := TX6) (N := 4) hx hb hts (fun w h => List.mem_cons_of_mem _ (List.mem_append_right _ (List.mem_append_right _ (List.mem_append_right _ (List.mem_append_left _ h))))) hown hK hP 6 rfl rfl 1 (by decide) (hts (.fieldLink RX11 386 "SagMemory$Slot" "has" "Z") (wl_mem 4 rfl)) (fun _ h9 => h9) rfl dX11_paste_35 ?_
              refine lv_if_eq (tgt := 49) hx hb dX11_paste_38 (by decide) (fun cz368 => ?_) (fun cz368 => ?_)
              · skip
                have zz369 : (vL3 0).toInt = (0 : Int) := zi_eq.mp cz368
                refine lv_bipush (v := (-6)) hx hb dX11_paste_49 (by decide) ?_
                rw [hQ]
                exact W.iret (v := (-6 : Int32)) hx hb hr (fun t ht hW => ⟨⟨(-6 : Int32), (), rfl, trivial, vL0, sL0, lL0, vL1, sL1, lL1, vL2, sL2, lL2, vL3, sL3, lL3, hsL0, hsL1, hsL2, hsL3, (show (vL0 0).toInt = (vL0 0).toInt ∧ (vL0 1).toInt = (vL0 1).toInt ∧ (sL0 0).toInt = (sL0 0).toInt from ⟨rfl, rfl, rfl⟩), (show (vL1 0).toInt = (vL1 0).toInt ∧ (vL1 1).toInt = (vL1 1).toInt ∧ (sL1 0).toInt = (sL1 0).toInt from ⟨rfl, rfl, rfl⟩), (show (vL2 0).toInt = (vL2 0).toInt ∧ (vL2 1).toInt = (vL2 1).toInt ∧ (sL2 0).toInt = (sL2 0).toInt from ⟨rfl, rfl, rfl⟩), (show (vL3 0).toInt = (vL3 0).toInt ∧ (vL3 1).toInt = (vL3 1).toInt ∧ (sL3 0).toInt = (sL3 0).toInt from ⟨rfl, rfl, rfl⟩), by rw [ht]; exact hP⟩, hS.F ht⟩) hS.2.2 dX11_paste_51
              · skip
                have zz370 : ¬ (vL3 0).toInt = (0 : Int) := fun h9 => cz368 (zi_eq.mpr h9)
                refine lv_aload hx hb dX11_paste_41 (lv_at hl 0 rfl) ?_
                refine va_get (D := (dC, dI)) (ci := 6) (v := .int (vL0 0)) (C := RX6) (T := TX6) (N := 4) hx hb hts (fun w h => List.mem_cons_of_mem _ (List.mem_append_right _ (List.mem_append_right _ (List.mem_append_right _ (List.mem_append_left _ h))))) hown hK hP 0 rfl rfl 1 (by decide) (hts (.fieldLink RX11 386 "SagMemory$Slot" "has" "Z") (wl_mem 4 rfl)) (fun _ h9 => h9) rfl dX11_paste_43 ?_
                refine lv_if_ne (tgt := 52) hx hb dX11_paste_46 (by decide) (fun cz371 => ?_) (fun cz371 => ?_)
                · skip
                  have zz372 : ¬ (vL0 0).toInt = (0 : Int) := fun h9 => cz371 (zi_eq.mpr h9)
                  refine lv_aload hx hb dX11_paste_52 (lv_at hl 1 rfl) ?_
                  refine va_get (D := (dC, dI)) (ci := 6) (v := .int (vL3 1)) (C := RX6) (T := TX6) (N := 4) hx hb hts (fun w h => List.mem_cons_of_mem _ (List.mem_append_right _ (List.mem_append_right _ (List.mem_append_right _ (List.mem_append_left _ h))))) hown hK hP 6 rfl rfl 2 (by decide) (hts (.fieldLink RX11 396 "SagMemory$Slot" "width" "I") (wl_mem 5 rfl)) (fun _ h9 => h9) rfl dX11_paste_54 ?_
                  refine lv_aload hx hb dX11_paste_57 (lv_at hl 0 rfl) ?_
                  refine va_get (D := (dC, dI)) (ci := 6) (v := .int (vL0 1)) (C := RX6) (T := TX6) (N := 4) hx hb hts (fun w h => List.mem_cons_of_mem _ (List.mem_append_right _ (List.mem_append_right _ (List.mem_append_right _ (List.mem_append_left _ h))))) hown hK hP 0 rfl rfl 2 (by decide) (hts (.fieldLink RX11 396 "SagMemory$Slot" "width" "I") (wl_mem 5 rfl)) (fun _ h9 => h9) rfl dX11_paste_59 ?_
                  refine lv_icmp_eq (tgt := 68) hx hb dX11_paste_62 (by decide) (fun cz373 => ?_) (fun cz373 => ?_)
                  · skip
                    have zz374 : (vL3 1).toInt = (vL0 1).toInt := zi_eq.mp cz373
                    refine lv_aload hx hb dX11_paste_68 (lv_at hl 1 rfl) ?_
                    refine lv_iload_n hx hb dX11_paste_70 rfl (lv_at hl 4 rfl) ?_
                    refine lv_iload hx hb dX11_paste_71 (lv_at hl 7 rfl) ?_
                    have hPc := hP.sub (ws' := (List.flatten [(wSlot qL3 k vL3 sL3 lL3)])) [6, 7] rfl
                    refine vp_callSi (va_Run.run (va_runV (As := [.int p2, .int p5]) (rest := []) ⟨hx, hb, hml, hown, hts⟩ (c_X6_spans_x l dC dI k qL3 vL3 sL3 lL3 p2 p5 hsL3) (cwV 2 hts (gk_V (wl_mem 6 rfl) (wl_mem 7 rfl) (wl_mem 8 rfl) (wl_mem 9 rfl) (fun w h => List.mem_cons_of_mem _ (List.mem_append_right _ (List.mem_append_right _ (List.mem_append_right _ (List.mem_append_right _ (List.mem_append_left _ h)))))) wkg_c_X6_spans_x) rfl rfl rfl (by decide +kernel) ⟨Nat.le_of_ble_eq_true rfl, Nat.le_of_ble_eq_true rfl⟩) ⟨fun a U g mk q => by obtain ⟨q0, qP, qK⟩ := q; exact ⟨q0, qP, va_K.moved (u := U) (U := U.calling g mk a) (Vm.Alike.refl U.vm) qK⟩, va_recv hK hPc (ci := 6) (q0 := 0) rfl rfl, fun U hU hW => ⟨rfl, by rw [hU]; exact hPc, va_K.moved hW.alike hK⟩⟩ rfl rfl hl.1 rfl (lv_room (Nat.le_of_ble_eq_true rfl)) dX11_paste_73 ⟨Nat.le_of_ble_eq_true rfl, Nat.le_of_ble_eq_true rfl⟩)) (fun rz376 gz375 => ?_)
                    clear hPc
                    obtain ⟨pz377, pz378⟩ := gz375
                    have pz377 : (rz376.toInt = 0 ∧ (p2.toInt < 0 ∨ p5.toInt < 0 ∨ (sL3 0).toInt < p2.toInt + p5.toInt)) ∨ (rz376.toInt = 1 ∧ 0 ≤ p2.toInt ∧ 0 ≤ p5.toInt ∧ p2.toInt + p5.toInt ≤ (sL3 0).toInt) := pz377
                    have pz378 : rz376.toInt = 0 ∨ rz376.toInt = 1 := pz378
                    have bz379 := hsL3 0
                    refine lv_if_eq (tgt := 91) hx hb dX11_paste_76 (by decide) (fun cz380 => ?_) (fun cz380 => ?_)
                    · skip
                      have zz381 : rz376.toInt = (0 : Int) := zi_eq.mp cz380
                      refine lv_bipush (v := (-7)) hx hb dX11_paste_91 (by decide) ?_
                      rw [hQ]
                      exact W.iret (v := (-7 : Int32)) hx hb hr (fun t ht hW => ⟨⟨(-7 : Int32), (), rfl, trivial, vL0, sL0, lL0, vL1, sL1, lL1, vL2, sL2, lL2, vL3, sL3, lL3, hsL0, hsL1, hsL2, hsL3, (show (vL0 0).toInt = (vL0 0).toInt ∧ (vL0 1).toInt = (vL0 1).toInt ∧ (sL0 0).toInt = (sL0 0).toInt from ⟨rfl, rfl, rfl⟩), (show (vL1 0).toInt = (vL1 0).toInt ∧ (vL1 1).toInt = (vL1 1).toInt ∧ (sL1 0).toInt = (sL1 0).toInt from ⟨rfl, rfl, rfl⟩), (show (vL2 0).toInt = (vL2 0).toInt ∧ (vL2 1).toInt = (vL2 1).toInt ∧ (sL2 0).toInt = (sL2 0).toInt from ⟨rfl, rfl, rfl⟩), (show (vL3 0).toInt = (vL3 0).toInt ∧ (vL3 1).toInt = (vL3 1).toInt ∧ (sL3 0).toInt = (sL3 0).toInt from ⟨rfl, rfl, rfl⟩), by rw [ht]; exact hP⟩, hS.F ht⟩) hS.2.2 dX11_paste_93
                    · skip
                      have zz382 : ¬ rz376.toInt = (0 : Int) := fun h9 => cz380 (zi_eq.mpr h9)
                      refine lv_aload hx hb dX11_paste_79 (lv_at hl 0 rfl) ?_
                      refine lv_iload hx hb dX11_paste_81 (lv_at hl 6 rfl) ?_
                      refine lv_iload hx hb dX11_paste_83 (lv_at hl 7 rfl) ?_
                      have hPc := hP.sub (ws' := (List.flatten [(wSlot qL0 k vL0 sL0 lL0)])) [0, 1] rfl
                      refine vp_callSi (va_Run.run (va_runV (As := [.int p4, .int p5]) (rest := []) ⟨hx, hb, hml, hown, hts⟩ (c_X6_spans_x l dC dI k qL0 vL0 sL0 lL0 p4 p5 hsL0) (cwV 2 hts (gk_V (wl_mem 6 rfl) (wl_mem 7 rfl) (wl_mem 8 rfl) (wl_mem 9 rfl) (fun w h => List.mem_cons_of_mem _ (List.mem_append_right _ (List.mem_append_right _ (List.mem_append_right _ (List.mem_append_right _ (List.mem_append_left _ h)))))) wkg_c_X6_spans_x) rfl rfl rfl (by decide +kernel) ⟨Nat.le_of_ble_eq_true rfl, Nat.le_of_ble_eq_true rfl⟩) ⟨fun a U g mk q => by obtain ⟨q0, qP, qK⟩ := q; exact ⟨q0, qP, va_K.moved (u := U) (U := U.calling g mk a) (Vm.Alike.refl U.vm) qK⟩, va_recv hK hPc (ci := 6) (q0 := 0) rfl rfl, fun U hU hW => ⟨rfl, by rw [hU]; exact hPc, va_K.moved hW.alike hK⟩⟩ rfl rfl hl.1 rfl (lv_room (Nat.le_of_ble_eq_true rfl)) dX11_paste_85 ⟨Nat.le_of_ble_eq_true rfl, Nat.le_of_ble_eq_true rfl⟩)) (fun rz384 gz383 => ?_)
                      clear hPc
                      obtain ⟨pz385, pz386⟩ := gz383
                      have pz385 : (rz384.toInt = 0 ∧ (p4.toInt < 0 ∨ p5.toInt < 0 ∨ (sL0 0).toInt < p4.toInt + p5.toInt)) ∨ (rz384.toInt = 1 ∧ 0 ≤ p4.toInt ∧ 0 ≤ p5.toInt ∧ p4.toInt + p5.toInt ≤ (sL0 0).toInt) := pz385
                      have pz386 : rz384.toInt = 0 ∨ rz384.toInt = 1 := pz386
                      have bz387 := hsL0 0
                      refine lv_if_ne (tgt := 94) hx hb dX11_paste_88 (by decide) (fun cz388 => ?_) (fun cz388 => ?_)
                      · skip
                        have zz389 : ¬ rz384.toInt = (0 : Int) := fun h9 => cz388 (zi_eq.mpr h9)
                        refine lv_aload hx hb dX11_paste_94 (lv_at hl 1 rfl) ?_
                        refine va_get (D := (dC, dI)) (ci := 6) (v := .ref (qL3 1)) (C := RX6) (T := TX6) (N := 4) hx hb hts (fun w h => List.mem_cons_of_mem _ (List.mem_append_right _ (List.mem_append_right _ (List.mem_append_right _ (List.mem_append_left _ h))))) hown hK hP 6 rfl rfl 0 (by decide) (hts (.fieldLink RX11 388 "SagMemory$Slot" "numbers" "[J") (wl_mem 10 rfl)) (fun _ h9 => h9) rfl dX11_paste_96 ?_
                        refine lv_iload_n hx hb dX11_paste_99 rfl (lv_at hl 4 rfl) ?_
                        refine lv_aload hx hb dX11_paste_100 (lv_at hl 0 rfl) ?_
                        refine va_get (D := (dC, dI)) (ci := 6) (v := .ref (qL0 1)) (C := RX6) (T := TX6) (N := 4) hx hb hts (fun w h => List.mem_cons_of_mem _ (List.mem_append_right _ (List.mem_append_right _ (List.mem_append_right _ (List.mem_append_left _ h))))) hown hK hP 0 rfl rfl 0 (by decide) (hts (.fieldLink RX11 388 "SagMemory$Slot" "numbers" "[J") (wl_mem 10 rfl)) (fun _ h9 => h9) rfl dX11_paste_102 ?_
                        refine lv_iload hx hb dX11_paste_105 (lv_at hl 6 rfl) ?_
                        refine lv_iload hx hb dX11_paste_107 (lv_at hl 7 rfl) ?_
                        refine va_copyl (ty := .long) hx hb (by rw [hml]; exact hl.1.symm) hown (hts (.methodLink RX11 402 arraycopyName) (wl_mem 11 rfl)) (hts (.native arraycopyName) (wl_mem 12 rfl)) (hts (.static arraycopyName) (wl_mem 13 rfl)) (hts (.initialized "java/lang/System") (wl_mem 14 rfl)) hK hP hD hS 7 1 1 1 rfl rfl rfl rfl rfl (fun h9 => by have h8 := zi_lt.mp h9; have h8 : p2.toInt < (0 : Int) := h8; omega) (fun h9 => by have h8 := zi_lt.mp h9; have h8 : p4.toInt < (0 : Int) := h8; omega) (fun h9 => by have h8 := zi_lt.mp h9; have h8 : p5.toInt < (0 : Int) := h8; omega) (by have h8 := zc_nat p2 (by show 0 ≤ p2.toInt; omega); have h9 := zc_nat p5 (by show 0 ≤ p5.toInt; omega); have h8 : ((p2).toNatClampNeg : Int) = p2.toInt := h8; have h9 : ((p5).toNatClampNeg : Int) = p5.toInt := h9; omega) (by have h8 := zc_nat p4 (by show 0 ≤ p4.toInt; omega); have h9 := zc_nat p5 (by show 0 ≤ p5.toInt; omega); have h8 : ((p4).toNatClampNeg : Int) = p4.toInt := h8; have h9 : ((p5).toNatClampNeg : Int) = p5.toInt := h9; omega) (fun _ _ => rfl) (Nat.le_of_ble_eq_true rfl) (Nat.le_of_ble_eq_true rfl) dX11_paste_109 (fun H locs hP hD hS => ?_)
                        obtain ⟨fz390, efz390, hP, hD⟩ : ∃ fz390 : Nat → Int64, fz390 = va_cpy (lL3 0) (lL0 0) p2.toNatClampNeg p4.toNatClampNeg p5.toNatClampNeg ∧ va_P (dC, dI) vwCl (List.flatten [(wSlot qL0 k vL0 sL0 (va_up lL0 0 fz390)), (wSlot qL1 k vL1 sL1 lL1), (wSlot qL2 k vL2 sL2 lL2), (wSlot qL3 k vL3 sL3 lL3)] ++ List.flatten [(wSag qX k tapeX toldX actsX nowX trialX storyX attemptX orderSearchX routeSearchX setSearchX probeX (qL0 0) (qL1 0) (qL2 0) (qL3 0) image0X image1X image2X aX)]) H ∧ va_D A (List.flatten [(wSlot qL0 k vL0 sL0 (va_up lL0 0 fz390)), (wSlot qL1 k vL1 sL1 lL1), (wSlot qL2 k vL2 sL2 lL2), (wSlot qL3 k vL3 sL3 lL3)] ++ List.flatten [(wSag qX k tapeX toldX actsX nowX trialX storyX attemptX orderSearchX routeSearchX setSearchX probeX (qL0 0) (qL1 0) (qL2 0) (qL3 0) image0X image1X image2X aX)]) := ⟨_, rfl, hP, hD⟩
                        refine lv_iconst (v := 0) hx hb dX11_paste_112 (by decide) ?_
                        rw [hQ]
                        exact W.iret (v := (0 : Int32)) hx hb hr (fun t ht hW => ⟨⟨(0 : Int32), (), rfl, trivial, vL0, sL0, (va_up lL0 0 fz390), vL1, sL1, lL1, vL2, sL2, lL2, vL3, sL3, lL3, hsL0, hsL1, hsL2, hsL3, (show (vL0 0).toInt = (vL0 0).toInt ∧ (vL0 1).toInt = (vL0 1).toInt ∧ (sL0 0).toInt = (sL0 0).toInt from ⟨rfl, rfl, rfl⟩), (show (vL1 0).toInt = (vL1 0).toInt ∧ (vL1 1).toInt = (vL1 1).toInt ∧ (sL1 0).toInt = (sL1 0).toInt from ⟨rfl, rfl, rfl⟩), (show (vL2 0).toInt = (vL2 0).toInt ∧ (vL2 1).toInt = (vL2 1).toInt ∧ (sL2 0).toInt = (sL2 0).toInt from ⟨rfl, rfl, rfl⟩), (show (vL3 0).toInt = (vL3 0).toInt ∧ (vL3 1).toInt = (vL3 1).toInt ∧ (sL3 0).toInt = (sL3 0).toInt from ⟨rfl, rfl, rfl⟩), by rw [ht]; exact hP⟩, hS.F ht⟩) hS.2.2 dX11_paste_113
                      · skip
                        have zz391 : rz384.toInt = (0 : Int) := zi_eq.mp cz388
                        refine lv_bipush (v := (-7)) hx hb dX11_paste_91 (by decide) ?_
                        rw [hQ]
                        exact W.iret (v := (-7 : Int32)) hx hb hr (fun t ht hW => ⟨⟨(-7 : Int32), (), rfl, trivial, vL0, sL0, lL0, vL1, sL1, lL1, vL2, sL2, lL2, vL3, sL3, lL3, hsL0, hsL1, hsL2, hsL3, (show (vL0 0).toInt = (vL0 0).toInt ∧ (vL0 1).toInt = (vL0 1).toInt ∧ (sL0 0).toInt = (sL0 0).toInt from ⟨rfl, rfl, rfl⟩), (show (vL1 0).toInt = (vL1 0).toInt ∧ (vL1 1).toInt = (vL1 1).toInt ∧ (sL1 0).toInt = (sL1 0).toInt from ⟨rfl, rfl, rfl⟩), (show (vL2 0).toInt = (vL2 0).toInt ∧ (vL2 1).toInt = (vL2 1).toInt ∧ (sL2 0).toInt = (sL2 0).toInt from ⟨rfl, rfl, rfl⟩), (show (vL3 0).toInt = (vL3 0).toInt ∧ (vL3 1).toInt = (vL3 1).toInt ∧ (sL3 0).toInt = (sL3 0).toInt from ⟨rfl, rfl, rfl⟩), by rw [ht]; exact hP⟩, hS.F ht⟩) hS.2.2 dX11_paste_93
                  · skip
                    have zz392 : ¬ (vL3 1).toInt = (vL0 1).toInt := fun h9 => cz373 (zi_eq.mpr h9)
                    refine lv_bipush (v := (-8)) hx hb dX11_paste_65 (by decide) ?_
                    rw [hQ]
                    exact W.iret (v := (-8 : Int32)) hx hb hr (fun t ht hW => ⟨⟨(-8 : Int32), (), rfl, trivial, vL0, sL0, lL0, vL1, sL1, lL1, vL2, sL2, lL2, vL3, sL3, lL3, hsL0, hsL1, hsL2, hsL3, (show (vL0 0).toInt = (vL0 0).toInt ∧ (vL0 1).toInt = (vL0 1).toInt ∧ (sL0 0).toInt = (sL0 0).toInt from ⟨rfl, rfl, rfl⟩), (show (vL1 0).toInt = (vL1 0).toInt ∧ (vL1 1).toInt = (vL1 1).toInt ∧ (sL1 0).toInt = (sL1 0).toInt from ⟨rfl, rfl, rfl⟩), (show (vL2 0).toInt = (vL2 0).toInt ∧ (vL2 1).toInt = (vL2 1).toInt ∧ (sL2 0).toInt = (sL2 0).toInt from ⟨rfl, rfl, rfl⟩), (show (vL3 0).toInt = (vL3 0).toInt ∧ (vL3 1).toInt = (vL3 1).toInt ∧ (sL3 0).toInt = (sL3 0).toInt from ⟨rfl, rfl, rfl⟩), by rw [ht]; exact hP⟩, hS.F ht⟩) hS.2.2 dX11_paste_67
                · skip
                  have zz393 : (vL0 0).toInt = (0 : Int) := zi_eq.mp cz371
                  refine lv_bipush (v := (-6)) hx hb dX11_paste_49 (by decide) ?_
                  rw [hQ]
                  exact W.iret (v := (-6 : Int32)) hx hb hr (fun t ht hW => ⟨⟨(-6 : Int32), (), rfl, trivial, vL0, sL0, lL0, vL1, sL1, lL1, vL2, sL2, lL2, vL3, sL3, lL3, hsL0, hsL1, hsL2, hsL3, (show (vL0 0).toInt = (vL0 0).toInt ∧ (vL0 1).toInt = (vL0 1).toInt ∧ (sL0 0).toInt = (sL0 0).toInt from ⟨rfl, rfl, rfl⟩), (show (vL1 0).toInt = (vL1 0).toInt ∧ (vL1 1).toInt = (vL1 1).toInt ∧ (sL1 0).toInt = (sL1 0).toInt from ⟨rfl, rfl, rfl⟩), (show (vL2 0).toInt = (vL2 0).toInt ∧ (vL2 1).toInt = (vL2 1).toInt ∧ (sL2 0).toInt = (sL2 0).toInt from ⟨rfl, rfl, rfl⟩), (show (vL3 0).toInt = (vL3 0).toInt ∧ (vL3 1).toInt = (vL3 1).toInt ∧ (sL3 0).toInt = (sL3 0).toInt from ⟨rfl, rfl, rfl⟩), by rw [ht]; exact hP⟩, hS.F ht⟩) hS.2.2 dX11_paste_51
            · skip
              have zz394 : p3.toInt = (1 : Int) := zi_eq.mp cz366
              refine W.eq (g2 := F0 m 30 ls [.int 1, .ref (qX 3)]) (by rw [cz366]) ?_
              refine va_aldq hx hb hK hP 11 6 rfl rfl (by unfold vp_in; decide) dX11_paste_30 ?_
              refine W.eq (g2 := F0 m 31 ls [.ref (qL1 0)]) rfl ?_
              refine lv_astore (lv' := [(7, .ref (qL1 0)), (6, .ref (qL3 0)), (0, .ref (qX 0)), (1, .int p1), (2, .int p2), (3, .int p3), (4, .int p4), (5, .int p5)]) hx hb dX11_paste_31 hl (by decide) rfl (fun ls hl => ?_)
              refine lv_aload hx hb dX11_paste_33 (lv_at hl 1 rfl) ?_
              refine va_get (D := (dC, dI)) (ci := 6) (v := .int (vL3 0)) (C := RX6) (T := TX6) (N := 4) hx hb hts (fun w h => List.mem_cons_of_mem _ (List.mem_append_right _ (List.mem_append_right _ (List.mem_append_right _ (List.mem_append_left _ h))))) hown hK hP 6 rfl rfl 1 (by decide) (hts (.fieldLink RX11 386 "SagMemory$Slot" "has" "Z") (wl_mem 4 rfl)) (fun _ h9 => h9) rfl dX11_paste_35 ?_
              refine lv_if_eq (tgt := 49) hx hb dX11_paste_38 (by decide) (fun cz395 => ?_) (fun cz395 => ?_)
              · skip
                have zz396 : (vL3 0).toInt = (0 : Int) := zi_eq.mp cz395
                refine lv_bipush (v := (-6)) hx hb dX11_paste_49 (by decide) ?_
                rw [hQ]
                exact W.iret (v := (-6 : Int32)) hx hb hr (fun t ht hW => ⟨⟨(-6 : Int32), (), rfl, trivial, vL0, sL0, lL0, vL1, sL1, lL1, vL2, sL2, lL2, vL3, sL3, lL3, hsL0, hsL1, hsL2, hsL3, (show (vL0 0).toInt = (vL0 0).toInt ∧ (vL0 1).toInt = (vL0 1).toInt ∧ (sL0 0).toInt = (sL0 0).toInt from ⟨rfl, rfl, rfl⟩), (show (vL1 0).toInt = (vL1 0).toInt ∧ (vL1 1).toInt = (vL1 1).toInt ∧ (sL1 0).toInt = (sL1 0).toInt from ⟨rfl, rfl, rfl⟩), (show (vL2 0).toInt = (vL2 0).toInt ∧ (vL2 1).toInt = (vL2 1).toInt ∧ (sL2 0).toInt = (sL2 0).toInt from ⟨rfl, rfl, rfl⟩), (show (vL3 0).toInt = (vL3 0).toInt ∧ (vL3 1).toInt = (vL3 1).toInt ∧ (sL3 0).toInt = (sL3 0).toInt from ⟨rfl, rfl, rfl⟩), by rw [ht]; exact hP⟩, hS.F ht⟩) hS.2.2 dX11_paste_51
              · skip
                have zz397 : ¬ (vL3 0).toInt = (0 : Int) := fun h9 => cz395 (zi_eq.mpr h9)
                refine lv_aload hx hb dX11_paste_41 (lv_at hl 0 rfl) ?_
                refine va_get (D := (dC, dI)) (ci := 6) (v := .int (vL1 0)) (C := RX6) (T := TX6) (N := 4) hx hb hts (fun w h => List.mem_cons_of_mem _ (List.mem_append_right _ (List.mem_append_right _ (List.mem_append_right _ (List.mem_append_left _ h))))) hown hK hP 2 rfl rfl 1 (by decide) (hts (.fieldLink RX11 386 "SagMemory$Slot" "has" "Z") (wl_mem 4 rfl)) (fun _ h9 => h9) rfl dX11_paste_43 ?_
                refine lv_if_ne (tgt := 52) hx hb dX11_paste_46 (by decide) (fun cz398 => ?_) (fun cz398 => ?_)
                · skip
                  have zz399 : ¬ (vL1 0).toInt = (0 : Int) := fun h9 => cz398 (zi_eq.mpr h9)
                  refine lv_aload hx hb dX11_paste_52 (lv_at hl 1 rfl) ?_
                  refine va_get (D := (dC, dI)) (ci := 6) (v := .int (vL3 1)) (C := RX6) (T := TX6) (N := 4) hx hb hts (fun w h => List.mem_cons_of_mem _ (List.mem_append_right _ (List.mem_append_right _ (List.mem_append_right _ (List.mem_append_left _ h))))) hown hK hP 6 rfl rfl 2 (by decide) (hts (.fieldLink RX11 396 "SagMemory$Slot" "width" "I") (wl_mem 5 rfl)) (fun _ h9 => h9) rfl dX11_paste_54 ?_
                  refine lv_aload hx hb dX11_paste_57 (lv_at hl 0 rfl) ?_
                  refine va_get (D := (dC, dI)) (ci := 6) (v := .int (vL1 1)) (C := RX6) (T := TX6) (N := 4) hx hb hts (fun w h => List.mem_cons_of_mem _ (List.mem_append_right _ (List.mem_append_right _ (List.mem_append_right _ (List.mem_append_left _ h))))) hown hK hP 2 rfl rfl 2 (by decide) (hts (.fieldLink RX11 396 "SagMemory$Slot" "width" "I") (wl_mem 5 rfl)) (fun _ h9 => h9) rfl dX11_paste_59 ?_
                  refine lv_icmp_eq (tgt := 68) hx hb dX11_paste_62 (by decide) (fun cz400 => ?_) (fun cz400 => ?_)
                  · skip
                    have zz401 : (vL3 1).toInt = (vL1 1).toInt := zi_eq.mp cz400
                    refine lv_aload hx hb dX11_paste_68 (lv_at hl 1 rfl) ?_
                    refine lv_iload_n hx hb dX11_paste_70 rfl (lv_at hl 4 rfl) ?_
                    refine lv_iload hx hb dX11_paste_71 (lv_at hl 7 rfl) ?_
                    have hPc := hP.sub (ws' := (List.flatten [(wSlot qL3 k vL3 sL3 lL3)])) [6, 7] rfl
                    refine vp_callSi (va_Run.run (va_runV (As := [.int p2, .int p5]) (rest := []) ⟨hx, hb, hml, hown, hts⟩ (c_X6_spans_x l dC dI k qL3 vL3 sL3 lL3 p2 p5 hsL3) (cwV 2 hts (gk_V (wl_mem 6 rfl) (wl_mem 7 rfl) (wl_mem 8 rfl) (wl_mem 9 rfl) (fun w h => List.mem_cons_of_mem _ (List.mem_append_right _ (List.mem_append_right _ (List.mem_append_right _ (List.mem_append_right _ (List.mem_append_left _ h)))))) wkg_c_X6_spans_x) rfl rfl rfl (by decide +kernel) ⟨Nat.le_of_ble_eq_true rfl, Nat.le_of_ble_eq_true rfl⟩) ⟨fun a U g mk q => by obtain ⟨q0, qP, qK⟩ := q; exact ⟨q0, qP, va_K.moved (u := U) (U := U.calling g mk a) (Vm.Alike.refl U.vm) qK⟩, va_recv hK hPc (ci := 6) (q0 := 0) rfl rfl, fun U hU hW => ⟨rfl, by rw [hU]; exact hPc, va_K.moved hW.alike hK⟩⟩ rfl rfl hl.1 rfl (lv_room (Nat.le_of_ble_eq_true rfl)) dX11_paste_73 ⟨Nat.le_of_ble_eq_true rfl, Nat.le_of_ble_eq_true rfl⟩)) (fun rz403 gz402 => ?_)
                    clear hPc
                    obtain ⟨pz404, pz405⟩ := gz402
                    have pz404 : (rz403.toInt = 0 ∧ (p2.toInt < 0 ∨ p5.toInt < 0 ∨ (sL3 0).toInt < p2.toInt + p5.toInt)) ∨ (rz403.toInt = 1 ∧ 0 ≤ p2.toInt ∧ 0 ≤ p5.toInt ∧ p2.toInt + p5.toInt ≤ (sL3 0).toInt) := pz404
                    have pz405 : rz403.toInt = 0 ∨ rz403.toInt = 1 := pz405
                    have bz406 := hsL3 0
                    refine lv_if_eq (tgt := 91) hx hb dX11_paste_76 (by decide) (fun cz407 => ?_) (fun cz407 => ?_)
                    · skip
                      have zz408 : rz403.toInt = (0 : Int) := zi_eq.mp cz407
                      refine lv_bipush (v := (-7)) hx hb dX11_paste_91 (by decide) ?_
                      rw [hQ]
                      exact W.iret (v := (-7 : Int32)) hx hb hr (fun t ht hW => ⟨⟨(-7 : Int32), (), rfl, trivial, vL0, sL0, lL0, vL1, sL1, lL1, vL2, sL2, lL2, vL3, sL3, lL3, hsL0, hsL1, hsL2, hsL3, (show (vL0 0).toInt = (vL0 0).toInt ∧ (vL0 1).toInt = (vL0 1).toInt ∧ (sL0 0).toInt = (sL0 0).toInt from ⟨rfl, rfl, rfl⟩), (show (vL1 0).toInt = (vL1 0).toInt ∧ (vL1 1).toInt = (vL1 1).toInt ∧ (sL1 0).toInt = (sL1 0).toInt from ⟨rfl, rfl, rfl⟩), (show (vL2 0).toInt = (vL2 0).toInt ∧ (vL2 1).toInt = (vL2 1).toInt ∧ (sL2 0).toInt = (sL2 0).toInt from ⟨rfl, rfl, rfl⟩), (show (vL3 0).toInt = (vL3 0).toInt ∧ (vL3 1).toInt = (vL3 1).toInt ∧ (sL3 0).toInt = (sL3 0).toInt from ⟨rfl, rfl, rfl⟩), by rw [ht]; exact hP⟩, hS.F ht⟩) hS.2.2 dX11_paste_93
                    · skip
                      have zz409 : ¬ rz403.toInt = (0 : Int) := fun h9 => cz407 (zi_eq.mpr h9)
                      refine lv_aload hx hb dX11_paste_79 (lv_at hl 0 rfl) ?_
                      refine lv_iload hx hb dX11_paste_81 (lv_at hl 6 rfl) ?_
                      refine lv_iload hx hb dX11_paste_83 (lv_at hl 7 rfl) ?_
                      have hPc := hP.sub (ws' := (List.flatten [(wSlot qL1 k vL1 sL1 lL1)])) [2, 3] rfl
                      refine vp_callSi (va_Run.run (va_runV (As := [.int p4, .int p5]) (rest := []) ⟨hx, hb, hml, hown, hts⟩ (c_X6_spans_x l dC dI k qL1 vL1 sL1 lL1 p4 p5 hsL1) (cwV 2 hts (gk_V (wl_mem 6 rfl) (wl_mem 7 rfl) (wl_mem 8 rfl) (wl_mem 9 rfl) (fun w h => List.mem_cons_of_mem _ (List.mem_append_right _ (List.mem_append_right _ (List.mem_append_right _ (List.mem_append_right _ (List.mem_append_left _ h)))))) wkg_c_X6_spans_x) rfl rfl rfl (by decide +kernel) ⟨Nat.le_of_ble_eq_true rfl, Nat.le_of_ble_eq_true rfl⟩) ⟨fun a U g mk q => by obtain ⟨q0, qP, qK⟩ := q; exact ⟨q0, qP, va_K.moved (u := U) (U := U.calling g mk a) (Vm.Alike.refl U.vm) qK⟩, va_recv hK hPc (ci := 6) (q0 := 0) rfl rfl, fun U hU hW => ⟨rfl, by rw [hU]; exact hPc, va_K.moved hW.alike hK⟩⟩ rfl rfl hl.1 rfl (lv_room (Nat.le_of_ble_eq_true rfl)) dX11_paste_85 ⟨Nat.le_of_ble_eq_true rfl, Nat.le_of_ble_eq_true rfl⟩)) (fun rz411 gz410 => ?_)
                      clear hPc
                      obtain ⟨pz412, pz413⟩ := gz410
                      have pz412 : (rz411.toInt = 0 ∧ (p4.toInt < 0 ∨ p5.toInt < 0 ∨ (sL1 0).toInt < p4.toInt + p5.toInt)) ∨ (rz411.toInt = 1 ∧ 0 ≤ p4.toInt ∧ 0 ≤ p5.toInt ∧ p4.toInt + p5.toInt ≤ (sL1 0).toInt) := pz412
                      have pz413 : rz411.toInt = 0 ∨ rz411.toInt = 1 := pz413
                      have bz414 := hsL1 0
                      refine lv_if_ne (tgt := 94) hx hb dX11_paste_88 (by decide) (fun cz415 => ?_) (fun cz415 => ?_)
                      · skip
                        have zz416 : ¬ rz411.toInt = (0 : Int) := fun h9 => cz415 (zi_eq.mpr h9)
                        refine lv_aload hx hb dX11_paste_94 (lv_at hl 1 rfl) ?_
                        refine va_get (D := (dC, dI)) (ci := 6) (v := .ref (qL3 1)) (C := RX6) (T := TX6) (N := 4) hx hb hts (fun w h => List.mem_cons_of_mem _ (List.mem_append_right _ (List.mem_append_right _ (List.mem_append_right _ (List.mem_append_left _ h))))) hown hK hP 6 rfl rfl 0 (by decide) (hts (.fieldLink RX11 388 "SagMemory$Slot" "numbers" "[J") (wl_mem 10 rfl)) (fun _ h9 => h9) rfl dX11_paste_96 ?_
                        refine lv_iload_n hx hb dX11_paste_99 rfl (lv_at hl 4 rfl) ?_
                        refine lv_aload hx hb dX11_paste_100 (lv_at hl 0 rfl) ?_
                        refine va_get (D := (dC, dI)) (ci := 6) (v := .ref (qL1 1)) (C := RX6) (T := TX6) (N := 4) hx hb hts (fun w h => List.mem_cons_of_mem _ (List.mem_append_right _ (List.mem_append_right _ (List.mem_append_right _ (List.mem_append_left _ h))))) hown hK hP 2 rfl rfl 0 (by decide) (hts (.fieldLink RX11 388 "SagMemory$Slot" "numbers" "[J") (wl_mem 10 rfl)) (fun _ h9 => h9) rfl dX11_paste_102 ?_
                        refine lv_iload hx hb dX11_paste_105 (lv_at hl 6 rfl) ?_
                        refine lv_iload hx hb dX11_paste_107 (lv_at hl 7 rfl) ?_
                        refine va_copyl (ty := .long) hx hb (by rw [hml]; exact hl.1.symm) hown (hts (.methodLink RX11 402 arraycopyName) (wl_mem 11 rfl)) (hts (.native arraycopyName) (wl_mem 12 rfl)) (hts (.static arraycopyName) (wl_mem 13 rfl)) (hts (.initialized "java/lang/System") (wl_mem 14 rfl)) hK hP hD hS 7 3 1 1 rfl rfl rfl rfl rfl (fun h9 => by have h8 := zi_lt.mp h9; have h8 : p2.toInt < (0 : Int) := h8; omega) (fun h9 => by have h8 := zi_lt.mp h9; have h8 : p4.toInt < (0 : Int) := h8; omega) (fun h9 => by have h8 := zi_lt.mp h9; have h8 : p5.toInt < (0 : Int) := h8; omega) (by have h8 := zc_nat p2 (by show 0 ≤ p2.toInt; omega); have h9 := zc_nat p5 (by show 0 ≤ p5.toInt; omega); have h8 : ((p2).toNatClampNeg : Int) = p2.toInt := h8; have h9 : ((p5).toNatClampNeg : Int) = p5.toInt := h9; omega) (by have h8 := zc_nat p4 (by show 0 ≤ p4.toInt; omega); have h9 := zc_nat p5 (by show 0 ≤ p5.toInt; omega); have h8 : ((p4).toNatClampNeg : Int) = p4.toInt := h8; have h9 : ((p5).toNatClampNeg : Int) = p5.toInt := h9; omega) (fun _ _ => rfl) (Nat.le_of_ble_eq_true rfl) (Nat.le_of_ble_eq_true rfl) dX11_paste_109 (fun H locs hP hD hS => ?_)
                        obtain ⟨fz417, efz417, hP, hD⟩ : ∃ fz417 : Nat → Int64, fz417 = va_cpy (lL3 0) (lL1 0) p2.toNatClampNeg p4.toNatClampNeg p5.toNatClampNeg ∧ va_P (dC, dI) vwCl (List.flatten [(wSlot qL0 k vL0 sL0 lL0), (wSlot qL1 k vL1 sL1 (va_up lL1 0 fz417)), (wSlot qL2 k vL2 sL2 lL2), (wSlot qL3 k vL3 sL3 lL3)] ++ List.flatten [(wSag qX k tapeX toldX actsX nowX trialX storyX attemptX orderSearchX routeSearchX setSearchX probeX (qL0 0) (qL1 0) (qL2 0) (qL3 0) image0X image1X image2X aX)]) H ∧ va_D A (List.flatten [(wSlot qL0 k vL0 sL0 lL0), (wSlot qL1 k vL1 sL1 (va_up lL1 0 fz417)), (wSlot qL2 k vL2 sL2 lL2), (wSlot qL3 k vL3 sL3 lL3)] ++ List.flatten [(wSag qX k tapeX toldX actsX nowX trialX storyX attemptX orderSearchX routeSearchX setSearchX probeX (qL0 0) (qL1 0) (qL2 0) (qL3 0) image0X image1X image2X aX)]) := ⟨_, rfl, hP, hD⟩
                        refine lv_iconst (v := 0) hx hb dX11_paste_112 (by decide) ?_
                        rw [hQ]
                        exact W.iret (v := (0 : Int32)) hx hb hr (fun t ht hW => ⟨⟨(0 : Int32), (), rfl, trivial, vL0, sL0, lL0, vL1, sL1, (va_up lL1 0 fz417), vL2, sL2, lL2, vL3, sL3, lL3, hsL0, hsL1, hsL2, hsL3, (show (vL0 0).toInt = (vL0 0).toInt ∧ (vL0 1).toInt = (vL0 1).toInt ∧ (sL0 0).toInt = (sL0 0).toInt from ⟨rfl, rfl, rfl⟩), (show (vL1 0).toInt = (vL1 0).toInt ∧ (vL1 1).toInt = (vL1 1).toInt ∧ (sL1 0).toInt = (sL1 0).toInt from ⟨rfl, rfl, rfl⟩), (show (vL2 0).toInt = (vL2 0).toInt ∧ (vL2 1).toInt = (vL2 1).toInt ∧ (sL2 0).toInt = (sL2 0).toInt from ⟨rfl, rfl, rfl⟩), (show (vL3 0).toInt = (vL3 0).toInt ∧ (vL3 1).toInt = (vL3 1).toInt ∧ (sL3 0).toInt = (sL3 0).toInt from ⟨rfl, rfl, rfl⟩), by rw [ht]; exact hP⟩, hS.F ht⟩) hS.2.2 dX11_paste_113
                      · skip
                        have zz418 : rz411.toInt = (0 : Int) := zi_eq.mp cz415
                        refine lv_bipush (v := (-7)) hx hb dX11_paste_91 (by decide) ?_
                        rw [hQ]
                        exact W.iret (v := (-7 : Int32)) hx hb hr (fun t ht hW => ⟨⟨(-7 : Int32), (), rfl, trivial, vL0, sL0, lL0, vL1, sL1, lL1, vL2, sL2, lL2, vL3, sL3, lL3, hsL0, hsL1, hsL2, hsL3, (show (vL0 0).toInt = (vL0 0).toInt ∧ (vL0 1).toInt = (vL0 1).toInt ∧ (sL0 0).toInt = (sL0 0).toInt from ⟨rfl, rfl, rfl⟩), (show (vL1 0).toInt = (vL1 0).toInt ∧ (vL1 1).toInt = (vL1 1).toInt ∧ (sL1 0).toInt = (sL1 0).toInt from ⟨rfl, rfl, rfl⟩), (show (vL2 0).toInt = (vL2 0).toInt ∧ (vL2 1).toInt = (vL2 1).toInt ∧ (sL2 0).toInt = (sL2 0).toInt from ⟨rfl, rfl, rfl⟩), (show (vL3 0).toInt = (vL3 0).toInt ∧ (vL3 1).toInt = (vL3 1).toInt ∧ (sL3 0).toInt = (sL3 0).toInt from ⟨rfl, rfl, rfl⟩), by rw [ht]; exact hP⟩, hS.F ht⟩) hS.2.2 dX11_paste_93
                  · skip
                    have zz419 : ¬ (vL3 1).toInt = (vL1 1).toInt := fun h9 => cz400 (zi_eq.mpr h9)
                    refine lv_bipush (v := (-8)) hx hb dX11_paste_65 (by decide) ?_
                    rw [hQ]
                    exact W.iret (v := (-8 : Int32)) hx hb hr (fun t ht hW => ⟨⟨(-8 : Int32), (), rfl, trivial, vL0, sL0, lL0, vL1, sL1, lL1, vL2, sL2, lL2, vL3, sL3, lL3, hsL0, hsL1, hsL2, hsL3, (show (vL0 0).toInt = (vL0 0).toInt ∧ (vL0 1).toInt = (vL0 1).toInt ∧ (sL0 0).toInt = (sL0 0).toInt from ⟨rfl, rfl, rfl⟩), (show (vL1 0).toInt = (vL1 0).toInt ∧ (vL1 1).toInt = (vL1 1).toInt ∧ (sL1 0).toInt = (sL1 0).toInt from ⟨rfl, rfl, rfl⟩), (show (vL2 0).toInt = (vL2 0).toInt ∧ (vL2 1).toInt = (vL2 1).toInt ∧ (sL2 0).toInt = (sL2 0).toInt from ⟨rfl, rfl, rfl⟩), (show (vL3 0).toInt = (vL3 0).toInt ∧ (vL3 1).toInt = (vL3 1).toInt ∧ (sL3 0).toInt = (sL3 0).toInt from ⟨rfl, rfl, rfl⟩), by rw [ht]; exact hP⟩, hS.F ht⟩) hS.2.2 dX11_paste_67
                · skip
                  have zz420 : (vL1 0).toInt = (0 : Int) := zi_eq.mp cz398
                  refine lv_bipush (v := (-6)) hx hb dX11_paste_49 (by decide) ?_
                  rw [hQ]
                  exact W.iret (v := (-6 : Int32)) hx hb hr (fun t ht hW => ⟨⟨(-6 : Int32), (), rfl, trivial, vL0, sL0, lL0, vL1, sL1, lL1, vL2, sL2, lL2, vL3, sL3, lL3, hsL0, hsL1, hsL2, hsL3, (show (vL0 0).toInt = (vL0 0).toInt ∧ (vL0 1).toInt = (vL0 1).toInt ∧ (sL0 0).toInt = (sL0 0).toInt from ⟨rfl, rfl, rfl⟩), (show (vL1 0).toInt = (vL1 0).toInt ∧ (vL1 1).toInt = (vL1 1).toInt ∧ (sL1 0).toInt = (sL1 0).toInt from ⟨rfl, rfl, rfl⟩), (show (vL2 0).toInt = (vL2 0).toInt ∧ (vL2 1).toInt = (vL2 1).toInt ∧ (sL2 0).toInt = (sL2 0).toInt from ⟨rfl, rfl, rfl⟩), (show (vL3 0).toInt = (vL3 0).toInt ∧ (vL3 1).toInt = (vL3 1).toInt ∧ (sL3 0).toInt = (sL3 0).toInt from ⟨rfl, rfl, rfl⟩), by rw [ht]; exact hP⟩, hS.F ht⟩) hS.2.2 dX11_paste_51
            · skip
              have zz421 : p3.toInt = (2 : Int) := zi_eq.mp cz366
              refine W.eq (g2 := F0 m 30 ls [.int 2, .ref (qX 3)]) (by rw [cz366]) ?_
              refine va_aldq hx hb hK hP 11 6 rfl rfl (by unfold vp_in; decide) dX11_paste_30 ?_
              refine W.eq (g2 := F0 m 31 ls [.ref (qL2 0)]) rfl ?_
              refine lv_astore (lv' := [(7, .ref (qL2 0)), (6, .ref (qL3 0)), (0, .ref (qX 0)), (1, .int p1), (2, .int p2), (3, .int p3), (4, .int p4), (5, .int p5)]) hx hb dX11_paste_31 hl (by decide) rfl (fun ls hl => ?_)
              refine lv_aload hx hb dX11_paste_33 (lv_at hl 1 rfl) ?_
              refine va_get (D := (dC, dI)) (ci := 6) (v := .int (vL3 0)) (C := RX6) (T := TX6) (N := 4) hx hb hts (fun w h => List.mem_cons_of_mem _ (List.mem_append_right _ (List.mem_append_right _ (List.mem_append_right _ (List.mem_append_left _ h))))) hown hK hP 6 rfl rfl 1 (by decide) (hts (.fieldLink RX11 386 "SagMemory$Slot" "has" "Z") (wl_mem 4 rfl)) (fun _ h9 => h9) rfl dX11_paste_35 ?_
              refine lv_if_eq (tgt := 49) hx hb dX11_paste_38 (by decide) (fun cz422 => ?_) (fun cz422 => ?_)
              · skip
                have zz423 : (vL3 0).toInt = (0 : Int) := zi_eq.mp cz422
                refine lv_bipush (v := (-6)) hx hb dX11_paste_49 (by decide) ?_
                rw [hQ]
                exact W.iret (v := (-6 : Int32)) hx hb hr (fun t ht hW => ⟨⟨(-6 : Int32), (), rfl, trivial, vL0, sL0, lL0, vL1, sL1, lL1, vL2, sL2, lL2, vL3, sL3, lL3, hsL0, hsL1, hsL2, hsL3, (show (vL0 0).toInt = (vL0 0).toInt ∧ (vL0 1).toInt = (vL0 1).toInt ∧ (sL0 0).toInt = (sL0 0).toInt from ⟨rfl, rfl, rfl⟩), (show (vL1 0).toInt = (vL1 0).toInt ∧ (vL1 1).toInt = (vL1 1).toInt ∧ (sL1 0).toInt = (sL1 0).toInt from ⟨rfl, rfl, rfl⟩), (show (vL2 0).toInt = (vL2 0).toInt ∧ (vL2 1).toInt = (vL2 1).toInt ∧ (sL2 0).toInt = (sL2 0).toInt from ⟨rfl, rfl, rfl⟩), (show (vL3 0).toInt = (vL3 0).toInt ∧ (vL3 1).toInt = (vL3 1).toInt ∧ (sL3 0).toInt = (sL3 0).toInt from ⟨rfl, rfl, rfl⟩), by rw [ht]; exact hP⟩, hS.F ht⟩) hS.2.2 dX11_paste_51
              · skip
                have zz424 : ¬ (vL3 0).toInt = (0 : Int) := fun h9 => cz422 (zi_eq.mpr h9)
                refine lv_aload hx hb dX11_paste_41 (lv_at hl 0 rfl) ?_
                refine va_get (D := (dC, dI)) (ci := 6) (v := .int (vL2 0)) (C := RX6) (T := TX6) (N := 4) hx hb hts (fun w h => List.mem_cons_of_mem _ (List.mem_append_right _ (List.mem_append_right _ (List.mem_append_right _ (List.mem_append_left _ h))))) hown hK hP 4 rfl rfl 1 (by decide) (hts (.fieldLink RX11 386 "SagMemory$Slot" "has" "Z") (wl_mem 4 rfl)) (fun _ h9 => h9) rfl dX11_paste_43 ?_
                refine lv_if_ne (tgt := 52) hx hb dX11_paste_46 (by decide) (fun cz425 => ?_) (fun cz425 => ?_)
                · skip
                  have zz426 : ¬ (vL2 0).toInt = (0 : Int) := fun h9 => cz425 (zi_eq.mpr h9)
                  refine lv_aload hx hb dX11_paste_52 (lv_at hl 1 rfl) ?_
                  refine va_get (D := (dC, dI)) (ci := 6) (v := .int (vL3 1)) (C := RX6) (T := TX6) (N := 4) hx hb hts (fun w h => List.mem_cons_of_mem _ (List.mem_append_right _ (List.mem_append_right _ (List.mem_append_right _ (List.mem_append_left _ h))))) hown hK hP 6 rfl rfl 2 (by decide) (hts (.fieldLink RX11 396 "SagMemory$Slot" "width" "I") (wl_mem 5 rfl)) (fun _ h9 => h9) rfl dX11_paste_54 ?_
                  refine lv_aload hx hb dX11_paste_57 (lv_at hl 0 rfl) ?_
                  refine va_get (D := (dC, dI)) (ci := 6) (v := .int (vL2 1)) (C := RX6) (T := TX6) (N := 4) hx hb hts (fun w h => List.mem_cons_of_mem _ (List.mem_append_right _ (List.mem_append_right _ (List.mem_append_right _ (List.mem_append_left _ h))))) hown hK hP 4 rfl rfl 2 (by decide) (hts (.fieldLink RX11 396 "SagMemory$Slot" "width" "I") (wl_mem 5 rfl)) (fun _ h9 => h9) rfl dX11_paste_59 ?_
                  refine lv_icmp_eq (tgt := 68) hx hb dX11_paste_62 (by decide) (fun cz427 => ?_) (fun cz427 => ?_)
                  · skip
                    have zz428 : (vL3 1).toInt = (vL2 1).toInt := zi_eq.mp cz427
                    refine lv_aload hx hb dX11_paste_68 (lv_at hl 1 rfl) ?_
                    refine lv_iload_n hx hb dX11_paste_70 rfl (lv_at hl 4 rfl) ?_
                    refine lv_iload hx hb dX11_paste_71 (lv_at hl 7 rfl) ?_
                    have hPc := hP.sub (ws' := (List.flatten [(wSlot qL3 k vL3 sL3 lL3)])) [6, 7] rfl
                    refine vp_callSi (va_Run.run (va_runV (As := [.int p2, .int p5]) (rest := []) ⟨hx, hb, hml, hown, hts⟩ (c_X6_spans_x l dC dI k qL3 vL3 sL3 lL3 p2 p5 hsL3) (cwV 2 hts (gk_V (wl_mem 6 rfl) (wl_mem 7 rfl) (wl_mem 8 rfl) (wl_mem 9 rfl) (fun w h => List.mem_cons_of_mem _ (List.mem_append_right _ (List.mem_append_right _ (List.mem_append_right _ (List.mem_append_right _ (List.mem_append_left _ h)))))) wkg_c_X6_spans_x) rfl rfl rfl (by decide +kernel) ⟨Nat.le_of_ble_eq_true rfl, Nat.le_of_ble_eq_true rfl⟩) ⟨fun a U g mk q => by obtain ⟨q0, qP, qK⟩ := q; exact ⟨q0, qP, va_K.moved (u := U) (U := U.calling g mk a) (Vm.Alike.refl U.vm) qK⟩, va_recv hK hPc (ci := 6) (q0 := 0) rfl rfl, fun U hU hW => ⟨rfl, by rw [hU]; exact hPc, va_K.moved hW.alike hK⟩⟩ rfl rfl hl.1 rfl (lv_room (Nat.le_of_ble_eq_true rfl)) dX11_paste_73 ⟨Nat.le_of_ble_eq_true rfl, Nat.le_of_ble_eq_true rfl⟩)) (fun rz430 gz429 => ?_)
                    clear hPc
                    obtain ⟨pz431, pz432⟩ := gz429
                    have pz431 : (rz430.toInt = 0 ∧ (p2.toInt < 0 ∨ p5.toInt < 0 ∨ (sL3 0).toInt < p2.toInt + p5.toInt)) ∨ (rz430.toInt = 1 ∧ 0 ≤ p2.toInt ∧ 0 ≤ p5.toInt ∧ p2.toInt + p5.toInt ≤ (sL3 0).toInt) := pz431
                    have pz432 : rz430.toInt = 0 ∨ rz430.toInt = 1 := pz432
                    have bz433 := hsL3 0
                    refine lv_if_eq (tgt := 91) hx hb dX11_paste_76 (by decide) (fun cz434 => ?_) (fun cz434 => ?_)
                    · skip
                      have zz435 : rz430.toInt = (0 : Int) := zi_eq.mp cz434
                      refine lv_bipush (v := (-7)) hx hb dX11_paste_91 (by decide) ?_
                      rw [hQ]
                      exact W.iret (v := (-7 : Int32)) hx hb hr (fun t ht hW => ⟨⟨(-7 : Int32), (), rfl, trivial, vL0, sL0, lL0, vL1, sL1, lL1, vL2, sL2, lL2, vL3, sL3, lL3, hsL0, hsL1, hsL2, hsL3, (show (vL0 0).toInt = (vL0 0).toInt ∧ (vL0 1).toInt = (vL0 1).toInt ∧ (sL0 0).toInt = (sL0 0).toInt from ⟨rfl, rfl, rfl⟩), (show (vL1 0).toInt = (vL1 0).toInt ∧ (vL1 1).toInt = (vL1 1).toInt ∧ (sL1 0).toInt = (sL1 0).toInt from ⟨rfl, rfl, rfl⟩), (show (vL2 0).toInt = (vL2 0).toInt ∧ (vL2 1).toInt = (vL2 1).toInt ∧ (sL2 0).toInt = (sL2 0).toInt from ⟨rfl, rfl, rfl⟩), (show (vL3 0).toInt = (vL3 0).toInt ∧ (vL3 1).toInt = (vL3 1).toInt ∧ (sL3 0).toInt = (sL3 0).toInt from ⟨rfl, rfl, rfl⟩), by rw [ht]; exact hP⟩, hS.F ht⟩) hS.2.2 dX11_paste_93
                    · skip
                      have zz436 : ¬ rz430.toInt = (0 : Int) := fun h9 => cz434 (zi_eq.mpr h9)
                      refine lv_aload hx hb dX11_paste_79 (lv_at hl 0 rfl) ?_
                      refine lv_iload hx hb dX11_paste_81 (lv_at hl 6 rfl) ?_
                      refine lv_iload hx hb dX11_paste_83 (lv_at hl 7 rfl) ?_
                      have hPc := hP.sub (ws' := (List.flatten [(wSlot qL2 k vL2 sL2 lL2)])) [4, 5] rfl
                      refine vp_callSi (va_Run.run (va_runV (As := [.int p4, .int p5]) (rest := []) ⟨hx, hb, hml, hown, hts⟩ (c_X6_spans_x l dC dI k qL2 vL2 sL2 lL2 p4 p5 hsL2) (cwV 2 hts (gk_V (wl_mem 6 rfl) (wl_mem 7 rfl) (wl_mem 8 rfl) (wl_mem 9 rfl) (fun w h => List.mem_cons_of_mem _ (List.mem_append_right _ (List.mem_append_right _ (List.mem_append_right _ (List.mem_append_right _ (List.mem_append_left _ h)))))) wkg_c_X6_spans_x) rfl rfl rfl (by decide +kernel) ⟨Nat.le_of_ble_eq_true rfl, Nat.le_of_ble_eq_true rfl⟩) ⟨fun a U g mk q => by obtain ⟨q0, qP, qK⟩ := q; exact ⟨q0, qP, va_K.moved (u := U) (U := U.calling g mk a) (Vm.Alike.refl U.vm) qK⟩, va_recv hK hPc (ci := 6) (q0 := 0) rfl rfl, fun U hU hW => ⟨rfl, by rw [hU]; exact hPc, va_K.moved hW.alike hK⟩⟩ rfl rfl hl.1 rfl (lv_room (Nat.le_of_ble_eq_true rfl)) dX11_paste_85 ⟨Nat.le_of_ble_eq_true rfl, Nat.le_of_ble_eq_true rfl⟩)) (fun rz438 gz437 => ?_)
                      clear hPc
                      obtain ⟨pz439, pz440⟩ := gz437
                      have pz439 : (rz438.toInt = 0 ∧ (p4.toInt < 0 ∨ p5.toInt < 0 ∨ (sL2 0).toInt < p4.toInt + p5.toInt)) ∨ (rz438.toInt = 1 ∧ 0 ≤ p4.toInt ∧ 0 ≤ p5.toInt ∧ p4.toInt + p5.toInt ≤ (sL2 0).toInt) := pz439
                      have pz440 : rz438.toInt = 0 ∨ rz438.toInt = 1 := pz440
                      have bz441 := hsL2 0
                      refine lv_if_ne (tgt := 94) hx hb dX11_paste_88 (by decide) (fun cz442 => ?_) (fun cz442 => ?_)
                      · skip
                        have zz443 : ¬ rz438.toInt = (0 : Int) := fun h9 => cz442 (zi_eq.mpr h9)
                        refine lv_aload hx hb dX11_paste_94 (lv_at hl 1 rfl) ?_
                        refine va_get (D := (dC, dI)) (ci := 6) (v := .ref (qL3 1)) (C := RX6) (T := TX6) (N := 4) hx hb hts (fun w h => List.mem_cons_of_mem _ (List.mem_append_right _ (List.mem_append_right _ (List.mem_append_right _ (List.mem_append_left _ h))))) hown hK hP 6 rfl rfl 0 (by decide) (hts (.fieldLink RX11 388 "SagMemory$Slot" "numbers" "[J") (wl_mem 10 rfl)) (fun _ h9 => h9) rfl dX11_paste_96 ?_
                        refine lv_iload_n hx hb dX11_paste_99 rfl (lv_at hl 4 rfl) ?_
                        refine lv_aload hx hb dX11_paste_100 (lv_at hl 0 rfl) ?_
                        refine va_get (D := (dC, dI)) (ci := 6) (v := .ref (qL2 1)) (C := RX6) (T := TX6) (N := 4) hx hb hts (fun w h => List.mem_cons_of_mem _ (List.mem_append_right _ (List.mem_append_right _ (List.mem_append_right _ (List.mem_append_left _ h))))) hown hK hP 4 rfl rfl 0 (by decide) (hts (.fieldLink RX11 388 "SagMemory$Slot" "numbers" "[J") (wl_mem 10 rfl)) (fun _ h9 => h9) rfl dX11_paste_102 ?_
                        refine lv_iload hx hb dX11_paste_105 (lv_at hl 6 rfl) ?_
                        refine lv_iload hx hb dX11_paste_107 (lv_at hl 7 rfl) ?_
                        refine va_copyl (ty := .long) hx hb (by rw [hml]; exact hl.1.symm) hown (hts (.methodLink RX11 402 arraycopyName) (wl_mem 11 rfl)) (hts (.native arraycopyName) (wl_mem 12 rfl)) (hts (.static arraycopyName) (wl_mem 13 rfl)) (hts (.initialized "java/lang/System") (wl_mem 14 rfl)) hK hP hD hS 7 5 1 1 rfl rfl rfl rfl rfl (fun h9 => by have h8 := zi_lt.mp h9; have h8 : p2.toInt < (0 : Int) := h8; omega) (fun h9 => by have h8 := zi_lt.mp h9; have h8 : p4.toInt < (0 : Int) := h8; omega) (fun h9 => by have h8 := zi_lt.mp h9; have h8 : p5.toInt < (0 : Int) := h8; omega) (by have h8 := zc_nat p2 (by show 0 ≤ p2.toInt; omega); have h9 := zc_nat p5 (by show 0 ≤ p5.toInt; omega); have h8 : ((p2).toNatClampNeg : Int) = p2.toInt := h8; have h9 : ((p5).toNatClampNeg : Int) = p5.toInt := h9; omega) (by have h8 := zc_nat p4 (by show 0 ≤ p4.toInt; omega); have h9 := zc_nat p5 (by show 0 ≤ p5.toInt; omega); have h8 : ((p4).toNatClampNeg : Int) = p4.toInt := h8; have h9 : ((p5).toNatClampNeg : Int) = p5.toInt := h9; omega) (fun _ _ => rfl) (Nat.le_of_ble_eq_true rfl) (Nat.le_of_ble_eq_true rfl) dX11_paste_109 (fun H locs hP hD hS => ?_)
                        obtain ⟨fz444, efz444, hP, hD⟩ : ∃ fz444 : Nat → Int64, fz444 = va_cpy (lL3 0) (lL2 0) p2.toNatClampNeg p4.toNatClampNeg p5.toNatClampNeg ∧ va_P (dC, dI) vwCl (List.flatten [(wSlot qL0 k vL0 sL0 lL0), (wSlot qL1 k vL1 sL1 lL1), (wSlot qL2 k vL2 sL2 (va_up lL2 0 fz444)), (wSlot qL3 k vL3 sL3 lL3)] ++ List.flatten [(wSag qX k tapeX toldX actsX nowX trialX storyX attemptX orderSearchX routeSearchX setSearchX probeX (qL0 0) (qL1 0) (qL2 0) (qL3 0) image0X image1X image2X aX)]) H ∧ va_D A (List.flatten [(wSlot qL0 k vL0 sL0 lL0), (wSlot qL1 k vL1 sL1 lL1), (wSlot qL2 k vL2 sL2 (va_up lL2 0 fz444)), (wSlot qL3 k vL3 sL3 lL3)] ++ List.flatten [(wSag qX k tapeX toldX actsX nowX trialX storyX attemptX orderSearchX routeSearchX setSearchX probeX (qL0 0) (qL1 0) (qL2 0) (qL3 0) image0X image1X image2X aX)]) := ⟨_, rfl, hP, hD⟩
                        refine lv_iconst (v := 0) hx hb dX11_paste_112 (by decide) ?_
                        rw [hQ]
                        exact W.iret (v := (0 : Int32)) hx hb hr (fun t ht hW => ⟨⟨(0 : Int32), (), rfl, trivial, vL0, sL0, lL0, vL1, sL1, lL1, vL2, sL2, (va_up lL2 0 fz444), vL3, sL3, lL3, hsL0, hsL1, hsL2, hsL3, (show (vL0 0).toInt = (vL0 0).toInt ∧ (vL0 1).toInt = (vL0 1).toInt ∧ (sL0 0).toInt = (sL0 0).toInt from ⟨rfl, rfl, rfl⟩), (show (vL1 0).toInt = (vL1 0).toInt ∧ (vL1 1).toInt = (vL1 1).toInt ∧ (sL1 0).toInt = (sL1 0).toInt from ⟨rfl, rfl, rfl⟩), (show (vL2 0).toInt = (vL2 0).toInt ∧ (vL2 1).toInt = (vL2 1).toInt ∧ (sL2 0).toInt = (sL2 0).toInt from ⟨rfl, rfl, rfl⟩), (show (vL3 0).toInt = (vL3 0).toInt ∧ (vL3 1).toInt = (vL3 1).toInt ∧ (sL3 0).toInt = (sL3 0).toInt from ⟨rfl, rfl, rfl⟩), by rw [ht]; exact hP⟩, hS.F ht⟩) hS.2.2 dX11_paste_113
                      · skip
                        have zz445 : rz438.toInt = (0 : Int) := zi_eq.mp cz442
                        refine lv_bipush (v := (-7)) hx hb dX11_paste_91 (by decide) ?_
                        rw [hQ]
                        exact W.iret (v := (-7 : Int32)) hx hb hr (fun t ht hW => ⟨⟨(-7 : Int32), (), rfl, trivial, vL0, sL0, lL0, vL1, sL1, lL1, vL2, sL2, lL2, vL3, sL3, lL3, hsL0, hsL1, hsL2, hsL3, (show (vL0 0).toInt = (vL0 0).toInt ∧ (vL0 1).toInt = (vL0 1).toInt ∧ (sL0 0).toInt = (sL0 0).toInt from ⟨rfl, rfl, rfl⟩), (show (vL1 0).toInt = (vL1 0).toInt ∧ (vL1 1).toInt = (vL1 1).toInt ∧ (sL1 0).toInt = (sL1 0).toInt from ⟨rfl, rfl, rfl⟩), (show (vL2 0).toInt = (vL2 0).toInt ∧ (vL2 1).toInt = (vL2 1).toInt ∧ (sL2 0).toInt = (sL2 0).toInt from ⟨rfl, rfl, rfl⟩), (show (vL3 0).toInt = (vL3 0).toInt ∧ (vL3 1).toInt = (vL3 1).toInt ∧ (sL3 0).toInt = (sL3 0).toInt from ⟨rfl, rfl, rfl⟩), by rw [ht]; exact hP⟩, hS.F ht⟩) hS.2.2 dX11_paste_93
                  · skip
                    have zz446 : ¬ (vL3 1).toInt = (vL2 1).toInt := fun h9 => cz427 (zi_eq.mpr h9)
                    refine lv_bipush (v := (-8)) hx hb dX11_paste_65 (by decide) ?_
                    rw [hQ]
                    exact W.iret (v := (-8 : Int32)) hx hb hr (fun t ht hW => ⟨⟨(-8 : Int32), (), rfl, trivial, vL0, sL0, lL0, vL1, sL1, lL1, vL2, sL2, lL2, vL3, sL3, lL3, hsL0, hsL1, hsL2, hsL3, (show (vL0 0).toInt = (vL0 0).toInt ∧ (vL0 1).toInt = (vL0 1).toInt ∧ (sL0 0).toInt = (sL0 0).toInt from ⟨rfl, rfl, rfl⟩), (show (vL1 0).toInt = (vL1 0).toInt ∧ (vL1 1).toInt = (vL1 1).toInt ∧ (sL1 0).toInt = (sL1 0).toInt from ⟨rfl, rfl, rfl⟩), (show (vL2 0).toInt = (vL2 0).toInt ∧ (vL2 1).toInt = (vL2 1).toInt ∧ (sL2 0).toInt = (sL2 0).toInt from ⟨rfl, rfl, rfl⟩), (show (vL3 0).toInt = (vL3 0).toInt ∧ (vL3 1).toInt = (vL3 1).toInt ∧ (sL3 0).toInt = (sL3 0).toInt from ⟨rfl, rfl, rfl⟩), by rw [ht]; exact hP⟩, hS.F ht⟩) hS.2.2 dX11_paste_67
                · skip
                  have zz447 : (vL2 0).toInt = (0 : Int) := zi_eq.mp cz425
                  refine lv_bipush (v := (-6)) hx hb dX11_paste_49 (by decide) ?_
                  rw [hQ]
                  exact W.iret (v := (-6 : Int32)) hx hb hr (fun t ht hW => ⟨⟨(-6 : Int32), (), rfl, trivial, vL0, sL0, lL0, vL1, sL1, lL1, vL2, sL2, lL2, vL3, sL3, lL3, hsL0, hsL1, hsL2, hsL3, (show (vL0 0).toInt = (vL0 0).toInt ∧ (vL0 1).toInt = (vL0 1).toInt ∧ (sL0 0).toInt = (sL0 0).toInt from ⟨rfl, rfl, rfl⟩), (show (vL1 0).toInt = (vL1 0).toInt ∧ (vL1 1).toInt = (vL1 1).toInt ∧ (sL1 0).toInt = (sL1 0).toInt from ⟨rfl, rfl, rfl⟩), (show (vL2 0).toInt = (vL2 0).toInt ∧ (vL2 1).toInt = (vL2 1).toInt ∧ (sL2 0).toInt = (sL2 0).toInt from ⟨rfl, rfl, rfl⟩), (show (vL3 0).toInt = (vL3 0).toInt ∧ (vL3 1).toInt = (vL3 1).toInt ∧ (sL3 0).toInt = (sL3 0).toInt from ⟨rfl, rfl, rfl⟩), by rw [ht]; exact hP⟩, hS.F ht⟩) hS.2.2 dX11_paste_51
            · skip
              have zz448 : p3.toInt = (3 : Int) := zi_eq.mp cz366
              refine W.eq (g2 := F0 m 30 ls [.int 3, .ref (qX 3)]) (by rw [cz366]) ?_
              refine va_aldq hx hb hK hP 11 6 rfl rfl (by unfold vp_in; decide) dX11_paste_30 ?_
              refine W.eq (g2 := F0 m 31 ls [.ref (qL3 0)]) rfl ?_
              refine lv_astore (lv' := [(7, .ref (qL3 0)), (6, .ref (qL3 0)), (0, .ref (qX 0)), (1, .int p1), (2, .int p2), (3, .int p3), (4, .int p4), (5, .int p5)]) hx hb dX11_paste_31 hl (by decide) rfl (fun ls hl => ?_)
              refine lv_aload hx hb dX11_paste_33 (lv_at hl 1 rfl) ?_
              refine va_get (D := (dC, dI)) (ci := 6) (v := .int (vL3 0)) (C := RX6) (T := TX6) (N := 4) hx hb hts (fun w h => List.mem_cons_of_mem _ (List.mem_append_right _ (List.mem_append_right _ (List.mem_append_right _ (List.mem_append_left _ h))))) hown hK hP 6 rfl rfl 1 (by decide) (hts (.fieldLink RX11 386 "SagMemory$Slot" "has" "Z") (wl_mem 4 rfl)) (fun _ h9 => h9) rfl dX11_paste_35 ?_
              refine lv_if_eq (tgt := 49) hx hb dX11_paste_38 (by decide) (fun cz449 => ?_) (fun cz449 => ?_)
              · skip
                have zz450 : (vL3 0).toInt = (0 : Int) := zi_eq.mp cz449
                refine lv_bipush (v := (-6)) hx hb dX11_paste_49 (by decide) ?_
                rw [hQ]
                exact W.iret (v := (-6 : Int32)) hx hb hr (fun t ht hW => ⟨⟨(-6 : Int32), (), rfl, trivial, vL0, sL0, lL0, vL1, sL1, lL1, vL2, sL2, lL2, vL3, sL3, lL3, hsL0, hsL1, hsL2, hsL3, (show (vL0 0).toInt = (vL0 0).toInt ∧ (vL0 1).toInt = (vL0 1).toInt ∧ (sL0 0).toInt = (sL0 0).toInt from ⟨rfl, rfl, rfl⟩), (show (vL1 0).toInt = (vL1 0).toInt ∧ (vL1 1).toInt = (vL1 1).toInt ∧ (sL1 0).toInt = (sL1 0).toInt from ⟨rfl, rfl, rfl⟩), (show (vL2 0).toInt = (vL2 0).toInt ∧ (vL2 1).toInt = (vL2 1).toInt ∧ (sL2 0).toInt = (sL2 0).toInt from ⟨rfl, rfl, rfl⟩), (show (vL3 0).toInt = (vL3 0).toInt ∧ (vL3 1).toInt = (vL3 1).toInt ∧ (sL3 0).toInt = (sL3 0).toInt from ⟨rfl, rfl, rfl⟩), by rw [ht]; exact hP⟩, hS.F ht⟩) hS.2.2 dX11_paste_51
              · skip
                have zz451 : ¬ (vL3 0).toInt = (0 : Int) := fun h9 => cz449 (zi_eq.mpr h9)
                refine lv_aload hx hb dX11_paste_41 (lv_at hl 0 rfl) ?_
                refine va_get (D := (dC, dI)) (ci := 6) (v := .int (vL3 0)) (C := RX6) (T := TX6) (N := 4) hx hb hts (fun w h => List.mem_cons_of_mem _ (List.mem_append_right _ (List.mem_append_right _ (List.mem_append_right _ (List.mem_append_left _ h))))) hown hK hP 6 rfl rfl 1 (by decide) (hts (.fieldLink RX11 386 "SagMemory$Slot" "has" "Z") (wl_mem 4 rfl)) (fun _ h9 => h9) rfl dX11_paste_43 ?_
                refine lv_if_ne (tgt := 52) hx hb dX11_paste_46 (by decide) (fun cz452 => ?_) (fun cz452 => ?_)
                · skip
                  have zz453 : ¬ (vL3 0).toInt = (0 : Int) := fun h9 => cz452 (zi_eq.mpr h9)
                  refine lv_aload hx hb dX11_paste_52 (lv_at hl 1 rfl) ?_
                  refine va_get (D := (dC, dI)) (ci := 6) (v := .int (vL3 1)) (C := RX6) (T := TX6) (N := 4) hx hb hts (fun w h => List.mem_cons_of_mem _ (List.mem_append_right _ (List.mem_append_right _ (List.mem_append_right _ (List.mem_append_left _ h))))) hown hK hP 6 rfl rfl 2 (by decide) (hts (.fieldLink RX11 396 "SagMemory$Slot" "width" "I") (wl_mem 5 rfl)) (fun _ h9 => h9) rfl dX11_paste_54 ?_
                  refine lv_aload hx hb dX11_paste_57 (lv_at hl 0 rfl) ?_
                  refine va_get (D := (dC, dI)) (ci := 6) (v := .int (vL3 1)) (C := RX6) (T := TX6) (N := 4) hx hb hts (fun w h => List.mem_cons_of_mem _ (List.mem_append_right _ (List.mem_append_right _ (List.mem_append_right _ (List.mem_append_left _ h))))) hown hK hP 6 rfl rfl 2 (by decide) (hts (.fieldLink RX11 396 "SagMemory$Slot" "width" "I") (wl_mem 5 rfl)) (fun _ h9 => h9) rfl dX11_paste_59 ?_
                  refine lv_icmp_eq (tgt := 68) hx hb dX11_paste_62 (by decide) (fun cz454 => ?_) (fun cz454 => ?_)
                  · skip
                    have zz455 : (vL3 1).toInt = (vL3 1).toInt := zi_eq.mp cz454
                    refine lv_aload hx hb dX11_paste_68 (lv_at hl 1 rfl) ?_
                    refine lv_iload_n hx hb dX11_paste_70 rfl (lv_at hl 4 rfl) ?_
                    refine lv_iload hx hb dX11_paste_71 (lv_at hl 7 rfl) ?_
                    have hPc := hP.sub (ws' := (List.flatten [(wSlot qL3 k vL3 sL3 lL3)])) [6, 7] rfl
                    refine vp_callSi (va_Run.run (va_runV (As := [.int p2, .int p5]) (rest := []) ⟨hx, hb, hml, hown, hts⟩ (c_X6_spans_x l dC dI k qL3 vL3 sL3 lL3 p2 p5 hsL3) (cwV 2 hts (gk_V (wl_mem 6 rfl) (wl_mem 7 rfl) (wl_mem 8 rfl) (wl_mem 9 rfl) (fun w h => List.mem_cons_of_mem _ (List.mem_append_right _ (List.mem_append_right _ (List.mem_append_right _ (List.mem_append_right _ (List.mem_append_left _ h)))))) wkg_c_X6_spans_x) rfl rfl rfl (by decide +kernel) ⟨Nat.le_of_ble_eq_true rfl, Nat.le_of_ble_eq_true rfl⟩) ⟨fun a U g mk q => by obtain ⟨q0, qP, qK⟩ := q; exact ⟨q0, qP, va_K.moved (u := U) (U := U.calling g mk a) (Vm.Alike.refl U.vm) qK⟩, va_recv hK hPc (ci := 6) (q0 := 0) rfl rfl, fun U hU hW => ⟨rfl, by rw [hU]; exact hPc, va_K.moved hW.alike hK⟩⟩ rfl rfl hl.1 rfl (lv_room (Nat.le_of_ble_eq_true rfl)) dX11_paste_73 ⟨Nat.le_of_ble_eq_true rfl, Nat.le_of_ble_eq_true rfl⟩)) (fun rz457 gz456 => ?_)
                    clear hPc
                    obtain ⟨pz458, pz459⟩ := gz456
                    have pz458 : (rz457.toInt = 0 ∧ (p2.toInt < 0 ∨ p5.toInt < 0 ∨ (sL3 0).toInt < p2.toInt + p5.toInt)) ∨ (rz457.toInt = 1 ∧ 0 ≤ p2.toInt ∧ 0 ≤ p5.toInt ∧ p2.toInt + p5.toInt ≤ (sL3 0).toInt) := pz458
                    have pz459 : rz457.toInt = 0 ∨ rz457.toInt = 1 := pz459
                    have bz460 := hsL3 0
                    refine lv_if_eq (tgt := 91) hx hb dX11_paste_76 (by decide) (fun cz461 => ?_) (fun cz461 => ?_)
                    · skip
                      have zz462 : rz457.toInt = (0 : Int) := zi_eq.mp cz461
                      refine lv_bipush (v := (-7)) hx hb dX11_paste_91 (by decide) ?_
                      rw [hQ]
                      exact W.iret (v := (-7 : Int32)) hx hb hr (fun t ht hW => ⟨⟨(-7 : Int32), (), rfl, trivial, vL0, sL0, lL0, vL1, sL1, lL1, vL2, sL2, lL2, vL3, sL3, lL3, hsL0, hsL1, hsL2, hsL3, (show (vL0 0).toInt = (vL0 0).toInt ∧ (vL0 1).toInt = (vL0 1).toInt ∧ (sL0 0).toInt = (sL0 0).toInt from ⟨rfl, rfl, rfl⟩), (show (vL1 0).toInt = (vL1 0).toInt ∧ (vL1 1).toInt = (vL1 1).toInt ∧ (sL1 0).toInt = (sL1 0).toInt from ⟨rfl, rfl, rfl⟩), (show (vL2 0).toInt = (vL2 0).toInt ∧ (vL2 1).toInt = (vL2 1).toInt ∧ (sL2 0).toInt = (sL2 0).toInt from ⟨rfl, rfl, rfl⟩), (show (vL3 0).toInt = (vL3 0).toInt ∧ (vL3 1).toInt = (vL3 1).toInt ∧ (sL3 0).toInt = (sL3 0).toInt from ⟨rfl, rfl, rfl⟩), by rw [ht]; exact hP⟩, hS.F ht⟩) hS.2.2 dX11_paste_93
                    · skip
                      have zz463 : ¬ rz457.toInt = (0 : Int) := fun h9 => cz461 (zi_eq.mpr h9)
                      refine lv_aload hx hb dX11_paste_79 (lv_at hl 0 rfl) ?_
                      refine lv_iload hx hb dX11_paste_81 (lv_at hl 6 rfl) ?_
                      refine lv_iload hx hb dX11_paste_83 (lv_at hl 7 rfl) ?_
                      have hPc := hP.sub (ws' := (List.flatten [(wSlot qL3 k vL3 sL3 lL3)])) [6, 7] rfl
                      refine vp_callSi (va_Run.run (va_runV (As := [.int p4, .int p5]) (rest := []) ⟨hx, hb, hml, hown, hts⟩ (c_X6_spans_x l dC dI k qL3 vL3 sL3 lL3 p4 p5 hsL3) (cwV 2 hts (gk_V (wl_mem 6 rfl) (wl_mem 7 rfl) (wl_mem 8 rfl) (wl_mem 9 rfl) (fun w h => List.mem_cons_of_mem _ (List.mem_append_right _ (List.mem_append_right _ (List.mem_append_right _ (List.mem_append_right _ (List.mem_append_left _ h)))))) wkg_c_X6_spans_x) rfl rfl rfl (by decide +kernel) ⟨Nat.le_of_ble_eq_true rfl, Nat.le_of_ble_eq_true rfl⟩) ⟨fun a U g mk q => by obtain ⟨q0, qP, qK⟩ := q; exact ⟨q0, qP, va_K.moved (u := U) (U := U.calling g mk a) (Vm.Alike.refl U.vm) qK⟩, va_recv hK hPc (ci := 6) (q0 := 0) rfl rfl, fun U hU hW => ⟨rfl, by rw [hU]; exact hPc, va_K.moved hW.alike hK⟩⟩ rfl rfl hl.1 rfl (lv_room (Nat.le_of_ble_eq_true rfl)) dX11_paste_85 ⟨Nat.le_of_ble_eq_true rfl, Nat.le_of_ble_eq_true rfl⟩)) (fun rz465 gz464 => ?_)
                      clear hPc
                      obtain ⟨pz466, pz467⟩ := gz464
                      have pz466 : (rz465.toInt = 0 ∧ (p4.toInt < 0 ∨ p5.toInt < 0 ∨ (sL3 0).toInt < p4.toInt + p5.toInt)) ∨ (rz465.toInt = 1 ∧ 0 ≤ p4.toInt ∧ 0 ≤ p5.toInt ∧ p4.toInt + p5.toInt ≤ (sL3 0).toInt) := pz466
                      have pz467 : rz465.toInt = 0 ∨ rz465.toInt = 1 := pz467
                      refine lv_if_ne (tgt := 94) hx hb dX11_paste_88 (by decide) (fun cz468 => ?_) (fun cz468 => ?_)
                      · skip
                        have zz469 : ¬ rz465.toInt = (0 : Int) := fun h9 => cz468 (zi_eq.mpr h9)
                        refine lv_aload hx hb dX11_paste_94 (lv_at hl 1 rfl) ?_
                        refine va_get (D := (dC, dI)) (ci := 6) (v := .ref (qL3 1)) (C := RX6) (T := TX6) (N := 4) hx hb hts (fun w h => List.mem_cons_of_mem _ (List.mem_append_right _ (List.mem_append_right _ (List.mem_append_right _ (List.mem_append_left _ h))))) hown hK hP 6 rfl rfl 0 (by decide) (hts (.fieldLink RX11 388 "SagMemory$Slot" "numbers" "[J") (wl_mem 10 rfl)) (fun _ h9 => h9) rfl dX11_paste_96 ?_
                        refine lv_iload_n hx hb dX11_paste_99 rfl (lv_at hl 4 rfl) ?_
                        refine lv_aload hx hb dX11_paste_100 (lv_at hl 0 rfl) ?_
                        refine va_get (D := (dC, dI)) (ci := 6) (v := .ref (qL3 1)) (C := RX6) (T := TX6) (N := 4) hx hb hts (fun w h => List.mem_cons_of_mem _ (List.mem_append_right _ (List.mem_append_right _ (List.mem_append_right _ (List.mem_append_left _ h))))) hown hK hP 6 rfl rfl 0 (by decide) (hts (.fieldLink RX11 388 "SagMemory$Slot" "numbers" "[J") (wl_mem 10 rfl)) (fun _ h9 => h9) rfl dX11_paste_102 ?_
                        refine lv_iload hx hb dX11_paste_105 (lv_at hl 6 rfl) ?_
                        refine lv_iload hx hb dX11_paste_107 (lv_at hl 7 rfl) ?_
                        refine va_copyl (ty := .long) hx hb (by rw [hml]; exact hl.1.symm) hown (hts (.methodLink RX11 402 arraycopyName) (wl_mem 11 rfl)) (hts (.native arraycopyName) (wl_mem 12 rfl)) (hts (.static arraycopyName) (wl_mem 13 rfl)) (hts (.initialized "java/lang/System") (wl_mem 14 rfl)) hK hP hD hS 7 7 1 1 rfl rfl rfl rfl rfl (fun h9 => by have h8 := zi_lt.mp h9; have h8 : p2.toInt < (0 : Int) := h8; omega) (fun h9 => by have h8 := zi_lt.mp h9; have h8 : p4.toInt < (0 : Int) := h8; omega) (fun h9 => by have h8 := zi_lt.mp h9; have h8 : p5.toInt < (0 : Int) := h8; omega) (by have h8 := zc_nat p2 (by show 0 ≤ p2.toInt; omega); have h9 := zc_nat p5 (by show 0 ≤ p5.toInt; omega); have h8 : ((p2).toNatClampNeg : Int) = p2.toInt := h8; have h9 : ((p5).toNatClampNeg : Int) = p5.toInt := h9; omega) (by have h8 := zc_nat p4 (by show 0 ≤ p4.toInt; omega); have h9 := zc_nat p5 (by show 0 ≤ p5.toInt; omega); have h8 : ((p4).toNatClampNeg : Int) = p4.toInt := h8; have h9 : ((p5).toNatClampNeg : Int) = p5.toInt := h9; omega) (fun _ _ => rfl) (Nat.le_of_ble_eq_true rfl) (Nat.le_of_ble_eq_true rfl) dX11_paste_109 (fun H locs hP hD hS => ?_)
                        obtain ⟨fz470, efz470, hP, hD⟩ : ∃ fz470 : Nat → Int64, fz470 = va_cpy (lL3 0) (lL3 0) p2.toNatClampNeg p4.toNatClampNeg p5.toNatClampNeg ∧ va_P (dC, dI) vwCl (List.flatten [(wSlot qL0 k vL0 sL0 lL0), (wSlot qL1 k vL1 sL1 lL1), (wSlot qL2 k vL2 sL2 lL2), (wSlot qL3 k vL3 sL3 (va_up lL3 0 fz470))] ++ List.flatten [(wSag qX k tapeX toldX actsX nowX trialX storyX attemptX orderSearchX routeSearchX setSearchX probeX (qL0 0) (qL1 0) (qL2 0) (qL3 0) image0X image1X image2X aX)]) H ∧ va_D A (List.flatten [(wSlot qL0 k vL0 sL0 lL0), (wSlot qL1 k vL1 sL1 lL1), (wSlot qL2 k vL2 sL2 lL2), (wSlot qL3 k vL3 sL3 (va_up lL3 0 fz470))] ++ List.flatten [(wSag qX k tapeX toldX actsX nowX trialX storyX attemptX orderSearchX routeSearchX setSearchX probeX (qL0 0) (qL1 0) (qL2 0) (qL3 0) image0X image1X image2X aX)]) := ⟨_, rfl, hP, hD⟩
                        refine lv_iconst (v := 0) hx hb dX11_paste_112 (by decide) ?_
                        rw [hQ]
                        exact W.iret (v := (0 : Int32)) hx hb hr (fun t ht hW => ⟨⟨(0 : Int32), (), rfl, trivial, vL0, sL0, lL0, vL1, sL1, lL1, vL2, sL2, lL2, vL3, sL3, (va_up lL3 0 fz470), hsL0, hsL1, hsL2, hsL3, (show (vL0 0).toInt = (vL0 0).toInt ∧ (vL0 1).toInt = (vL0 1).toInt ∧ (sL0 0).toInt = (sL0 0).toInt from ⟨rfl, rfl, rfl⟩), (show (vL1 0).toInt = (vL1 0).toInt ∧ (vL1 1).toInt = (vL1 1).toInt ∧ (sL1 0).toInt = (sL1 0).toInt from ⟨rfl, rfl, rfl⟩), (show (vL2 0).toInt = (vL2 0).toInt ∧ (vL2 1).toInt = (vL2 1).toInt ∧ (sL2 0).toInt = (sL2 0).toInt from ⟨rfl, rfl, rfl⟩), (show (vL3 0).toInt = (vL3 0).toInt ∧ (vL3 1).toInt = (vL3 1).toInt ∧ (sL3 0).toInt = (sL3 0).toInt from ⟨rfl, rfl, rfl⟩), by rw [ht]; exact hP⟩, hS.F ht⟩) hS.2.2 dX11_paste_113
                      · skip
                        have zz471 : rz465.toInt = (0 : Int) := zi_eq.mp cz468
                        refine lv_bipush (v := (-7)) hx hb dX11_paste_91 (by decide) ?_
                        rw [hQ]
                        exact W.iret (v := (-7 : Int32)) hx hb hr (fun t ht hW => ⟨⟨(-7 : Int32), (), rfl, trivial, vL0, sL0, lL0, vL1, sL1, lL1, vL2, sL2, lL2, vL3, sL3, lL3, hsL0, hsL1, hsL2, hsL3, (show (vL0 0).toInt = (vL0 0).toInt ∧ (vL0 1).toInt = (vL0 1).toInt ∧ (sL0 0).toInt = (sL0 0).toInt from ⟨rfl, rfl, rfl⟩), (show (vL1 0).toInt = (vL1 0).toInt ∧ (vL1 1).toInt = (vL1 1).toInt ∧ (sL1 0).toInt = (sL1 0).toInt from ⟨rfl, rfl, rfl⟩), (show (vL2 0).toInt = (vL2 0).toInt ∧ (vL2 1).toInt = (vL2 1).toInt ∧ (sL2 0).toInt = (sL2 0).toInt from ⟨rfl, rfl, rfl⟩), (show (vL3 0).toInt = (vL3 0).toInt ∧ (vL3 1).toInt = (vL3 1).toInt ∧ (sL3 0).toInt = (sL3 0).toInt from ⟨rfl, rfl, rfl⟩), by rw [ht]; exact hP⟩, hS.F ht⟩) hS.2.2 dX11_paste_93
                  · skip
                    have zz472 : ¬ (vL3 1).toInt = (vL3 1).toInt := fun h9 => cz454 (zi_eq.mpr h9)
                    exact absurd rfl cz454
                · skip
                  have zz473 : (vL3 0).toInt = (0 : Int) := zi_eq.mp cz452
                  omega
        · skip
          exact absurd cz36 (by decide)
theorem same9 {e0 e1 e2 e3 m0 m1 m2 m3 n0 n1 n2 n3 p1 p2 r r1 u0 u1 u2 u3 w0 w1 w2 w3 : Int} (a0 : (0 ≤ p1 ∧ p1 ≤ 3) ∨ r = (-2)) (a1 : p1 = 0 → (((e0 = 0) ∧ r = (-6)) ∨ (¬ (e0 = 0) ∧ (p2 < 0 ∨ n0 ≤ p2) ∧ r = (-7)) ∨ (¬ (e0 = 0) ∧ 0 ≤ p2 ∧ p2 < n0 ∧ r = 0))) (a2 : p1 = 1 → (((e1 = 0) ∧ r = (-6)) ∨ (¬ (e1 = 0) ∧ (p2 < 0 ∨ n1 ≤ p2) ∧ r = (-7)) ∨ (¬ (e1 = 0) ∧ 0 ≤ p2 ∧ p2 < n1 ∧ r = 0))) (a3 : p1 = 2 → (((e2 = 0) ∧ r = (-6)) ∨ (¬ (e2 = 0) ∧ (p2 < 0 ∨ n2 ≤ p2) ∧ r = (-7)) ∨ (¬ (e2 = 0) ∧ 0 ≤ p2 ∧ p2 < n2 ∧ r = 0))) (a4 : p1 = 3 → (((e3 = 0) ∧ r = (-6)) ∨ (¬ (e3 = 0) ∧ (p2 < 0 ∨ n3 ≤ p2) ∧ r = (-7)) ∨ (¬ (e3 = 0) ∧ 0 ≤ p2 ∧ p2 < n3 ∧ r = 0))) (b0 : (0 ≤ p1 ∧ p1 ≤ 3) ∨ r1 = (-2)) (b1 : p1 = 0 → (((w0 = (-1)) ∧ r1 = (-6)) ∨ (¬ (w0 = (-1)) ∧ (p2 < 0 ∨ m0 ≤ p2) ∧ r1 = (-7)) ∨ (¬ (w0 = (-1)) ∧ 0 ≤ p2 ∧ p2 < m0 ∧ r1 = 0))) (b2 : p1 = 1 → (((w1 = (-1)) ∧ r1 = (-6)) ∨ (¬ (w1 = (-1)) ∧ (p2 < 0 ∨ m1 ≤ p2) ∧ r1 = (-7)) ∨ (¬ (w1 = (-1)) ∧ 0 ≤ p2 ∧ p2 < m1 ∧ r1 = 0))) (b3 : p1 = 2 → (((w2 = (-1)) ∧ r1 = (-6)) ∨ (¬ (w2 = (-1)) ∧ (p2 < 0 ∨ m2 ≤ p2) ∧ r1 = (-7)) ∨ (¬ (w2 = (-1)) ∧ 0 ≤ p2 ∧ p2 < m2 ∧ r1 = 0))) (b4 : p1 = 3 → (((w3 = (-1)) ∧ r1 = (-6)) ∨ (¬ (w3 = (-1)) ∧ (p2 < 0 ∨ m3 ≤ p2) ∧ r1 = (-7)) ∨ (¬ (w3 = (-1)) ∧ 0 ≤ p2 ∧ p2 < m3 ∧ r1 = 0))) (R0 : ((e0 = 0 ∧ w0 = (-1)) ∨ (e0 ≠ 0 ∧ w0 = u0 ∧ 0 ≤ u0 ∧ m0 = n0))) (R1 : ((e1 = 0 ∧ w1 = (-1)) ∨ (e1 ≠ 0 ∧ w1 = u1 ∧ 0 ≤ u1 ∧ m1 = n1))) (R2 : ((e2 = 0 ∧ w2 = (-1)) ∨ (e2 ≠ 0 ∧ w2 = u2 ∧ 0 ≤ u2 ∧ m2 = n2))) (R3 : ((e3 = 0 ∧ w3 = (-1)) ∨ (e3 ≠ 0 ∧ w3 = u3 ∧ 0 ≤ u3 ∧ m3 = n3))) : r = r1 := by
  have h1 : p1 < 0 ∨ 3 < p1 ∨ p1 = 0 ∨ p1 = 1 ∨ p1 = 2 ∨ p1 = 3 := by clear a0 a1 a2 a3 a4 b0 b1 b2 b3 b4 R0 R1 R2 R3; omega
  rcases h1 with h1 | h1 | h1 | h1 | h1 | h1
  · skip
    clear a1 a2 a3 a4 b1 b2 b3 b4 R0 R1 R2 R3; omega
  · skip
    clear a1 a2 a3 a4 b1 b2 b3 b4 R0 R1 R2 R3; omega
  · skip
    have x9 := a1 h1; have y9 := b1 h1; clear a0 a1 a2 a3 a4 b0 b1 b2 b3 b4 R1 R2 R3; omega
  · skip
    have x9 := a2 h1; have y9 := b2 h1; clear a0 a1 a2 a3 a4 b0 b1 b2 b3 b4 R0 R2 R3; omega
  · skip
    have x9 := a3 h1; have y9 := b3 h1; clear a0 a1 a2 a3 a4 b0 b1 b2 b3 b4 R0 R1 R3; omega
  · skip
    have x9 := a4 h1; have y9 := b4 h1; clear a0 a1 a2 a3 a4 b0 b1 b2 b3 b4 R0 R1 R2; omega
