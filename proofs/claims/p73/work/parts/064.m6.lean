def wk_c_X12_isBridge : List Cond := .code yX12_isBridge cX12_isBridge 3 (some .boolean) :: ([.methodLink RX12 283 yX12_bridges, .instanceMethod yX12_bridges, .selects RX12 yX12_bridges yX12_bridges, .initialized RX12, .methodLink RX12 121 yX12_in, .static yX12_in] ++ (wk_c_X12_bridges ++ (wk_c_X12_in ++ [])))
theorem wkg_c_X12_isBridge : wk_c_X12_isBridge.all goodWord = true := by decide +kernel
set_option maxHeartbeats 4000000 in
set_option maxRecDepth 100000 in
theorem c_X12_isBridge (l : Launch) (dC : Nat → ClassId) (dI : Nat → Nat → Nat) (k : Nat → ClassId) (qO : Nat → Nat) (widthO : Nat) (manyO : Nat) (cellsO : Nat) (movedO : Nat) (tapeO : Nat) (linesO : Nat) (bridgeO : Nat) (cartO : Nat) (wardO : Nat) (frostAtO : Nat) (actO : Nat) (isKeptO : Nat) (loadNowO : Nat) (byNowO : Nat) (rowO : Nat) (memoryO : Nat) (whoseO : Nat) (deepNowO : Nat) (brokenByO : Nat) (brokenAtO : Nat) (goesByO : Nat) (comesToO : Nat) (sagMoreO : Nat) (creakOfO : Nat) (wipedByO : Nat) (deepAtO : Nat) (sagAtO : Nat) (loadAtO : Nat) (orderRowO : Nat) (oftenO : Nat) (lossOneO : Nat) (lossOtherO : Nat) (vO : Nat → Int32) (tO : Nat → Int32) (mO : Nat → Int32) (gO : Nat → Int64) (qHa : Nat → Nat) (hHa : Nat → Nat → Int32) (p1 : Int64) (htO : Rg 0 700 tO) (hmO : Rg (-1) 127 mO) (hhHa : Pa_h hHa) : Met l yX12_isBridge wk_c_X12_isBridge ({ frames := 1, cells := 0, slots := 0, locals := 25 }) (va_Pc [.ref (qO 0), .long p1] (fun U => va_P (dC, dI) vwCl (List.flatten [(wMO qO k widthO manyO cellsO movedO tapeO linesO (qHa 0) bridgeO cartO wardO frostAtO actO isKeptO loadNowO byNowO rowO memoryO whoseO deepNowO brokenByO brokenAtO goesByO comesToO sagMoreO creakOfO wipedByO deepAtO sagAtO loadAtO orderRowO oftenO lossOneO lossOtherO vO tO mO gO), (wmHa qHa k hHa)]) U.heap ∧ va_K (dC, dI) vwCl (tK k) U)) (vp_Si (fun r : Int32 => (r.toInt = 0 ∨ r.toInt = 1) ∧ (r.toInt = 0 ∨ (0 ≤ p1.toInt ∧ p1.toInt ≤ 2)))) 0 0 (fun _ => False) := by
  refine Met.ofW (cc := cX12_isBridge) (maxL := 3) (ret := (some .boolean)) (by decide) rfl ?_
  intro p e s m args below meth c s₁ B hml hv
  obtain ⟨rfl, hP, hK⟩ := hv
  have hx := B.exec
  have hb := B.bytes
  have hr := B.returns
  have hts := atoms_spec (ws := wk_c_X12_isBridge) B.pre
  have hown : s.vm.findClass RX12 = some m.cls := findClass_of_methodNamed B.named
  have hlocks := B.notSynchronized
  have hP : va_P (dC, dI) vwCl (List.flatten [(wMO qO k widthO manyO cellsO movedO tapeO linesO (qHa 0) bridgeO cartO wardO frostAtO actO isKeptO loadNowO byNowO rowO memoryO whoseO deepNowO brokenByO brokenAtO goesByO comesToO sagMoreO creakOfO wipedByO deepAtO sagAtO loadAtO orderRowO oftenO lossOneO lossOtherO vO tO mO gO), (wmHa qHa k hHa)]) s.heap := hP
  have hl := lv_entry ([.ref (qO 0), .long p1]) (n := 3) (Nat.le_of_ble_eq_true rfl)
  rw [lg_entry_eq]
  generalize (lg_sl ([.ref (qO 0), .long p1]) ++ List.replicate (3 - (lg_sl ([.ref (qO 0), .long p1])).length) Slot.unset).toArray = ls at hl ⊢
  have hl : lv_has ls 3 [(0, .ref (qO 0)), (1, .long p1)] := hl
  refine w_gen (fun Q hQ => ?_)
  refine lv_lload_n hx hb dX12_isBridge_0 rfl (lv_at hl 1 rfl) ?_
  refine lv_lconst (v := 0) hx hb dX12_isBridge_1 (by decide) ?_
  refine lv_aload_n hx hb dX12_isBridge_2 rfl (lv_at hl 0 rfl) ?_
  have hPc := hP
  refine vp_callSi (va_Run.run (va_runV (As := []) (rest := [.long 0, .long p1]) ⟨hx, hb, hml, hown, hts⟩ (c_X12_bridges l dC dI k qO widthO manyO cellsO movedO tapeO linesO bridgeO cartO wardO frostAtO actO isKeptO loadNowO byNowO rowO memoryO whoseO deepNowO brokenByO brokenAtO goesByO comesToO sagMoreO creakOfO wipedByO deepAtO sagAtO loadAtO orderRowO oftenO lossOneO lossOtherO vO tO mO gO qHa hHa htO hmO hhHa) (cwV 0 hts (gk_V (wl_mem 0 rfl) (wl_mem 1 rfl) (wl_mem 2 rfl) (wl_mem 3 rfl) (fun w h => List.mem_cons_of_mem _ (List.mem_append_right _ (List.mem_append_left _ h))) wkg_c_X12_bridges) rfl rfl rfl (by decide +kernel) ⟨Nat.le_of_ble_eq_true rfl, Nat.le_of_ble_eq_true rfl⟩) ⟨fun a U g mk q => by obtain ⟨q0, qP, qK⟩ := q; exact ⟨q0, qP, va_K.moved (u := U) (U := U.calling g mk a) (Vm.Alike.refl U.vm) qK⟩, va_recv hK hPc (ci := 12) (q0 := 0) rfl rfl, fun U hU hW => ⟨rfl, by rw [hU]; exact hPc, va_K.moved hW.alike hK⟩⟩ rfl rfl hl.1 rfl (lv_room (Nat.le_of_ble_eq_true rfl)) dX12_isBridge_3 ⟨Nat.le_of_ble_eq_true rfl, Nat.le_of_ble_eq_true rfl⟩)) (fun rz2 gz1 => ?_)
  clear hPc
  have pz3 := gz1
  have pz3 : 0 ≤ rz2.toInt ∧ rz2.toInt ≤ 3 := pz3
  refine lv_i2l hx hb dX12_isBridge_6 rfl ?_
  refine lv_lconst (v := 1) hx hb dX12_isBridge_7 (by decide) ?_
  refine lv_lsub hx hb dX12_isBridge_8 ?_
  have bz4 := fb_rng rz2
  refine lv_topl (fun xz5 exz5 => ?_)
  have fxz5 : xz5.toInt = rz2.toInt - (1 : Int) := by rw [exz5]; exact (by have h8 := fb_subL (x := rz2.toInt64) (y := (1 : Int64)) (by simp only [Int32.toInt_toInt64]; show -9223372036854775808 ≤ rz2.toInt - (1 : Int); omega) (by simp only [Int32.toInt_toInt64]; show rz2.toInt - (1 : Int) < 9223372036854775808; omega); simp only [Int32.toInt_toInt64] at h8; exact h8)
  have hPc : va_P (dC, dI) vwCl (List.flatten ([] : List va_W)) s.heap := fun k q h => by simp at h
  refine vp_callSi (va_Run.run (va_runS (As := [.long p1, .long 0, .long xz5]) (rest := []) ⟨hx, hb, hml, hown, hts⟩ (c_X12_in l dC dI k p1 (0 : Int64) xz5) (va_cwS 3 hts (gk_S (wl_mem 4 rfl) (wl_mem 5 rfl) (wl_mem 3 rfl) (fun w h => List.mem_cons_of_mem _ (List.mem_append_right _ (List.mem_append_right _ (List.mem_append_left _ h)))) wkg_c_X12_in) rfl rfl rfl (by decide +kernel) ⟨Nat.le_of_ble_eq_true rfl, Nat.le_of_ble_eq_true rfl⟩) ⟨fun a U g mk q => by obtain ⟨q0, qP, qK⟩ := q; exact ⟨q0, qP, va_K.moved (u := U) (U := U.calling g mk a) (Vm.Alike.refl U.vm) qK⟩, fun U hU hW => ⟨rfl, by rw [hU]; exact hPc, va_K.moved hW.alike hK⟩⟩ rfl rfl hl.1 rfl (lv_room (Nat.le_of_ble_eq_true rfl)) dX12_isBridge_9 ⟨Nat.le_of_ble_eq_true rfl, Nat.le_of_ble_eq_true rfl⟩)) (fun rz7 gz6 => ?_)
  clear hPc
  rcases gz6 with ⟨er, cz8⟩ | ⟨er, cz9, cz10⟩ | ⟨er, cz11, cz12⟩
  · obtain rfl := er.symm
    have zz13 : p1.toInt < (0 : Int) := zi_ltL.mp cz8
    rw [hQ]
    exact W.zret (v := (0 : Int32)) hx hb hr rfl (fun t ht hW => ⟨(0 : Int32), rfl, ⟨(by show (0 : Int) = 0 ∨ (0 : Int) = 1; omega), (by show (0 : Int) = 0 ∨ (0 ≤ p1.toInt ∧ p1.toInt ≤ 2); omega)⟩, ht⟩) (fun _ h => absurd h List.not_mem_nil) dX12_isBridge_12
  · obtain rfl := er.symm
    have zz14 : ¬ p1.toInt < (0 : Int) := fun h9 => cz9 (zi_ltL.mpr h9)
    have zz15 : xz5.toInt < p1.toInt := zi_ltL.mp cz10
    rw [hQ]
    exact W.zret (v := (0 : Int32)) hx hb hr rfl (fun t ht hW => ⟨(0 : Int32), rfl, ⟨(by show (0 : Int) = 0 ∨ (0 : Int) = 1; omega), (by show (0 : Int) = 0 ∨ (0 ≤ p1.toInt ∧ p1.toInt ≤ 2); omega)⟩, ht⟩) (fun _ h => absurd h List.not_mem_nil) dX12_isBridge_12
  · obtain rfl := er.symm
    have zz16 : ¬ p1.toInt < (0 : Int) := fun h9 => cz11 (zi_ltL.mpr h9)
    have zz17 : ¬ xz5.toInt < p1.toInt := fun h9 => cz12 (zi_ltL.mpr h9)
    rw [hQ]
    exact W.zret (v := (1 : Int32)) hx hb hr rfl (fun t ht hW => ⟨(1 : Int32), rfl, ⟨(by show (1 : Int) = 0 ∨ (1 : Int) = 1; omega), (by show (1 : Int) = 0 ∨ (0 ≤ p1.toInt ∧ p1.toInt ≤ 2); omega)⟩, ht⟩) (fun _ h => absurd h List.not_mem_nil) dX12_isBridge_12
def wk_c_X12_isCart : List Cond := .code yX12_isCart cX12_isCart 3 (some .boolean) :: ([.methodLink RX12 286 yX12_carts, .instanceMethod yX12_carts, .selects RX12 yX12_carts yX12_carts, .initialized RX12, .methodLink RX12 121 yX12_in, .static yX12_in] ++ (wk_c_X12_carts ++ (wk_c_X12_in ++ [])))
theorem wkg_c_X12_isCart : wk_c_X12_isCart.all goodWord = true := by decide +kernel
set_option maxHeartbeats 4000000 in
set_option maxRecDepth 100000 in
theorem c_X12_isCart (l : Launch) (dC : Nat → ClassId) (dI : Nat → Nat → Nat) (k : Nat → ClassId) (qO : Nat → Nat) (widthO : Nat) (manyO : Nat) (cellsO : Nat) (movedO : Nat) (tapeO : Nat) (linesO : Nat) (bridgeO : Nat) (cartO : Nat) (wardO : Nat) (frostAtO : Nat) (actO : Nat) (isKeptO : Nat) (loadNowO : Nat) (byNowO : Nat) (rowO : Nat) (memoryO : Nat) (whoseO : Nat) (deepNowO : Nat) (brokenByO : Nat) (brokenAtO : Nat) (goesByO : Nat) (comesToO : Nat) (sagMoreO : Nat) (creakOfO : Nat) (wipedByO : Nat) (deepAtO : Nat) (sagAtO : Nat) (loadAtO : Nat) (orderRowO : Nat) (oftenO : Nat) (lossOneO : Nat) (lossOtherO : Nat) (vO : Nat → Int32) (tO : Nat → Int32) (mO : Nat → Int32) (gO : Nat → Int64) (qHa : Nat → Nat) (hHa : Nat → Nat → Int32) (p1 : Int64) (htO : Rg 0 700 tO) (hmO : Rg (-1) 127 mO) (hhHa : Pa_h hHa) : Met l yX12_isCart wk_c_X12_isCart ({ frames := 1, cells := 0, slots := 0, locals := 25 }) (va_Pc [.ref (qO 0), .long p1] (fun U => va_P (dC, dI) vwCl (List.flatten [(wMO qO k widthO manyO cellsO movedO tapeO linesO (qHa 0) bridgeO cartO wardO frostAtO actO isKeptO loadNowO byNowO rowO memoryO whoseO deepNowO brokenByO brokenAtO goesByO comesToO sagMoreO creakOfO wipedByO deepAtO sagAtO loadAtO orderRowO oftenO lossOneO lossOtherO vO tO mO gO), (wmHa qHa k hHa)]) U.heap ∧ va_K (dC, dI) vwCl (tK k) U)) (vp_Si (fun r : Int32 => (r.toInt = 0 ∨ r.toInt = 1) ∧ (r.toInt = 0 ∨ (0 ≤ p1.toInt ∧ p1.toInt ≤ 6)))) 0 0 (fun _ => False) := by
  refine Met.ofW (cc := cX12_isCart) (maxL := 3) (ret := (some .boolean)) (by decide) rfl ?_
  intro p e s m args below meth c s₁ B hml hv
  obtain ⟨rfl, hP, hK⟩ := hv
  have hx := B.exec
  have hb := B.bytes
  have hr := B.returns
  have hts := atoms_spec (ws := wk_c_X12_isCart) B.pre
  have hown : s.vm.findClass RX12 = some m.cls := findClass_of_methodNamed B.named
  have hlocks := B.notSynchronized
  have hP : va_P (dC, dI) vwCl (List.flatten [(wMO qO k widthO manyO cellsO movedO tapeO linesO (qHa 0) bridgeO cartO wardO frostAtO actO isKeptO loadNowO byNowO rowO memoryO whoseO deepNowO brokenByO brokenAtO goesByO comesToO sagMoreO creakOfO wipedByO deepAtO sagAtO loadAtO orderRowO oftenO lossOneO lossOtherO vO tO mO gO), (wmHa qHa k hHa)]) s.heap := hP
  have hl := lv_entry ([.ref (qO 0), .long p1]) (n := 3) (Nat.le_of_ble_eq_true rfl)
  rw [lg_entry_eq]
  generalize (lg_sl ([.ref (qO 0), .long p1]) ++ List.replicate (3 - (lg_sl ([.ref (qO 0), .long p1])).length) Slot.unset).toArray = ls at hl ⊢
  have hl : lv_has ls 3 [(0, .ref (qO 0)), (1, .long p1)] := hl
  refine w_gen (fun Q hQ => ?_)
  refine lv_lload_n hx hb dX12_isCart_0 rfl (lv_at hl 1 rfl) ?_
  refine lv_lconst (v := 0) hx hb dX12_isCart_1 (by decide) ?_
  refine lv_aload_n hx hb dX12_isCart_2 rfl (lv_at hl 0 rfl) ?_
  have hPc := hP
  refine vp_callSi (va_Run.run (va_runV (As := []) (rest := [.long 0, .long p1]) ⟨hx, hb, hml, hown, hts⟩ (c_X12_carts l dC dI k qO widthO manyO cellsO movedO tapeO linesO bridgeO cartO wardO frostAtO actO isKeptO loadNowO byNowO rowO memoryO whoseO deepNowO brokenByO brokenAtO goesByO comesToO sagMoreO creakOfO wipedByO deepAtO sagAtO loadAtO orderRowO oftenO lossOneO lossOtherO vO tO mO gO qHa hHa htO hmO hhHa) (cwV 0 hts (gk_V (wl_mem 0 rfl) (wl_mem 1 rfl) (wl_mem 2 rfl) (wl_mem 3 rfl) (fun w h => List.mem_cons_of_mem _ (List.mem_append_right _ (List.mem_append_left _ h))) wkg_c_X12_carts) rfl rfl rfl (by decide +kernel) ⟨Nat.le_of_ble_eq_true rfl, Nat.le_of_ble_eq_true rfl⟩) ⟨fun a U g mk q => by obtain ⟨q0, qP, qK⟩ := q; exact ⟨q0, qP, va_K.moved (u := U) (U := U.calling g mk a) (Vm.Alike.refl U.vm) qK⟩, va_recv hK hPc (ci := 12) (q0 := 0) rfl rfl, fun U hU hW => ⟨rfl, by rw [hU]; exact hPc, va_K.moved hW.alike hK⟩⟩ rfl rfl hl.1 rfl (lv_room (Nat.le_of_ble_eq_true rfl)) dX12_isCart_3 ⟨Nat.le_of_ble_eq_true rfl, Nat.le_of_ble_eq_true rfl⟩)) (fun rz2 gz1 => ?_)
  clear hPc
  obtain ⟨pz3, pz4⟩ := gz1
  have pz3 : 0 ≤ rz2.toInt ∧ rz2.toInt ≤ 7 := pz3
  have pz4 : rz2.toInt = ((hHa 0) 4).toInt := pz4
  refine lv_i2l hx hb dX12_isCart_6 rfl ?_
  refine lv_lconst (v := 1) hx hb dX12_isCart_7 (by decide) ?_
  refine lv_lsub hx hb dX12_isCart_8 ?_
  have bz5 := fb_rng rz2
  refine lv_topl (fun xz6 exz6 => ?_)
  have fxz6 : xz6.toInt = rz2.toInt - (1 : Int) := by rw [exz6]; exact (by have h8 := fb_subL (x := rz2.toInt64) (y := (1 : Int64)) (by simp only [Int32.toInt_toInt64]; show -9223372036854775808 ≤ rz2.toInt - (1 : Int); omega) (by simp only [Int32.toInt_toInt64]; show rz2.toInt - (1 : Int) < 9223372036854775808; omega); simp only [Int32.toInt_toInt64] at h8; exact h8)
  have hPc : va_P (dC, dI) vwCl (List.flatten ([] : List va_W)) s.heap := fun k q h => by simp at h
  refine vp_callSi (va_Run.run (va_runS (As := [.long p1, .long 0, .long xz6]) (rest := []) ⟨hx, hb, hml, hown, hts⟩ (c_X12_in l dC dI k p1 (0 : Int64) xz6) (va_cwS 3 hts (gk_S (wl_mem 4 rfl) (wl_mem 5 rfl) (wl_mem 3 rfl) (fun w h => List.mem_cons_of_mem _ (List.mem_append_right _ (List.mem_append_right _ (List.mem_append_left _ h)))) wkg_c_X12_in) rfl rfl rfl (by decide +kernel) ⟨Nat.le_of_ble_eq_true rfl, Nat.le_of_ble_eq_true rfl⟩) ⟨fun a U g mk q => by obtain ⟨q0, qP, qK⟩ := q; exact ⟨q0, qP, va_K.moved (u := U) (U := U.calling g mk a) (Vm.Alike.refl U.vm) qK⟩, fun U hU hW => ⟨rfl, by rw [hU]; exact hPc, va_K.moved hW.alike hK⟩⟩ rfl rfl hl.1 rfl (lv_room (Nat.le_of_ble_eq_true rfl)) dX12_isCart_9 ⟨Nat.le_of_ble_eq_true rfl, Nat.le_of_ble_eq_true rfl⟩)) (fun rz8 gz7 => ?_)
  clear hPc
  rcases gz7 with ⟨er, cz9⟩ | ⟨er, cz10, cz11⟩ | ⟨er, cz12, cz13⟩
  · obtain rfl := er.symm
    have zz14 : p1.toInt < (0 : Int) := zi_ltL.mp cz9
    rw [hQ]
    exact W.zret (v := (0 : Int32)) hx hb hr rfl (fun t ht hW => ⟨(0 : Int32), rfl, ⟨(by show (0 : Int) = 0 ∨ (0 : Int) = 1; omega), (by show (0 : Int) = 0 ∨ (0 ≤ p1.toInt ∧ p1.toInt ≤ 6); omega)⟩, ht⟩) (fun _ h => absurd h List.not_mem_nil) dX12_isCart_12
  · obtain rfl := er.symm
    have zz15 : ¬ p1.toInt < (0 : Int) := fun h9 => cz10 (zi_ltL.mpr h9)
    have zz16 : xz6.toInt < p1.toInt := zi_ltL.mp cz11
    rw [hQ]
    exact W.zret (v := (0 : Int32)) hx hb hr rfl (fun t ht hW => ⟨(0 : Int32), rfl, ⟨(by show (0 : Int) = 0 ∨ (0 : Int) = 1; omega), (by show (0 : Int) = 0 ∨ (0 ≤ p1.toInt ∧ p1.toInt ≤ 6); omega)⟩, ht⟩) (fun _ h => absurd h List.not_mem_nil) dX12_isCart_12
  · obtain rfl := er.symm
    have zz17 : ¬ p1.toInt < (0 : Int) := fun h9 => cz12 (zi_ltL.mpr h9)
    have zz18 : ¬ xz6.toInt < p1.toInt := fun h9 => cz13 (zi_ltL.mpr h9)
    rw [hQ]
    exact W.zret (v := (1 : Int32)) hx hb hr rfl (fun t ht hW => ⟨(1 : Int32), rfl, ⟨(by show (1 : Int) = 0 ∨ (1 : Int) = 1; omega), (by show (1 : Int) = 0 ∨ (0 ≤ p1.toInt ∧ p1.toInt ≤ 6); omega)⟩, ht⟩) (fun _ h => absurd h List.not_mem_nil) dX12_isCart_12
def wk_c_X12_areTwo : List Cond := .code yX12_areTwo cX12_areTwo 3 (some .boolean) :: ([.methodLink RX12 289 yX12_isCart, .instanceMethod yX12_isCart, .selects RX12 yX12_isCart yX12_isCart, .initialized RX12] ++ (wk_c_X12_isCart ++ []))
theorem wkg_c_X12_areTwo : wk_c_X12_areTwo.all goodWord = true := by decide +kernel
set_option maxHeartbeats 4000000 in
set_option maxRecDepth 100000 in
theorem c_X12_areTwo (l : Launch) (dC : Nat → ClassId) (dI : Nat → Nat → Nat) (k : Nat → ClassId) (qO : Nat → Nat) (widthO : Nat) (manyO : Nat) (cellsO : Nat) (movedO : Nat) (tapeO : Nat) (linesO : Nat) (bridgeO : Nat) (cartO : Nat) (wardO : Nat) (frostAtO : Nat) (actO : Nat) (isKeptO : Nat) (loadNowO : Nat) (byNowO : Nat) (rowO : Nat) (memoryO : Nat) (whoseO : Nat) (deepNowO : Nat) (brokenByO : Nat) (brokenAtO : Nat) (goesByO : Nat) (comesToO : Nat) (sagMoreO : Nat) (creakOfO : Nat) (wipedByO : Nat) (deepAtO : Nat) (sagAtO : Nat) (loadAtO : Nat) (orderRowO : Nat) (oftenO : Nat) (lossOneO : Nat) (lossOtherO : Nat) (vO : Nat → Int32) (tO : Nat → Int32) (mO : Nat → Int32) (gO : Nat → Int64) (qHa : Nat → Nat) (hHa : Nat → Nat → Int32) (p1 : Int32) (p2 : Int32) (htO : Rg 0 700 tO) (hmO : Rg (-1) 127 mO) (hhHa : Pa_h hHa) : Met l yX12_areTwo wk_c_X12_areTwo ({ frames := 2, cells := 0, slots := 0, locals := 47 }) (va_Pc [.ref (qO 0), .int p1, .int p2] (fun U => va_P (dC, dI) vwCl (List.flatten [(wMO qO k widthO manyO cellsO movedO tapeO linesO (qHa 0) bridgeO cartO wardO frostAtO actO isKeptO loadNowO byNowO rowO memoryO whoseO deepNowO brokenByO brokenAtO goesByO comesToO sagMoreO creakOfO wipedByO deepAtO sagAtO loadAtO orderRowO oftenO lossOneO lossOtherO vO tO mO gO), (wmHa qHa k hHa)]) U.heap ∧ va_K (dC, dI) vwCl (tK k) U)) (vp_Si (fun r : Int32 => (r.toInt = 0 ∨ r.toInt = 1) ∧ (r.toInt = 0 ∨ (0 ≤ p1.toInt ∧ p1.toInt ≤ 6 ∧ 0 ≤ p2.toInt ∧ p2.toInt ≤ 6)))) 0 0 (fun _ => False) := by
  refine Met.ofW (cc := cX12_areTwo) (maxL := 3) (ret := (some .boolean)) (by decide) rfl ?_
  intro p e s m args below meth c s₁ B hml hv
  obtain ⟨rfl, hP, hK⟩ := hv
  have hx := B.exec
  have hb := B.bytes
  have hr := B.returns
  have hts := atoms_spec (ws := wk_c_X12_areTwo) B.pre
  have hown : s.vm.findClass RX12 = some m.cls := findClass_of_methodNamed B.named
  have hlocks := B.notSynchronized
  have hP : va_P (dC, dI) vwCl (List.flatten [(wMO qO k widthO manyO cellsO movedO tapeO linesO (qHa 0) bridgeO cartO wardO frostAtO actO isKeptO loadNowO byNowO rowO memoryO whoseO deepNowO brokenByO brokenAtO goesByO comesToO sagMoreO creakOfO wipedByO deepAtO sagAtO loadAtO orderRowO oftenO lossOneO lossOtherO vO tO mO gO), (wmHa qHa k hHa)]) s.heap := hP
  have hl := lv_entry ([.ref (qO 0), .int p1, .int p2]) (n := 3) (Nat.le_of_ble_eq_true rfl)
  rw [lg_entry_eq]
  generalize (lg_sl ([.ref (qO 0), .int p1, .int p2]) ++ List.replicate (3 - (lg_sl ([.ref (qO 0), .int p1, .int p2])).length) Slot.unset).toArray = ls at hl ⊢
  have hl : lv_has ls 3 [(0, .ref (qO 0)), (1, .int p1), (2, .int p2)] := hl
  refine w_gen (fun Q hQ => ?_)
  refine lv_aload_n hx hb dX12_areTwo_0 rfl (lv_at hl 0 rfl) ?_
  refine lv_iload_n hx hb dX12_areTwo_1 rfl (lv_at hl 1 rfl) ?_
  refine lv_i2l hx hb dX12_areTwo_2 rfl ?_
  have hPc := hP
  refine vp_callSi (va_Run.run (va_runV (As := [.long p1.toInt64]) (rest := []) ⟨hx, hb, hml, hown, hts⟩ (c_X12_isCart l dC dI k qO widthO manyO cellsO movedO tapeO linesO bridgeO cartO wardO frostAtO actO isKeptO loadNowO byNowO rowO memoryO whoseO deepNowO brokenByO brokenAtO goesByO comesToO sagMoreO creakOfO wipedByO deepAtO sagAtO loadAtO orderRowO oftenO lossOneO lossOtherO vO tO mO gO qHa hHa p1.toInt64 htO hmO hhHa) (cwV 1 hts (gk_V (wl_mem 0 rfl) (wl_mem 1 rfl) (wl_mem 2 rfl) (wl_mem 3 rfl) (fun w h => List.mem_cons_of_mem _ (List.mem_append_right _ (List.mem_append_left _ h))) wkg_c_X12_isCart) rfl rfl rfl (by decide +kernel) ⟨Nat.le_of_ble_eq_true rfl, Nat.le_of_ble_eq_true rfl⟩) ⟨fun a U g mk q => by obtain ⟨q0, qP, qK⟩ := q; exact ⟨q0, qP, va_K.moved (u := U) (U := U.calling g mk a) (Vm.Alike.refl U.vm) qK⟩, va_recv hK hPc (ci := 12) (q0 := 0) rfl rfl, fun U hU hW => ⟨rfl, by rw [hU]; exact hPc, va_K.moved hW.alike hK⟩⟩ rfl rfl hl.1 rfl (lv_room (Nat.le_of_ble_eq_true rfl)) dX12_areTwo_3 ⟨Nat.le_of_ble_eq_true rfl, Nat.le_of_ble_eq_true rfl⟩)) (fun rz2 gz1 => ?_)
  clear hPc
  obtain ⟨pz3, pz4⟩ := gz1
  have pz3 : rz2.toInt = 0 ∨ rz2.toInt = 1 := by first | exact pz3 | (simp only [Int32.toInt_toInt64] at pz3; exact pz3)
  have pz4 : rz2.toInt = 0 ∨ (0 ≤ p1.toInt ∧ p1.toInt ≤ 6) := by first | exact pz4 | (simp only [Int32.toInt_toInt64] at pz4; exact pz4)
  refine lv_if_eq (tgt := 27) hx hb dX12_areTwo_6 (by decide) (fun cz5 => ?_) (fun cz5 => ?_)
  · skip
    have zz6 : rz2.toInt = (0 : Int) := zi_eq.mp cz5
    refine lv_iconst (v := 0) hx hb dX12_areTwo_27 (by decide) ?_
    rw [hQ]
    exact W.zret (v := (0 : Int32)) hx hb hr rfl (fun t ht hW => ⟨(0 : Int32), rfl, ⟨(by show (0 : Int) = 0 ∨ (0 : Int) = 1; omega), (by show (0 : Int) = 0 ∨ (0 ≤ p1.toInt ∧ p1.toInt ≤ 6 ∧ 0 ≤ p2.toInt ∧ p2.toInt ≤ 6); omega)⟩, ht⟩) (fun _ h => absurd h List.not_mem_nil) dX12_areTwo_28
  · skip
    have zz7 : ¬ rz2.toInt = (0 : Int) := fun h9 => cz5 (zi_eq.mpr h9)
    refine lv_aload_n hx hb dX12_areTwo_9 rfl (lv_at hl 0 rfl) ?_
    refine lv_iload_n hx hb dX12_areTwo_10 rfl (lv_at hl 2 rfl) ?_
    refine lv_i2l hx hb dX12_areTwo_11 rfl ?_
    have hPc := hP
    refine vp_callSi (va_Run.run (va_runV (As := [.long p2.toInt64]) (rest := []) ⟨hx, hb, hml, hown, hts⟩ (c_X12_isCart l dC dI k qO widthO manyO cellsO movedO tapeO linesO bridgeO cartO wardO frostAtO actO isKeptO loadNowO byNowO rowO memoryO whoseO deepNowO brokenByO brokenAtO goesByO comesToO sagMoreO creakOfO wipedByO deepAtO sagAtO loadAtO orderRowO oftenO lossOneO lossOtherO vO tO mO gO qHa hHa p2.toInt64 htO hmO hhHa) (cwV 1 hts (gk_V (wl_mem 0 rfl) (wl_mem 1 rfl) (wl_mem 2 rfl) (wl_mem 3 rfl) (fun w h => List.mem_cons_of_mem _ (List.mem_append_right _ (List.mem_append_left _ h))) wkg_c_X12_isCart) rfl rfl rfl (by decide +kernel) ⟨Nat.le_of_ble_eq_true rfl, Nat.le_of_ble_eq_true rfl⟩) ⟨fun a U g mk q => by obtain ⟨q0, qP, qK⟩ := q; exact ⟨q0, qP, va_K.moved (u := U) (U := U.calling g mk a) (Vm.Alike.refl U.vm) qK⟩, va_recv hK hPc (ci := 12) (q0 := 0) rfl rfl, fun U hU hW => ⟨rfl, by rw [hU]; exact hPc, va_K.moved hW.alike hK⟩⟩ rfl rfl hl.1 rfl (lv_room (Nat.le_of_ble_eq_true rfl)) dX12_areTwo_12 ⟨Nat.le_of_ble_eq_true rfl, Nat.le_of_ble_eq_true rfl⟩)) (fun rz9 gz8 => ?_)
    clear hPc
    obtain ⟨pz10, pz11⟩ := gz8
    have pz10 : rz9.toInt = 0 ∨ rz9.toInt = 1 := by first | exact pz10 | (simp only [Int32.toInt_toInt64] at pz10; exact pz10)
    have pz11 : rz9.toInt = 0 ∨ (0 ≤ p2.toInt ∧ p2.toInt ≤ 6) := by first | exact pz11 | (simp only [Int32.toInt_toInt64] at pz11; exact pz11)
    refine lv_if_eq (tgt := 27) hx hb dX12_areTwo_15 (by decide) (fun cz12 => ?_) (fun cz12 => ?_)
    · skip
      have zz13 : rz9.toInt = (0 : Int) := zi_eq.mp cz12
      refine lv_iconst (v := 0) hx hb dX12_areTwo_27 (by decide) ?_
      rw [hQ]
      exact W.zret (v := (0 : Int32)) hx hb hr rfl (fun t ht hW => ⟨(0 : Int32), rfl, ⟨(by show (0 : Int) = 0 ∨ (0 : Int) = 1; omega), (by show (0 : Int) = 0 ∨ (0 ≤ p1.toInt ∧ p1.toInt ≤ 6 ∧ 0 ≤ p2.toInt ∧ p2.toInt ≤ 6); omega)⟩, ht⟩) (fun _ h => absurd h List.not_mem_nil) dX12_areTwo_28
    · skip
      have zz14 : ¬ rz9.toInt = (0 : Int) := fun h9 => cz12 (zi_eq.mpr h9)
      refine lv_iload_n hx hb dX12_areTwo_18 rfl (lv_at hl 1 rfl) ?_
      refine lv_iload_n hx hb dX12_areTwo_19 rfl (lv_at hl 2 rfl) ?_
      refine lv_icmp_eq (tgt := 27) hx hb dX12_areTwo_20 (by decide) (fun cz15 => ?_) (fun cz15 => ?_)
      · skip
        have zz16 : p1.toInt = p2.toInt := zi_eq.mp cz15
        refine lv_iconst (v := 0) hx hb dX12_areTwo_27 (by decide) ?_
        rw [hQ]
        exact W.zret (v := (0 : Int32)) hx hb hr rfl (fun t ht hW => ⟨(0 : Int32), rfl, ⟨(by show (0 : Int) = 0 ∨ (0 : Int) = 1; omega), (by show (0 : Int) = 0 ∨ (0 ≤ p1.toInt ∧ p1.toInt ≤ 6 ∧ 0 ≤ p2.toInt ∧ p2.toInt ≤ 6); omega)⟩, ht⟩) (fun _ h => absurd h List.not_mem_nil) dX12_areTwo_28
      · skip
        have zz17 : ¬ p1.toInt = p2.toInt := fun h9 => cz15 (zi_eq.mpr h9)
        refine lv_iconst (v := 1) hx hb dX12_areTwo_23 (by decide) ?_
        refine lv_goto (tgt := 28) hx hb dX12_areTwo_24 (by decide) ?_
        rw [hQ]
        exact W.zret (v := (1 : Int32)) hx hb hr rfl (fun t ht hW => ⟨(1 : Int32), rfl, ⟨(by show (1 : Int) = 0 ∨ (1 : Int) = 1; omega), (by show (1 : Int) = 0 ∨ (0 ≤ p1.toInt ∧ p1.toInt ≤ 6 ∧ 0 ≤ p2.toInt ∧ p2.toInt ≤ 6); omega)⟩, ht⟩) (fun _ h => absurd h List.not_mem_nil) dX12_areTwo_28
def wk_c_X12_isThen : List Cond := .code yX12_isThen cX12_isThen 3 (some .boolean) :: ([.methodLink RX12 292 yX12_isBridge, .instanceMethod yX12_isBridge, .selects RX12 yX12_isBridge yX12_isBridge, .initialized RX12, .methodLink RX12 289 yX12_isCart, .instanceMethod yX12_isCart, .selects RX12 yX12_isCart yX12_isCart] ++ (wk_c_X12_isBridge ++ (wk_c_X12_isCart ++ [])))
theorem wkg_c_X12_isThen : wk_c_X12_isThen.all goodWord = true := by decide +kernel
set_option maxHeartbeats 4000000 in
set_option maxRecDepth 100000 in
theorem c_X12_isThen (l : Launch) (dC : Nat → ClassId) (dI : Nat → Nat → Nat) (k : Nat → ClassId) (qO : Nat → Nat) (widthO : Nat) (manyO : Nat) (cellsO : Nat) (movedO : Nat) (tapeO : Nat) (linesO : Nat) (bridgeO : Nat) (cartO : Nat) (wardO : Nat) (frostAtO : Nat) (actO : Nat) (isKeptO : Nat) (loadNowO : Nat) (byNowO : Nat) (rowO : Nat) (memoryO : Nat) (whoseO : Nat) (deepNowO : Nat) (brokenByO : Nat) (brokenAtO : Nat) (goesByO : Nat) (comesToO : Nat) (sagMoreO : Nat) (creakOfO : Nat) (wipedByO : Nat) (deepAtO : Nat) (sagAtO : Nat) (loadAtO : Nat) (orderRowO : Nat) (oftenO : Nat) (lossOneO : Nat) (lossOtherO : Nat) (vO : Nat → Int32) (tO : Nat → Int32) (mO : Nat → Int32) (gO : Nat → Int64) (qHa : Nat → Nat) (hHa : Nat → Nat → Int32) (p1 : Int32) (p2 : Int32) (htO : Rg 0 700 tO) (hmO : Rg (-1) 127 mO) (hhHa : Pa_h hHa) : Met l yX12_isThen wk_c_X12_isThen ({ frames := 2, cells := 0, slots := 0, locals := 47 }) (va_Pc [.ref (qO 0), .int p1, .int p2] (fun U => va_P (dC, dI) vwCl (List.flatten [(wMO qO k widthO manyO cellsO movedO tapeO linesO (qHa 0) bridgeO cartO wardO frostAtO actO isKeptO loadNowO byNowO rowO memoryO whoseO deepNowO brokenByO brokenAtO goesByO comesToO sagMoreO creakOfO wipedByO deepAtO sagAtO loadAtO orderRowO oftenO lossOneO lossOtherO vO tO mO gO), (wmHa qHa k hHa)]) U.heap ∧ va_K (dC, dI) vwCl (tK k) U)) (vp_Si (fun r : Int32 => (r.toInt = 0 ∨ r.toInt = 1) ∧ (r.toInt = 0 ∨ (0 ≤ p1.toInt ∧ p1.toInt ≤ 2 ∧ 0 ≤ p2.toInt ∧ p2.toInt ≤ 6)))) 0 0 (fun _ => False) := by
  refine Met.ofW (cc := cX12_isThen) (maxL := 3) (ret := (some .boolean)) (by decide) rfl ?_
  intro p e s m args below meth c s₁ B hml hv
  obtain ⟨rfl, hP, hK⟩ := hv
  have hx := B.exec
  have hb := B.bytes
  have hr := B.returns
  have hts := atoms_spec (ws := wk_c_X12_isThen) B.pre
  have hown : s.vm.findClass RX12 = some m.cls := findClass_of_methodNamed B.named
  have hlocks := B.notSynchronized
  have hP : va_P (dC, dI) vwCl (List.flatten [(wMO qO k widthO manyO cellsO movedO tapeO linesO (qHa 0) bridgeO cartO wardO frostAtO actO isKeptO loadNowO byNowO rowO memoryO whoseO deepNowO brokenByO brokenAtO goesByO comesToO sagMoreO creakOfO wipedByO deepAtO sagAtO loadAtO orderRowO oftenO lossOneO lossOtherO vO tO mO gO), (wmHa qHa k hHa)]) s.heap := hP
  have hl := lv_entry ([.ref (qO 0), .int p1, .int p2]) (n := 3) (Nat.le_of_ble_eq_true rfl)
  rw [lg_entry_eq]
  generalize (lg_sl ([.ref (qO 0), .int p1, .int p2]) ++ List.replicate (3 - (lg_sl ([.ref (qO 0), .int p1, .int p2])).length) Slot.unset).toArray = ls at hl ⊢
  have hl : lv_has ls 3 [(0, .ref (qO 0)), (1, .int p1), (2, .int p2)] := hl
  refine w_gen (fun Q hQ => ?_)
  refine lv_aload_n hx hb dX12_isThen_0 rfl (lv_at hl 0 rfl) ?_
  refine lv_iload_n hx hb dX12_isThen_1 rfl (lv_at hl 1 rfl) ?_
  refine lv_i2l hx hb dX12_isThen_2 rfl ?_
  have hPc := hP
  refine vp_callSi (va_Run.run (va_runV (As := [.long p1.toInt64]) (rest := []) ⟨hx, hb, hml, hown, hts⟩ (c_X12_isBridge l dC dI k qO widthO manyO cellsO movedO tapeO linesO bridgeO cartO wardO frostAtO actO isKeptO loadNowO byNowO rowO memoryO whoseO deepNowO brokenByO brokenAtO goesByO comesToO sagMoreO creakOfO wipedByO deepAtO sagAtO loadAtO orderRowO oftenO lossOneO lossOtherO vO tO mO gO qHa hHa p1.toInt64 htO hmO hhHa) (cwV 1 hts (gk_V (wl_mem 0 rfl) (wl_mem 1 rfl) (wl_mem 2 rfl) (wl_mem 3 rfl) (fun w h => List.mem_cons_of_mem _ (List.mem_append_right _ (List.mem_append_left _ h))) wkg_c_X12_isBridge) rfl rfl rfl (by decide +kernel) ⟨Nat.le_of_ble_eq_true rfl, Nat.le_of_ble_eq_true rfl⟩) ⟨fun a U g mk q => by obtain ⟨q0, qP, qK⟩ := q; exact ⟨q0, qP, va_K.moved (u := U) (U := U.calling g mk a) (Vm.Alike.refl U.vm) qK⟩, va_recv hK hPc (ci := 12) (q0 := 0) rfl rfl, fun U hU hW => ⟨rfl, by rw [hU]; exact hPc, va_K.moved hW.alike hK⟩⟩ rfl rfl hl.1 rfl (lv_room (Nat.le_of_ble_eq_true rfl)) dX12_isThen_3 ⟨Nat.le_of_ble_eq_true rfl, Nat.le_of_ble_eq_true rfl⟩)) (fun rz2 gz1 => ?_)
  clear hPc
  obtain ⟨pz3, pz4⟩ := gz1
  have pz3 : rz2.toInt = 0 ∨ rz2.toInt = 1 := by first | exact pz3 | (simp only [Int32.toInt_toInt64] at pz3; exact pz3)
  have pz4 : rz2.toInt = 0 ∨ (0 ≤ p1.toInt ∧ p1.toInt ≤ 2) := by first | exact pz4 | (simp only [Int32.toInt_toInt64] at pz4; exact pz4)
  refine lv_if_eq (tgt := 22) hx hb dX12_isThen_6 (by decide) (fun cz5 => ?_) (fun cz5 => ?_)
  · skip
    have zz6 : rz2.toInt = (0 : Int) := zi_eq.mp cz5
    refine lv_iconst (v := 0) hx hb dX12_isThen_22 (by decide) ?_
    rw [hQ]
    exact W.zret (v := (0 : Int32)) hx hb hr rfl (fun t ht hW => ⟨(0 : Int32), rfl, ⟨(by show (0 : Int) = 0 ∨ (0 : Int) = 1; omega), (by show (0 : Int) = 0 ∨ (0 ≤ p1.toInt ∧ p1.toInt ≤ 2 ∧ 0 ≤ p2.toInt ∧ p2.toInt ≤ 6); omega)⟩, ht⟩) (fun _ h => absurd h List.not_mem_nil) dX12_isThen_23
  · skip
    have zz7 : ¬ rz2.toInt = (0 : Int) := fun h9 => cz5 (zi_eq.mpr h9)
    refine lv_aload_n hx hb dX12_isThen_9 rfl (lv_at hl 0 rfl) ?_
    refine lv_iload_n hx hb dX12_isThen_10 rfl (lv_at hl 2 rfl) ?_
    refine lv_i2l hx hb dX12_isThen_11 rfl ?_
    have hPc := hP
    refine vp_callSi (va_Run.run (va_runV (As := [.long p2.toInt64]) (rest := []) ⟨hx, hb, hml, hown, hts⟩ (c_X12_isCart l dC dI k qO widthO manyO cellsO movedO tapeO linesO bridgeO cartO wardO frostAtO actO isKeptO loadNowO byNowO rowO memoryO whoseO deepNowO brokenByO brokenAtO goesByO comesToO sagMoreO creakOfO wipedByO deepAtO sagAtO loadAtO orderRowO oftenO lossOneO lossOtherO vO tO mO gO qHa hHa p2.toInt64 htO hmO hhHa) (cwV 1 hts (gk_V (wl_mem 4 rfl) (wl_mem 5 rfl) (wl_mem 6 rfl) (wl_mem 3 rfl) (fun w h => List.mem_cons_of_mem _ (List.mem_append_right _ (List.mem_append_right _ (List.mem_append_left _ h)))) wkg_c_X12_isCart) rfl rfl rfl (by decide +kernel) ⟨Nat.le_of_ble_eq_true rfl, Nat.le_of_ble_eq_true rfl⟩) ⟨fun a U g mk q => by obtain ⟨q0, qP, qK⟩ := q; exact ⟨q0, qP, va_K.moved (u := U) (U := U.calling g mk a) (Vm.Alike.refl U.vm) qK⟩, va_recv hK hPc (ci := 12) (q0 := 0) rfl rfl, fun U hU hW => ⟨rfl, by rw [hU]; exact hPc, va_K.moved hW.alike hK⟩⟩ rfl rfl hl.1 rfl (lv_room (Nat.le_of_ble_eq_true rfl)) dX12_isThen_12 ⟨Nat.le_of_ble_eq_true rfl, Nat.le_of_ble_eq_true rfl⟩)) (fun rz9 gz8 => ?_)
    clear hPc
    obtain ⟨pz10, pz11⟩ := gz8
    have pz10 : rz9.toInt = 0 ∨ rz9.toInt = 1 := by first | exact pz10 | (simp only [Int32.toInt_toInt64] at pz10; exact pz10)
    have pz11 : rz9.toInt = 0 ∨ (0 ≤ p2.toInt ∧ p2.toInt ≤ 6) := by first | exact pz11 | (simp only [Int32.toInt_toInt64] at pz11; exact pz11)
    refine lv_if_eq (tgt := 22) hx hb dX12_isThen_15 (by decide) (fun cz12 => ?_) (fun cz12 => ?_)
    · skip
      have zz13 : rz9.toInt = (0 : Int) := zi_eq.mp cz12
      refine lv_iconst (v := 0) hx hb dX12_isThen_22 (by decide) ?_
      rw [hQ]
      exact W.zret (v := (0 : Int32)) hx hb hr rfl (fun t ht hW => ⟨(0 : Int32), rfl, ⟨(by show (0 : Int) = 0 ∨ (0 : Int) = 1; omega), (by show (0 : Int) = 0 ∨ (0 ≤ p1.toInt ∧ p1.toInt ≤ 2 ∧ 0 ≤ p2.toInt ∧ p2.toInt ≤ 6); omega)⟩, ht⟩) (fun _ h => absurd h List.not_mem_nil) dX12_isThen_23
    · skip
      have zz14 : ¬ rz9.toInt = (0 : Int) := fun h9 => cz12 (zi_eq.mpr h9)
      refine lv_iconst (v := 1) hx hb dX12_isThen_18 (by decide) ?_
      refine lv_goto (tgt := 23) hx hb dX12_isThen_19 (by decide) ?_
      rw [hQ]
      exact W.zret (v := (1 : Int32)) hx hb hr rfl (fun t ht hW => ⟨(1 : Int32), rfl, ⟨(by show (1 : Int) = 0 ∨ (1 : Int) = 1; omega), (by show (1 : Int) = 0 ∨ (0 ≤ p1.toInt ∧ p1.toInt ≤ 2 ∧ 0 ≤ p2.toInt ∧ p2.toInt ≤ 6); omega)⟩, ht⟩) (fun _ h => absurd h List.not_mem_nil) dX12_isThen_23
def wk_c_X12_sizeOf : List Cond := .code yX12_sizeOf cX12_sizeOf 3 (some .int) :: ([] ++ ([]))
theorem wkg_c_X12_sizeOf : wk_c_X12_sizeOf.all goodWord = true := by decide +kernel
set_option maxHeartbeats 4000000 in
set_option maxRecDepth 100000 in
theorem c_X12_sizeOf (l : Launch) (dC : Nat → ClassId) (dI : Nat → Nat → Nat) (k : Nat → ClassId) (p1 : Int32) (hp0 : 0 ≤ p1.toInt ∧ p1.toInt ≤ 127) : Met l yX12_sizeOf wk_c_X12_sizeOf ({ frames := 0, cells := 0, slots := 0, locals := 0 }) (va_Pc [.int p1] (fun U => va_P (dC, dI) vwCl (List.flatten ([] : List va_W)) U.heap ∧ va_K (dC, dI) vwCl (tK k) U)) (vp_Si (fun r : Int32 => (0 ≤ r.toInt ∧ r.toInt ≤ 127))) 0 0 (fun _ => False) := by
  refine Met.ofW (cc := cX12_sizeOf) (maxL := 3) (ret := (some .int)) (by decide) rfl ?_
  intro p e s m args below meth c s₁ B hml hv
  obtain ⟨rfl, hP, hK⟩ := hv
  have hx := B.exec
  have hb := B.bytes
  have hr := B.returns
  have hts := atoms_spec (ws := wk_c_X12_sizeOf) B.pre
  have hown : s.vm.findClass RX12 = some m.cls := findClass_of_methodNamed B.named
  have hlocks := B.notSynchronized
  have hP : va_P (dC, dI) vwCl (List.flatten ([] : List va_W)) s.heap := hP
  have hl := lv_entry ([.int p1]) (n := 3) (Nat.le_of_ble_eq_true rfl)
  rw [lg_entry_eq]
  generalize (lg_sl ([.int p1]) ++ List.replicate (3 - (lg_sl ([.int p1])).length) Slot.unset).toArray = ls at hl ⊢
  have hl : lv_has ls 3 [(0, .int p1)] := hl
  refine w_gen (fun Q hQ => ?_)
  refine lv_iconst (v := 0) hx hb dX12_sizeOf_0 (by decide) ?_
  refine lv_istore_n (lv' := [(1, .int 0), (0, .int p1)]) hx hb dX12_sizeOf_1 rfl hl (by decide) rfl (fun ls hl => ?_)
  refine lv_iload_n hx hb dX12_sizeOf_2 rfl (lv_at hl 1 rfl) ?_
  refine lv_istore_n (lv' := [(2, .int p1), (1, .int 0), (0, .int p1)]) hx hb dX12_sizeOf_3 rfl hl (by decide) rfl (fun ls hl => ?_)
  have lp4_kz11 : ∀ (n9_4 : Nat) (ls : Array Slot) (xz9 : Int32) (xz10 : Int32), (xz10.toInt).toNat < n9_4 → 0 ≤ xz9.toInt ∧ xz9.toInt ≤ 127 → 0 ≤ xz10.toInt ∧ xz9.toInt + xz10.toInt ≤ p1.toInt → lv_has ls 3 [(1, .int xz9), (2, .int xz10)] → W p l e (headSpec wk_c_X12_sizeOf ({ frames := 0, cells := 0, slots := 0, locals := 0 })).room s m ([.int p1] : List Value).toArray below meth c s.heap [] 0 0 Q (F0 m 4 ls []) := by
    intro n9_4
    induction n9_4 with
    | zero => intro ls xz9 xz10 hm; exact absurd hm (Nat.not_lt_zero _)
    | succ n9_4 ih4 =>
      intro ls xz9 xz10 hm4 jz12 jz13 hl
      refine lv_iload_n hx hb dX12_sizeOf_4 rfl (lv_at hl 1 rfl) ?_
      refine lv_if_eq (tgt := 20) hx hb dX12_sizeOf_5 (by decide) (fun cz14 => ?_) (fun cz14 => ?_)
      · skip
        have zz15 : xz10.toInt = (0 : Int) := zi_eq.mp cz14
        refine lv_iload_n hx hb dX12_sizeOf_20 rfl (lv_at hl 0 rfl) ?_
        rw [hQ]
        exact W.iret (v := xz9) hx hb hr (fun t ht hW => ⟨xz9, rfl, (by show 0 ≤ xz9.toInt ∧ xz9.toInt ≤ 127; omega), ht⟩) (fun _ h => absurd h List.not_mem_nil) dX12_sizeOf_21
      · skip
        have zz16 : ¬ xz10.toInt = (0 : Int) := fun h9 => cz14 (zi_eq.mpr h9)
        obtain ⟨xz17, exz17⟩ : ∃ y : Int32, y = xz9 + Int32.ofInt (1) := ⟨_, rfl⟩
        have fxz17 : xz17.toInt = xz9.toInt + (1) := by rw [exz17]; exact fb_addI (y := Int32.ofInt (1)) (by show -2147483648 ≤ xz9.toInt + (1); omega) (by show xz9.toInt + (1) < 2147483648; omega)
        refine lv_iinc (v := xz17) (lv' := [(1, .int xz17), (2, .int xz10)]) hx hb dX12_sizeOf_8 hl (k := 0) rfl exz17.symm (by decide) rfl (fun ls hl => ?_)
        refine lv_iload_n hx hb dX12_sizeOf_11 rfl (lv_at hl 1 rfl) ?_
        refine lv_iload_n hx hb dX12_sizeOf_12 rfl (lv_at hl 1 rfl) ?_
        refine lv_iconst (v := 1) hx hb dX12_sizeOf_13 (by decide) ?_
        refine lv_isub hx hb dX12_sizeOf_14 ?_
        refine lv_topi (fun xz18 exz18 => ?_)
        refine lv_iand hx hb dX12_sizeOf_15 ?_
        refine lv_topi (fun xz19 exz19 => ?_)
        have bxz19 : 0 ≤ xz19.toInt ∧ xz19.toInt ≤ xz10.toInt - 1 := by rw [exz19, exz18]; exact zpop (by omega)
        refine lv_istore_n (lv' := [(2, .int xz19), (1, .int xz17)]) hx hb dX12_sizeOf_16 rfl hl (by decide) rfl (fun ls hl => ?_)
        refine lv_goto (tgt := 4) hx hb dX12_sizeOf_17 (by decide) ?_
        exact ih4 ls xz17 xz19 (by show (xz19.toInt).toNat < n9_4; omega) (by show 0 ≤ xz17.toInt ∧ xz17.toInt ≤ 127; omega) (by show 0 ≤ xz19.toInt ∧ xz17.toInt + xz19.toInt ≤ p1.toInt; omega) (lv_sub hl [1, 0] rfl)
  exact lp4_kz11 _ ls (0 : Int32) p1 (Nat.lt_succ_self _) (by show 0 ≤ (0 : Int) ∧ (0 : Int) ≤ 127; omega) (by show 0 ≤ p1.toInt ∧ (0 : Int) + p1.toInt ≤ p1.toInt; omega) (lv_sub hl [1, 0] rfl)
def wk_c_X12_row : List Cond := .code yX12_row cX12_row 5 (some .int) :: ([.fieldLink RX12 116 "SagMemoryModel" "thrown" "I", .methodLink RX12 125 yX12_isSlot, .static yX12_isSlot, .initialized RX12, .constantLong RX12 119 (3), .methodLink RX12 121 yX12_in, .static yX12_in, .fieldLink RX12 7 "SagMemoryModel" "width" "[I", .fieldLink RX12 13 "SagMemoryModel" "many" "[I", .fieldLink RX12 16 "SagMemoryModel" "cells" "[J"] ++ (wsX120 ++ (wk_c_X12_isSlot ++ (wk_c_X12_in ++ []))))
theorem wkg_c_X12_row : wk_c_X12_row.all goodWord = true := by decide +kernel
set_option maxHeartbeats 4000000 in
set_option maxRecDepth 100000 in
theorem c_X12_row (l : Launch) (dC : Nat → ClassId) (dI : Nat → Nat → Nat) (k : Nat → ClassId) (sz : Nat) (qO : Nat → Nat) (movedO : Nat) (tapeO : Nat) (linesO : Nat) (hasO : Nat) (bridgeO : Nat) (cartO : Nat) (wardO : Nat) (frostAtO : Nat) (actO : Nat) (isKeptO : Nat) (loadNowO : Nat) (byNowO : Nat) (rowO : Nat) (memoryO : Nat) (whoseO : Nat) (deepNowO : Nat) (brokenByO : Nat) (brokenAtO : Nat) (goesByO : Nat) (comesToO : Nat) (sagMoreO : Nat) (creakOfO : Nat) (wipedByO : Nat) (deepAtO : Nat) (sagAtO : Nat) (loadAtO : Nat) (orderRowO : Nat) (oftenO : Nat) (lossOneO : Nat) (lossOtherO : Nat) (vO : Nat → Int32) (tO : Nat → Int32) (mO : Nat → Int32) (gO : Nat → Int64) (qWi : Nat → Nat) (aWi : Nat → Nat → Int32) (qMy : Nat → Nat) (zMy : Nat → Nat → Int32) (qCe : Nat → Nat) (lCe : Nat → Nat → Int64) (p1 : Int32) (p2 : Int32) (p3 : Int32) (htO : Rg 0 700 tO) (hmO : Rg (-1) 127 mO) (hzMy : RgA 0 60 zMy) : Met l yX12_row wk_c_X12_row ({ frames := 2, cells := 0, slots := 0, locals := 45 }) (va_Pc [.ref (qO 0), .int p1, .int p2, .int p3] (fun U => U.heap.size = sz ∧ va_P (dC, dI) vwCl (List.flatten [(wMO qO k (qWi 0) (qMy 0) (qCe 0) movedO tapeO linesO hasO bridgeO cartO wardO frostAtO actO isKeptO loadNowO byNowO rowO memoryO whoseO deepNowO brokenByO brokenAtO goesByO comesToO sagMoreO creakOfO wipedByO deepAtO sagAtO loadAtO orderRowO oftenO lossOneO lossOtherO vO tO mO gO), (wmWi qWi k aWi), (wmMy qMy k zMy), (wmCe qCe k lCe)] ++ List.flatten ([] : List va_W)) U.heap ∧ va_K (dC, dI) vwCl (tK k) U ∧ va_D (fun _ => True) (List.flatten [(wMO qO k (qWi 0) (qMy 0) (qCe 0) movedO tapeO linesO hasO bridgeO cartO wardO frostAtO actO isKeptO loadNowO byNowO rowO memoryO whoseO deepNowO brokenByO brokenAtO goesByO comesToO sagMoreO creakOfO wipedByO deepAtO sagAtO loadAtO orderRowO oftenO lossOneO lossOtherO vO tO mO gO), (wmWi qWi k aWi), (wmMy qMy k zMy), (wmCe qCe k lCe)] ++ List.flatten ([] : List va_W)))) (va_Qi (fun (r : Int32) (_ : Unit) => True) (fun (_ : Unit) (t : State) => ∃ (vO' : Nat → Int32) (tO' : Nat → Int32) (mO' : Nat → Int32) (gO' : Nat → Int64) (aWi' : Nat → Nat → Int32) (zMy' : Nat → Nat → Int32) (lCe' : Nat → Nat → Int64), Rg 0 700 tO' ∧ Rg (-1) 127 mO' ∧ RgA 0 60 zMy' ∧ va_P (dC, dI) vwCl (List.flatten [(wMO qO k (qWi 0) (qMy 0) (qCe 0) movedO tapeO linesO hasO bridgeO cartO wardO frostAtO actO isKeptO loadNowO byNowO rowO memoryO whoseO deepNowO brokenByO brokenAtO goesByO comesToO sagMoreO creakOfO wipedByO deepAtO sagAtO loadAtO orderRowO oftenO lossOneO lossOtherO vO' tO' mO' gO'), (wmWi qWi k aWi'), (wmMy qMy k zMy'), (wmCe qCe k lCe')] ++ List.flatten ([] : List va_W)) t.heap) (va_A (List.flatten [(wMO qO k (qWi 0) (qMy 0) (qCe 0) movedO tapeO linesO hasO bridgeO cartO wardO frostAtO actO isKeptO loadNowO byNowO rowO memoryO whoseO deepNowO brokenByO brokenAtO goesByO comesToO sagMoreO creakOfO wipedByO deepAtO sagAtO loadAtO orderRowO oftenO lossOneO lossOtherO vO tO mO gO), (wmWi qWi k aWi), (wmMy qMy k zMy), (wmCe qCe k lCe)] ++ List.flatten ([] : List va_W)) sz)) 0 0 (va_A (List.flatten [(wMO qO k (qWi 0) (qMy 0) (qCe 0) movedO tapeO linesO hasO bridgeO cartO wardO frostAtO actO isKeptO loadNowO byNowO rowO memoryO whoseO deepNowO brokenByO brokenAtO goesByO comesToO sagMoreO creakOfO wipedByO deepAtO sagAtO loadAtO orderRowO oftenO lossOneO lossOtherO vO tO mO gO), (wmWi qWi k aWi), (wmMy qMy k zMy), (wmCe qCe k lCe)] ++ List.flatten ([] : List va_W)) sz) := by
  refine Met.ofW (cc := cX12_row) (maxL := 5) (ret := (some .int)) (by decide) rfl ?_
  intro p e s m args below meth c s₁ B hml hv
  obtain ⟨rfl, hsz, hP, hK, hD0⟩ := hv
  have hx := B.exec
  have hb := B.bytes
  have hr := B.returns
  have hts := atoms_spec (ws := wk_c_X12_row) B.pre
  have hown : s.vm.findClass RX12 = some m.cls := findClass_of_methodNamed B.named
  have hlocks := B.notSynchronized
  subst hsz
  have hD := hD0.self (sz := s.heap.size)
  generalize hAe : va_A (List.flatten [(wMO qO k (qWi 0) (qMy 0) (qCe 0) movedO tapeO linesO hasO bridgeO cartO wardO frostAtO actO isKeptO loadNowO byNowO rowO memoryO whoseO deepNowO brokenByO brokenAtO goesByO comesToO sagMoreO creakOfO wipedByO deepAtO sagAtO loadAtO orderRowO oftenO lossOneO lossOtherO vO tO mO gO), (wmWi qWi k aWi), (wmMy qMy k zMy), (wmCe qCe k lCe)] ++ List.flatten ([] : List va_W)) s.heap.size = A at hD ⊢
  have hA : ∀ q : Nat, s.heap.size ≤ q → A q := fun q h => by rw [← hAe]; exact Or.inr h
  have hS : va_S A s.heap s.heap [] := va_S.rf
  have hP : va_P (dC, dI) vwCl (List.flatten [(wMO qO k (qWi 0) (qMy 0) (qCe 0) movedO tapeO linesO hasO bridgeO cartO wardO frostAtO actO isKeptO loadNowO byNowO rowO memoryO whoseO deepNowO brokenByO brokenAtO goesByO comesToO sagMoreO creakOfO wipedByO deepAtO sagAtO loadAtO orderRowO oftenO lossOneO lossOtherO vO tO mO gO), (wmWi qWi k aWi), (wmMy qMy k zMy), (wmCe qCe k lCe)] ++ List.flatten ([] : List va_W)) s.heap := hP
  have hl := lv_entry ([.ref (qO 0), .int p1, .int p2, .int p3]) (n := 5) (Nat.le_of_ble_eq_true rfl)
  rw [lg_entry_eq]
  generalize (lg_sl ([.ref (qO 0), .int p1, .int p2, .int p3]) ++ List.replicate (5 - (lg_sl ([.ref (qO 0), .int p1, .int p2, .int p3])).length) Slot.unset).toArray = ls at hl ⊢
  have hl : lv_has ls 5 [(0, .ref (qO 0)), (1, .int p1), (2, .int p2), (3, .int p3)] := hl
  refine w_gen (fun Q hQ => ?_)
  refine lv_aload_n hx hb dX12_row_0 rfl (lv_at hl 0 rfl) ?_
  refine lv_iconst (v := 0) hx hb dX12_row_1 (by decide) ?_
  refine va_put (D := (dC, dI)) (ci := 12) (v := .int 0) (ty := .int) (C := RX12) (T := TX12) (N := 59) hx hb hts (fun w h => List.mem_cons_of_mem _ (List.mem_append_right _ (List.mem_append_left _ h))) tyX12 tyX12_ok nmX12 hown hK hP hD hS 0 rfl rfl 0 (by decide) (hts (.fieldLink RX12 116 "SagMemoryModel" "thrown" "I") (wl_mem 0 rfl)) (fun _ h9 => h9) rfl (by decide +kernel) rfl rfl (Nat.le_of_ble_eq_true rfl) dX12_row_2 (fun H locs hP hD hS => ?_)
  have hP : va_P (dC, dI) vwCl (List.flatten [(wMO qO k (qWi 0) (qMy 0) (qCe 0) movedO tapeO linesO hasO bridgeO cartO wardO frostAtO actO isKeptO loadNowO byNowO rowO memoryO whoseO deepNowO brokenByO brokenAtO goesByO comesToO sagMoreO creakOfO wipedByO deepAtO sagAtO loadAtO orderRowO oftenO lossOneO lossOtherO (va_up vO 0 (0 : Int32)) tO mO gO), (wmWi qWi k aWi), (wmMy qMy k zMy), (wmCe qCe k lCe)] ++ List.flatten ([] : List va_W)) H := hP
  have hD : va_D A (List.flatten [(wMO qO k (qWi 0) (qMy 0) (qCe 0) movedO tapeO linesO hasO bridgeO cartO wardO frostAtO actO isKeptO loadNowO byNowO rowO memoryO whoseO deepNowO brokenByO brokenAtO goesByO comesToO sagMoreO creakOfO wipedByO deepAtO sagAtO loadAtO orderRowO oftenO lossOneO lossOtherO (va_up vO 0 (0 : Int32)) tO mO gO), (wmWi qWi k aWi), (wmMy qMy k zMy), (wmCe qCe k lCe)] ++ List.flatten ([] : List va_W)) := hD
  refine lv_iload_n hx hb dX12_row_5 rfl (lv_at hl 1 rfl) ?_
  have hPc : va_P (dC, dI) vwCl (List.flatten ([] : List va_W)) H := fun k q h => by simp at h
  refine vp_callSi (va_Run.run (va_runS (As := [.int p1]) (rest := []) ⟨hx, hb, hml, hown, hts⟩ (c_X12_isSlot l dC dI k p1) (va_cwS 1 hts (gk_S (wl_mem 1 rfl) (wl_mem 2 rfl) (wl_mem 3 rfl) (fun w h => List.mem_cons_of_mem _ (List.mem_append_right _ (List.mem_append_right _ (List.mem_append_left _ h)))) wkg_c_X12_isSlot) rfl rfl rfl (by decide +kernel) ⟨Nat.le_of_ble_eq_true rfl, Nat.le_of_ble_eq_true rfl⟩) ⟨fun a U g mk q => by obtain ⟨q0, qP, qK⟩ := q; exact ⟨q0, qP, va_K.moved (u := U) (U := U.calling g mk a) (Vm.Alike.refl U.vm) qK⟩, fun U hU hW => ⟨rfl, by rw [hU]; exact hPc, va_K.moved hW.alike hK⟩⟩ rfl rfl hl.1 rfl (lv_room (Nat.le_of_ble_eq_true rfl)) dX12_row_6 ⟨Nat.le_of_ble_eq_true rfl, Nat.le_of_ble_eq_true rfl⟩)) (fun rz2 gz1 => ?_)
  clear hPc
  rcases gz1 with ⟨er, cz3⟩ | ⟨er, cz4, cz5⟩ | ⟨er, cz6, cz7⟩
  · obtain rfl := er.symm
    have zz8 : p1.toInt < (0 : Int) := by have h9 := zi_ltL.mp cz3; simp only [Int32.toInt_toInt64] at h9; exact h9
    refine lv_if_eq (tgt := 30) hx hb dX12_row_9 (by decide) (fun cz9 => ?_) (fun cz9 => ?_)
    · skip
      refine lv_bipush (v := (-2)) hx hb dX12_row_30 (by decide) ?_
      rw [hQ]
      exact W.iret (v := (-2 : Int32)) hx hb hr (fun t ht hW => ⟨⟨(-2 : Int32), (), rfl, trivial, (va_up vO 0 (0 : Int32)), tO, mO, gO, aWi, zMy, lCe, htO, hmO, hzMy, by rw [ht]; exact hP⟩, hS.F ht⟩) hS.2.2 dX12_row_32
    · skip
      exact absurd cz9 (by decide)
  · obtain rfl := er.symm
    have zz10 : ¬ p1.toInt < (0 : Int) := by intro h9; apply cz4; rw [zi_ltL]; simp only [Int32.toInt_toInt64]; exact h9
    have zz11 : (3 : Int) < p1.toInt := by have h9 := zi_ltL.mp cz5; simp only [Int32.toInt_toInt64] at h9; exact h9
    refine lv_if_eq (tgt := 30) hx hb dX12_row_9 (by decide) (fun cz12 => ?_) (fun cz12 => ?_)
    · skip
      refine lv_bipush (v := (-2)) hx hb dX12_row_30 (by decide) ?_
      rw [hQ]
      exact W.iret (v := (-2 : Int32)) hx hb hr (fun t ht hW => ⟨⟨(-2 : Int32), (), rfl, trivial, (va_up vO 0 (0 : Int32)), tO, mO, gO, aWi, zMy, lCe, htO, hmO, hzMy, by rw [ht]; exact hP⟩, hS.F ht⟩) hS.2.2 dX12_row_32
    · skip
      exact absurd cz12 (by decide)
  · obtain rfl := er.symm
    have zz13 : ¬ p1.toInt < (0 : Int) := by intro h9; apply cz6; rw [zi_ltL]; simp only [Int32.toInt_toInt64]; exact h9
    have zz14 : ¬ (3 : Int) < p1.toInt := by intro h9; apply cz7; rw [zi_ltL]; simp only [Int32.toInt_toInt64]; exact h9
    refine lv_if_eq (tgt := 30) hx hb dX12_row_9 (by decide) (fun cz15 => ?_) (fun cz15 => ?_)
    · skip
      exact absurd cz15 (by decide)
    · skip
      refine lv_iload_n hx hb dX12_row_12 rfl (lv_at hl 2 rfl) ?_
      refine lv_i2l hx hb dX12_row_13 rfl ?_
      refine lv_lconst (v := 0) hx hb dX12_row_14 (by decide) ?_
      refine lv_ldc2 (v := 3) hx hb hown (hts (.constantLong RX12 119 (3)) (wl_mem 4 rfl)) dX12_row_15 ?_
      have hPc : va_P (dC, dI) vwCl (List.flatten ([] : List va_W)) H := fun k q h => by simp at h
      refine vp_callSi (va_Run.run (va_runS (As := [.long p2.toInt64, .long 0, .long 3]) (rest := []) ⟨hx, hb, hml, hown, hts⟩ (c_X12_in l dC dI k p2.toInt64 (0 : Int64) (3 : Int64)) (va_cwS 3 hts (gk_S (wl_mem 5 rfl) (wl_mem 6 rfl) (wl_mem 3 rfl) (fun w h => List.mem_cons_of_mem _ (List.mem_append_right _ (List.mem_append_right _ (List.mem_append_right _ (List.mem_append_left _ h))))) wkg_c_X12_in) rfl rfl rfl (by decide +kernel) ⟨Nat.le_of_ble_eq_true rfl, Nat.le_of_ble_eq_true rfl⟩) ⟨fun a U g mk q => by obtain ⟨q0, qP, qK⟩ := q; exact ⟨q0, qP, va_K.moved (u := U) (U := U.calling g mk a) (Vm.Alike.refl U.vm) qK⟩, fun U hU hW => ⟨rfl, by rw [hU]; exact hPc, va_K.moved hW.alike hK⟩⟩ rfl rfl hl.1 rfl (lv_room (Nat.le_of_ble_eq_true rfl)) dX12_row_18 ⟨Nat.le_of_ble_eq_true rfl, Nat.le_of_ble_eq_true rfl⟩)) (fun rz17 gz16 => ?_)
      clear hPc
      rcases gz16 with ⟨er, cz18⟩ | ⟨er, cz19, cz20⟩ | ⟨er, cz21, cz22⟩
      · obtain rfl := er.symm
        have zz23 : p2.toInt < (0 : Int) := by have h9 := zi_ltL.mp cz18; simp only [Int32.toInt_toInt64] at h9; exact h9
        refine lv_if_eq (tgt := 30) hx hb dX12_row_21 (by decide) (fun cz24 => ?_) (fun cz24 => ?_)
        · skip
          refine lv_bipush (v := (-2)) hx hb dX12_row_30 (by decide) ?_
          rw [hQ]
          exact W.iret (v := (-2 : Int32)) hx hb hr (fun t ht hW => ⟨⟨(-2 : Int32), (), rfl, trivial, (va_up vO 0 (0 : Int32)), tO, mO, gO, aWi, zMy, lCe, htO, hmO, hzMy, by rw [ht]; exact hP⟩, hS.F ht⟩) hS.2.2 dX12_row_32
        · skip
          exact absurd cz24 (by decide)
      · obtain rfl := er.symm
        have zz25 : ¬ p2.toInt < (0 : Int) := by intro h9; apply cz19; rw [zi_ltL]; simp only [Int32.toInt_toInt64]; exact h9
        have zz26 : (3 : Int) < p2.toInt := by have h9 := zi_ltL.mp cz20; simp only [Int32.toInt_toInt64] at h9; exact h9
        refine lv_if_eq (tgt := 30) hx hb dX12_row_21 (by decide) (fun cz27 => ?_) (fun cz27 => ?_)
        · skip
          refine lv_bipush (v := (-2)) hx hb dX12_row_30 (by decide) ?_
          rw [hQ]
          exact W.iret (v := (-2 : Int32)) hx hb hr (fun t ht hW => ⟨⟨(-2 : Int32), (), rfl, trivial, (va_up vO 0 (0 : Int32)), tO, mO, gO, aWi, zMy, lCe, htO, hmO, hzMy, by rw [ht]; exact hP⟩, hS.F ht⟩) hS.2.2 dX12_row_32
        · skip
          exact absurd cz27 (by decide)
      · obtain rfl := er.symm
        have zz28 : ¬ p2.toInt < (0 : Int) := by intro h9; apply cz21; rw [zi_ltL]; simp only [Int32.toInt_toInt64]; exact h9
        have zz29 : ¬ (3 : Int) < p2.toInt := by intro h9; apply cz22; rw [zi_ltL]; simp only [Int32.toInt_toInt64]; exact h9
        refine lv_if_eq (tgt := 30) hx hb dX12_row_21 (by decide) (fun cz30 => ?_) (fun cz30 => ?_)
        · skip
          exact absurd cz30 (by decide)
        · skip
          refine lv_iload_n hx hb dX12_row_24 rfl (lv_at hl 3 rfl) ?_
          refine lv_bipush (v := 60) hx hb dX12_row_25 (by decide) ?_
          refine lv_icmp_le (tgt := 33) hx hb dX12_row_27 (by decide) (fun cz31 => ?_) (fun cz31 => ?_)
          · skip
            have bz32 := fb_rng p3
            have zz33 : p3.toInt ≤ (60 : Int) := zi_le.mp cz31
            refine lv_iload_n hx hb dX12_row_33 rfl (lv_at hl 3 rfl) ?_
            refine lv_if_ge (tgt := 40) hx hb dX12_row_34 (by decide) (fun cz34 => ?_) (fun cz34 => ?_)
            · skip
              have zz35 : (0 : Int) ≤ p3.toInt := zi_le.mp cz34
              refine lv_aload_n hx hb dX12_row_40 rfl (lv_at hl 0 rfl) ?_
              refine va_get (D := (dC, dI)) (ci := 12) (v := .ref (qWi 0)) (C := RX12) (T := TX12) (N := 59) hx hb hts (fun w h => List.mem_cons_of_mem _ (List.mem_append_right _ (List.mem_append_left _ h))) hown hK hP 0 rfl rfl 1 (by decide) (hts (.fieldLink RX12 7 "SagMemoryModel" "width" "[I") (wl_mem 7 rfl)) (fun _ h9 => h9) rfl dX12_row_41 ?_
              refine lv_iload_n hx hb dX12_row_44 rfl (lv_at hl 1 rfl) ?_
              refine lv_iload_n hx hb dX12_row_45 rfl (lv_at hl 2 rfl) ?_
              refine va_iast hx hb hK hP hD hS 1 0 rfl rfl (vp_in_iff.mpr ⟨by omega, by omega⟩) dX12_row_46 (fun H locs hP hD hS => ?_)
              obtain ⟨fz36, efz36, hP, hD⟩ : ∃ fz36 : Nat → Int32, fz36 = upd (aWi 0) p1.toNatClampNeg p2 ∧ va_P (dC, dI) vwCl (List.flatten [(wMO qO k (qWi 0) (qMy 0) (qCe 0) movedO tapeO linesO hasO bridgeO cartO wardO frostAtO actO isKeptO loadNowO byNowO rowO memoryO whoseO deepNowO brokenByO brokenAtO goesByO comesToO sagMoreO creakOfO wipedByO deepAtO sagAtO loadAtO orderRowO oftenO lossOneO lossOtherO (va_up vO 0 (0 : Int32)) tO mO gO), (wmWi qWi k (va_up aWi 0 fz36)), (wmMy qMy k zMy), (wmCe qCe k lCe)] ++ List.flatten ([] : List va_W)) H ∧ va_D A (List.flatten [(wMO qO k (qWi 0) (qMy 0) (qCe 0) movedO tapeO linesO hasO bridgeO cartO wardO frostAtO actO isKeptO loadNowO byNowO rowO memoryO whoseO deepNowO brokenByO brokenAtO goesByO comesToO sagMoreO creakOfO wipedByO deepAtO sagAtO loadAtO orderRowO oftenO lossOneO lossOtherO (va_up vO 0 (0 : Int32)) tO mO gO), (wmWi qWi k (va_up aWi 0 fz36)), (wmMy qMy k zMy), (wmCe qCe k lCe)] ++ List.flatten ([] : List va_W)) := ⟨_, rfl, hP, hD⟩
              have kfz36 : fz36 p1.toNatClampNeg = p2 := by rw [efz36]; exact pk_us
              refine lv_aload_n hx hb dX12_row_47 rfl (lv_at hl 0 rfl) ?_
              refine va_get (D := (dC, dI)) (ci := 12) (v := .ref (qMy 0)) (C := RX12) (T := TX12) (N := 59) hx hb hts (fun w h => List.mem_cons_of_mem _ (List.mem_append_right _ (List.mem_append_left _ h))) hown hK hP 0 rfl rfl 2 (by decide) (hts (.fieldLink RX12 13 "SagMemoryModel" "many" "[I") (wl_mem 8 rfl)) (fun _ h9 => h9) rfl dX12_row_48 ?_
              refine lv_iload_n hx hb dX12_row_51 rfl (lv_at hl 1 rfl) ?_
              refine lv_iload_n hx hb dX12_row_52 rfl (lv_at hl 3 rfl) ?_
              refine va_iast hx hb hK hP hD hS 2 0 rfl rfl (vp_in_iff.mpr ⟨by omega, by omega⟩) dX12_row_53 (fun H locs hP hD hS => ?_)
              obtain ⟨fz37, efz37, hP, hD⟩ : ∃ fz37 : Nat → Int32, fz37 = upd (zMy 0) p1.toNatClampNeg p3 ∧ va_P (dC, dI) vwCl (List.flatten [(wMO qO k (qWi 0) (qMy 0) (qCe 0) movedO tapeO linesO hasO bridgeO cartO wardO frostAtO actO isKeptO loadNowO byNowO rowO memoryO whoseO deepNowO brokenByO brokenAtO goesByO comesToO sagMoreO creakOfO wipedByO deepAtO sagAtO loadAtO orderRowO oftenO lossOneO lossOtherO (va_up vO 0 (0 : Int32)) tO mO gO), (wmWi qWi k (va_up aWi 0 fz36)), (wmMy qMy k (va_up zMy 0 fz37)), (wmCe qCe k lCe)] ++ List.flatten ([] : List va_W)) H ∧ va_D A (List.flatten [(wMO qO k (qWi 0) (qMy 0) (qCe 0) movedO tapeO linesO hasO bridgeO cartO wardO frostAtO actO isKeptO loadNowO byNowO rowO memoryO whoseO deepNowO brokenByO brokenAtO goesByO comesToO sagMoreO creakOfO wipedByO deepAtO sagAtO loadAtO orderRowO oftenO lossOneO lossOtherO (va_up vO 0 (0 : Int32)) tO mO gO), (wmWi qWi k (va_up aWi 0 fz36)), (wmMy qMy k (va_up zMy 0 fz37)), (wmCe qCe k lCe)] ++ List.flatten ([] : List va_W)) := ⟨_, rfl, hP, hD⟩
              have hfz37 : Rg 0 60 fz37 := by rw [efz37]; exact rg_upd (hzMy 0) (by show 0 ≤ p3.toInt ∧ p3.toInt ≤ 60; omega)
              have kfz37 : fz37 p1.toNatClampNeg = p3 := by rw [efz37]; exact pk_us
              refine lv_iconst (v := 0) hx hb dX12_row_54 (by decide) ?_
              refine lv_istore (lv' := [(4, .int 0), (0, .ref (qO 0)), (1, .int p1), (2, .int p2), (3, .int p3)]) hx hb dX12_row_55 hl (by decide) rfl (fun ls hl => ?_)
              have lp57_kz57 : ∀ (n9_57 : Nat) (H : Heap) (locs : List Loc) (ls : Array Slot) (lz55 : Nat → Nat → Int64) (xz56 : Int32), (2147483647 - xz56.toInt).toNat < n9_57 → 0 ≤ xz56.toInt → va_P (dC, dI) vwCl (List.flatten [(wMO qO k (qWi 0) (qMy 0) (qCe 0) movedO tapeO linesO hasO bridgeO cartO wardO frostAtO actO isKeptO loadNowO byNowO rowO memoryO whoseO deepNowO brokenByO brokenAtO goesByO comesToO sagMoreO creakOfO wipedByO deepAtO sagAtO loadAtO orderRowO oftenO lossOneO lossOtherO (va_up vO 0 (0 : Int32)) tO mO gO), (wmWi qWi k (va_up aWi 0 fz36)), (wmMy qMy k (va_up zMy 0 fz37)), (wmCe qCe k lz55)] ++ List.flatten ([] : List va_W)) H → va_D A (List.flatten [(wMO qO k (qWi 0) (qMy 0) (qCe 0) movedO tapeO linesO hasO bridgeO cartO wardO frostAtO actO isKeptO loadNowO byNowO rowO memoryO whoseO deepNowO brokenByO brokenAtO goesByO comesToO sagMoreO creakOfO wipedByO deepAtO sagAtO loadAtO orderRowO oftenO lossOneO lossOtherO (va_up vO 0 (0 : Int32)) tO mO gO), (wmWi qWi k (va_up aWi 0 fz36)), (wmMy qMy k (va_up zMy 0 fz37)), (wmCe qCe k lz55)] ++ List.flatten ([] : List va_W)) → va_S A s.heap H locs → lv_has ls 5 [(0, .ref (qO 0)), (1, .int p1), (3, .int p3), (4, .int xz56)] → W p l e (headSpec wk_c_X12_row ({ frames := 2, cells := 0, slots := 0, locals := 45 })).room s m ([.ref (qO 0), .int p1, .int p2, .int p3] : List Value).toArray below meth c H locs 0 0 Q (F0 m 57 ls []) := by
                intro n9_57
                induction n9_57 with
                | zero => intro H locs ls lz55 xz56 hm; exact absurd hm (Nat.not_lt_zero _)
                | succ n9_57 ih57 =>
                  intro H locs ls lz55 xz56 hm57 jz58 hP hD hS hl
                  refine lv_iload hx hb dX12_row_57 (lv_at hl 3 rfl) ?_
                  refine lv_iload_n hx hb dX12_row_59 rfl (lv_at hl 2 rfl) ?_
                  refine lv_icmp_ge (tgt := 82) hx hb dX12_row_60 (by decide) (fun cz59 => ?_) (fun cz59 => ?_)
                  · skip
                    have bz60 := fb_rng xz56
                    have zz61 : p3.toInt ≤ xz56.toInt := zi_le.mp cz59
                    refine lv_iconst (v := 0) hx hb dX12_row_82 (by decide) ?_
                    rw [hQ]
                    exact W.iret (v := (0 : Int32)) hx hb hr (fun t ht hW => ⟨⟨(0 : Int32), (), rfl, trivial, (va_up vO 0 (0 : Int32)), tO, mO, gO, (va_up aWi 0 fz36), (va_up zMy 0 fz37), lz55, htO, hmO, (rga_up hzMy hfz37), by rw [ht]; exact hP⟩, hS.F ht⟩) hS.2.2 dX12_row_83
                  · skip
                    have bz62 := fb_rng xz56
                    have zz63 : ¬ p3.toInt ≤ xz56.toInt := fun h9 => cz59 (zi_le.mpr h9)
                    refine lv_aload_n hx hb dX12_row_63 rfl (lv_at hl 0 rfl) ?_
                    refine va_get (D := (dC, dI)) (ci := 12) (v := .ref (qCe 0)) (C := RX12) (T := TX12) (N := 59) hx hb hts (fun w h => List.mem_cons_of_mem _ (List.mem_append_right _ (List.mem_append_left _ h))) hown hK hP 0 rfl rfl 3 (by decide) (hts (.fieldLink RX12 16 "SagMemoryModel" "cells" "[J") (wl_mem 9 rfl)) (fun _ h9 => h9) rfl dX12_row_64 ?_
                    refine lv_bipush (v := 60) hx hb dX12_row_67 (by decide) ?_
                    refine lv_iload_n hx hb dX12_row_69 rfl (lv_at hl 1 rfl) ?_
                    refine lv_imul hx hb dX12_row_70 ?_
                    refine lv_topi (fun xz64 exz64 => ?_)
                    have fxz64 : xz64.toInt = (60 : Int) * p1.toInt := by rw [exz64]; exact fb_mulI (x := (60 : Int32)) (y := p1) (by show -2147483648 ≤ (60 : Int) * p1.toInt; omega) (by show (60 : Int) * p1.toInt < 2147483648; omega)
                    refine lv_iload hx hb dX12_row_71 (lv_at hl 3 rfl) ?_
                    refine lv_iadd hx hb dX12_row_73 ?_
                    refine lv_topi (fun xz65 exz65 => ?_)
                    have fxz65 : xz65.toInt = xz64.toInt + xz56.toInt := by rw [exz65]; exact fb_addI (x := xz64) (y := xz56) (by show -2147483648 ≤ xz64.toInt + xz56.toInt; omega) (by show xz64.toInt + xz56.toInt < 2147483648; omega)
                    refine lv_lconst (v := 0) hx hb dX12_row_74 (by decide) ?_
                    refine va_last hx hb hK hP hD hS 3 1 rfl rfl (vp_in_iff.mpr ⟨by omega, by omega⟩) dX12_row_75 (fun H locs hP hD hS => ?_)
                    obtain ⟨fz66, efz66, hP, hD⟩ : ∃ fz66 : Nat → Int64, fz66 = vp_updL (lz55 0) xz65.toNatClampNeg (0 : Int64) ∧ va_P (dC, dI) vwCl (List.flatten [(wMO qO k (qWi 0) (qMy 0) (qCe 0) movedO tapeO linesO hasO bridgeO cartO wardO frostAtO actO isKeptO loadNowO byNowO rowO memoryO whoseO deepNowO brokenByO brokenAtO goesByO comesToO sagMoreO creakOfO wipedByO deepAtO sagAtO loadAtO orderRowO oftenO lossOneO lossOtherO (va_up vO 0 (0 : Int32)) tO mO gO), (wmWi qWi k (va_up aWi 0 fz36)), (wmMy qMy k (va_up zMy 0 fz37)), (wmCe qCe k (va_up lz55 0 fz66))] ++ List.flatten ([] : List va_W)) H ∧ va_D A (List.flatten [(wMO qO k (qWi 0) (qMy 0) (qCe 0) movedO tapeO linesO hasO bridgeO cartO wardO frostAtO actO isKeptO loadNowO byNowO rowO memoryO whoseO deepNowO brokenByO brokenAtO goesByO comesToO sagMoreO creakOfO wipedByO deepAtO sagAtO loadAtO orderRowO oftenO lossOneO lossOtherO (va_up vO 0 (0 : Int32)) tO mO gO), (wmWi qWi k (va_up aWi 0 fz36)), (wmMy qMy k (va_up zMy 0 fz37)), (wmCe qCe k (va_up lz55 0 fz66))] ++ List.flatten ([] : List va_W)) := ⟨_, rfl, hP, hD⟩
                    have kfz66 : fz66 xz65.toNatClampNeg = (0 : Int64) := by rw [efz66]; exact pk_uLs
                    obtain ⟨xz67, exz67⟩ : ∃ y : Int32, y = xz56 + Int32.ofInt (1) := ⟨_, rfl⟩
                    have fxz67 : xz67.toInt = xz56.toInt + (1) := by rw [exz67]; exact fb_addI (y := Int32.ofInt (1)) (by show -2147483648 ≤ xz56.toInt + (1); omega) (by show xz56.toInt + (1) < 2147483648; omega)
                    refine lv_iinc (v := xz67) (lv' := [(4, .int xz67), (0, .ref (qO 0)), (1, .int p1), (3, .int p3)]) hx hb dX12_row_76 hl (k := 3) rfl exz67.symm (by decide) rfl (fun ls hl => ?_)
                    refine lv_goto (tgt := 57) hx hb dX12_row_79 (by decide) ?_
                    exact ih57 H locs ls (va_up lz55 0 fz66) xz67 (by show (2147483647 - xz67.toInt).toNat < n9_57; omega) (by show 0 ≤ xz67.toInt; omega) hP hD hS (lv_sub hl [1, 2, 3, 0] rfl)
              exact lp57_kz57 _ H locs ls lCe (0 : Int32) (Nat.lt_succ_self _) (by show 0 ≤ (0 : Int); omega) hP hD hS (lv_sub hl [1, 2, 4, 0] rfl)
            · skip
              have zz68 : ¬ (0 : Int) ≤ p3.toInt := fun h9 => cz34 (zi_le.mpr h9)
              refine lv_bipush (v := (-3)) hx hb dX12_row_37 (by decide) ?_
              rw [hQ]
              exact W.iret (v := (-3 : Int32)) hx hb hr (fun t ht hW => ⟨⟨(-3 : Int32), (), rfl, trivial, (va_up vO 0 (0 : Int32)), tO, mO, gO, aWi, zMy, lCe, htO, hmO, hzMy, by rw [ht]; exact hP⟩, hS.F ht⟩) hS.2.2 dX12_row_39
          · skip
            have bz69 := fb_rng p3
            have zz70 : ¬ p3.toInt ≤ (60 : Int) := fun h9 => cz31 (zi_le.mpr h9)
            refine lv_bipush (v := (-2)) hx hb dX12_row_30 (by decide) ?_
            rw [hQ]
            exact W.iret (v := (-2 : Int32)) hx hb hr (fun t ht hW => ⟨⟨(-2 : Int32), (), rfl, trivial, (va_up vO 0 (0 : Int32)), tO, mO, gO, aWi, zMy, lCe, htO, hmO, hzMy, by rw [ht]; exact hP⟩, hS.F ht⟩) hS.2.2 dX12_row_32
def wk_c_X12_write : List Cond := .code yX12_write cX12_write 5 (some .int) :: ([.fieldLink RX12 116 "SagMemoryModel" "thrown" "I", .methodLink RX12 125 yX12_isSlot, .static yX12_isSlot, .initialized RX12, .fieldLink RX12 7 "SagMemoryModel" "width" "[I", .fieldLink RX12 13 "SagMemoryModel" "many" "[I", .methodLink RX12 121 yX12_in, .static yX12_in, .fieldLink RX12 16 "SagMemoryModel" "cells" "[J", .methodLink RX12 129 yX12_cut, .static yX12_cut] ++ (wsX120 ++ (wk_c_X12_isSlot ++ (wk_c_X12_in ++ (wk_c_X12_cut ++ [])))))
theorem wkg_c_X12_write : wk_c_X12_write.all goodWord = true := by decide +kernel
set_option maxHeartbeats 4000000 in
set_option maxRecDepth 100000 in
theorem c_X12_write (l : Launch) (dC : Nat → ClassId) (dI : Nat → Nat → Nat) (k : Nat → ClassId) (sz : Nat) (qO : Nat → Nat) (movedO : Nat) (tapeO : Nat) (linesO : Nat) (hasO : Nat) (bridgeO : Nat) (cartO : Nat) (wardO : Nat) (frostAtO : Nat) (actO : Nat) (isKeptO : Nat) (loadNowO : Nat) (byNowO : Nat) (rowO : Nat) (memoryO : Nat) (whoseO : Nat) (deepNowO : Nat) (brokenByO : Nat) (brokenAtO : Nat) (goesByO : Nat) (comesToO : Nat) (sagMoreO : Nat) (creakOfO : Nat) (wipedByO : Nat) (deepAtO : Nat) (sagAtO : Nat) (loadAtO : Nat) (orderRowO : Nat) (oftenO : Nat) (lossOneO : Nat) (lossOtherO : Nat) (vO : Nat → Int32) (tO : Nat → Int32) (mO : Nat → Int32) (gO : Nat → Int64) (qWi : Nat → Nat) (aWi : Nat → Nat → Int32) (qMy : Nat → Nat) (zMy : Nat → Nat → Int32) (qCe : Nat → Nat) (lCe : Nat → Nat → Int64) (p1 : Int32) (p2 : Int32) (p3 : Int64) (htO : Rg 0 700 tO) (hmO : Rg (-1) 127 mO) (hzMy : RgA 0 60 zMy) : Met l yX12_write wk_c_X12_write ({ frames := 2, cells := 0, slots := 0, locals := 45 }) (va_Pc [.ref (qO 0), .int p1, .int p2, .long p3] (fun U => U.heap.size = sz ∧ va_P (dC, dI) vwCl (List.flatten [(wMO qO k (qWi 0) (qMy 0) (qCe 0) movedO tapeO linesO hasO bridgeO cartO wardO frostAtO actO isKeptO loadNowO byNowO rowO memoryO whoseO deepNowO brokenByO brokenAtO goesByO comesToO sagMoreO creakOfO wipedByO deepAtO sagAtO loadAtO orderRowO oftenO lossOneO lossOtherO vO tO mO gO), (wmCe qCe k lCe)] ++ List.flatten [(wmWi qWi k aWi), (wmMy qMy k zMy)]) U.heap ∧ va_K (dC, dI) vwCl (tK k) U ∧ va_D (fun _ => True) (List.flatten [(wMO qO k (qWi 0) (qMy 0) (qCe 0) movedO tapeO linesO hasO bridgeO cartO wardO frostAtO actO isKeptO loadNowO byNowO rowO memoryO whoseO deepNowO brokenByO brokenAtO goesByO comesToO sagMoreO creakOfO wipedByO deepAtO sagAtO loadAtO orderRowO oftenO lossOneO lossOtherO vO tO mO gO), (wmCe qCe k lCe)] ++ List.flatten [(wmWi qWi k aWi), (wmMy qMy k zMy)]))) (va_Qi (fun (r : Int32) (_ : Unit) => True) (fun (_ : Unit) (t : State) => ∃ (vO' : Nat → Int32) (tO' : Nat → Int32) (mO' : Nat → Int32) (gO' : Nat → Int64) (lCe' : Nat → Nat → Int64), Rg 0 700 tO' ∧ Rg (-1) 127 mO' ∧ va_P (dC, dI) vwCl (List.flatten [(wMO qO k (qWi 0) (qMy 0) (qCe 0) movedO tapeO linesO hasO bridgeO cartO wardO frostAtO actO isKeptO loadNowO byNowO rowO memoryO whoseO deepNowO brokenByO brokenAtO goesByO comesToO sagMoreO creakOfO wipedByO deepAtO sagAtO loadAtO orderRowO oftenO lossOneO lossOtherO vO' tO' mO' gO'), (wmCe qCe k lCe')] ++ List.flatten [(wmWi qWi k aWi), (wmMy qMy k zMy)]) t.heap) (va_A (List.flatten [(wMO qO k (qWi 0) (qMy 0) (qCe 0) movedO tapeO linesO hasO bridgeO cartO wardO frostAtO actO isKeptO loadNowO byNowO rowO memoryO whoseO deepNowO brokenByO brokenAtO goesByO comesToO sagMoreO creakOfO wipedByO deepAtO sagAtO loadAtO orderRowO oftenO lossOneO lossOtherO vO tO mO gO), (wmCe qCe k lCe)] ++ List.flatten [(wmWi qWi k aWi), (wmMy qMy k zMy)]) sz)) 0 0 (va_A (List.flatten [(wMO qO k (qWi 0) (qMy 0) (qCe 0) movedO tapeO linesO hasO bridgeO cartO wardO frostAtO actO isKeptO loadNowO byNowO rowO memoryO whoseO deepNowO brokenByO brokenAtO goesByO comesToO sagMoreO creakOfO wipedByO deepAtO sagAtO loadAtO orderRowO oftenO lossOneO lossOtherO vO tO mO gO), (wmCe qCe k lCe)] ++ List.flatten [(wmWi qWi k aWi), (wmMy qMy k zMy)]) sz) := by
  refine Met.ofW (cc := cX12_write) (maxL := 5) (ret := (some .int)) (by decide) rfl ?_
  intro p e s m args below meth c s₁ B hml hv
  obtain ⟨rfl, hsz, hP, hK, hD0⟩ := hv
  have hx := B.exec
  have hb := B.bytes
  have hr := B.returns
  have hts := atoms_spec (ws := wk_c_X12_write) B.pre
  have hown : s.vm.findClass RX12 = some m.cls := findClass_of_methodNamed B.named
  have hlocks := B.notSynchronized
  subst hsz
  have hD := hD0.self (sz := s.heap.size)
  generalize hAe : va_A (List.flatten [(wMO qO k (qWi 0) (qMy 0) (qCe 0) movedO tapeO linesO hasO bridgeO cartO wardO frostAtO actO isKeptO loadNowO byNowO rowO memoryO whoseO deepNowO brokenByO brokenAtO goesByO comesToO sagMoreO creakOfO wipedByO deepAtO sagAtO loadAtO orderRowO oftenO lossOneO lossOtherO vO tO mO gO), (wmCe qCe k lCe)] ++ List.flatten [(wmWi qWi k aWi), (wmMy qMy k zMy)]) s.heap.size = A at hD ⊢
  have hA : ∀ q : Nat, s.heap.size ≤ q → A q := fun q h => by rw [← hAe]; exact Or.inr h
  have hS : va_S A s.heap s.heap [] := va_S.rf
  have hP : va_P (dC, dI) vwCl (List.flatten [(wMO qO k (qWi 0) (qMy 0) (qCe 0) movedO tapeO linesO hasO bridgeO cartO wardO frostAtO actO isKeptO loadNowO byNowO rowO memoryO whoseO deepNowO brokenByO brokenAtO goesByO comesToO sagMoreO creakOfO wipedByO deepAtO sagAtO loadAtO orderRowO oftenO lossOneO lossOtherO vO tO mO gO), (wmCe qCe k lCe)] ++ List.flatten [(wmWi qWi k aWi), (wmMy qMy k zMy)]) s.heap := hP
  have hl := lv_entry ([.ref (qO 0), .int p1, .int p2, .long p3]) (n := 5) (Nat.le_of_ble_eq_true rfl)
  rw [lg_entry_eq]
  generalize (lg_sl ([.ref (qO 0), .int p1, .int p2, .long p3]) ++ List.replicate (5 - (lg_sl ([.ref (qO 0), .int p1, .int p2, .long p3])).length) Slot.unset).toArray = ls at hl ⊢
  have hl : lv_has ls 5 [(0, .ref (qO 0)), (1, .int p1), (2, .int p2), (3, .long p3)] := hl
  refine w_gen (fun Q hQ => ?_)
  refine lv_aload_n hx hb dX12_write_0 rfl (lv_at hl 0 rfl) ?_
  refine lv_iconst (v := 0) hx hb dX12_write_1 (by decide) ?_
  refine va_put (D := (dC, dI)) (ci := 12) (v := .int 0) (ty := .int) (C := RX12) (T := TX12) (N := 59) hx hb hts (fun w h => List.mem_cons_of_mem _ (List.mem_append_right _ (List.mem_append_left _ h))) tyX12 tyX12_ok nmX12 hown hK hP hD hS 0 rfl rfl 0 (by decide) (hts (.fieldLink RX12 116 "SagMemoryModel" "thrown" "I") (wl_mem 0 rfl)) (fun _ h9 => h9) rfl (by decide +kernel) rfl rfl (Nat.le_of_ble_eq_true rfl) dX12_write_2 (fun H locs hP hD hS => ?_)
  have hP : va_P (dC, dI) vwCl (List.flatten [(wMO qO k (qWi 0) (qMy 0) (qCe 0) movedO tapeO linesO hasO bridgeO cartO wardO frostAtO actO isKeptO loadNowO byNowO rowO memoryO whoseO deepNowO brokenByO brokenAtO goesByO comesToO sagMoreO creakOfO wipedByO deepAtO sagAtO loadAtO orderRowO oftenO lossOneO lossOtherO (va_up vO 0 (0 : Int32)) tO mO gO), (wmCe qCe k lCe)] ++ List.flatten [(wmWi qWi k aWi), (wmMy qMy k zMy)]) H := hP
  have hD : va_D A (List.flatten [(wMO qO k (qWi 0) (qMy 0) (qCe 0) movedO tapeO linesO hasO bridgeO cartO wardO frostAtO actO isKeptO loadNowO byNowO rowO memoryO whoseO deepNowO brokenByO brokenAtO goesByO comesToO sagMoreO creakOfO wipedByO deepAtO sagAtO loadAtO orderRowO oftenO lossOneO lossOtherO (va_up vO 0 (0 : Int32)) tO mO gO), (wmCe qCe k lCe)] ++ List.flatten [(wmWi qWi k aWi), (wmMy qMy k zMy)]) := hD
  refine lv_iload_n hx hb dX12_write_5 rfl (lv_at hl 1 rfl) ?_
  have hPc : va_P (dC, dI) vwCl (List.flatten ([] : List va_W)) H := fun k q h => by simp at h
  refine vp_callSi (va_Run.run (va_runS (As := [.int p1]) (rest := []) ⟨hx, hb, hml, hown, hts⟩ (c_X12_isSlot l dC dI k p1) (va_cwS 1 hts (gk_S (wl_mem 1 rfl) (wl_mem 2 rfl) (wl_mem 3 rfl) (fun w h => List.mem_cons_of_mem _ (List.mem_append_right _ (List.mem_append_right _ (List.mem_append_left _ h)))) wkg_c_X12_isSlot) rfl rfl rfl (by decide +kernel) ⟨Nat.le_of_ble_eq_true rfl, Nat.le_of_ble_eq_true rfl⟩) ⟨fun a U g mk q => by obtain ⟨q0, qP, qK⟩ := q; exact ⟨q0, qP, va_K.moved (u := U) (U := U.calling g mk a) (Vm.Alike.refl U.vm) qK⟩, fun U hU hW => ⟨rfl, by rw [hU]; exact hPc, va_K.moved hW.alike hK⟩⟩ rfl rfl hl.1 rfl (lv_room (Nat.le_of_ble_eq_true rfl)) dX12_write_6 ⟨Nat.le_of_ble_eq_true rfl, Nat.le_of_ble_eq_true rfl⟩)) (fun rz2 gz1 => ?_)
  clear hPc
  rcases gz1 with ⟨er, cz3⟩ | ⟨er, cz4, cz5⟩ | ⟨er, cz6, cz7⟩
  · obtain rfl := er.symm
    have zz8 : p1.toInt < (0 : Int) := by have h9 := zi_ltL.mp cz3; simp only [Int32.toInt_toInt64] at h9; exact h9
    refine lv_if_ne (tgt := 15) hx hb dX12_write_9 (by decide) (fun cz9 => ?_) (fun cz9 => ?_)
    · skip
      exact absurd cz9 (by decide)
    · skip
      refine lv_bipush (v := (-2)) hx hb dX12_write_12 (by decide) ?_
      rw [hQ]
      exact W.iret (v := (-2 : Int32)) hx hb hr (fun t ht hW => ⟨⟨(-2 : Int32), (), rfl, trivial, (va_up vO 0 (0 : Int32)), tO, mO, gO, lCe, htO, hmO, by rw [ht]; exact hP⟩, hS.F ht⟩) hS.2.2 dX12_write_14
  · obtain rfl := er.symm
    have zz10 : ¬ p1.toInt < (0 : Int) := by intro h9; apply cz4; rw [zi_ltL]; simp only [Int32.toInt_toInt64]; exact h9
    have zz11 : (3 : Int) < p1.toInt := by have h9 := zi_ltL.mp cz5; simp only [Int32.toInt_toInt64] at h9; exact h9
    refine lv_if_ne (tgt := 15) hx hb dX12_write_9 (by decide) (fun cz12 => ?_) (fun cz12 => ?_)
    · skip
      exact absurd cz12 (by decide)
    · skip
      refine lv_bipush (v := (-2)) hx hb dX12_write_12 (by decide) ?_
      rw [hQ]
      exact W.iret (v := (-2 : Int32)) hx hb hr (fun t ht hW => ⟨⟨(-2 : Int32), (), rfl, trivial, (va_up vO 0 (0 : Int32)), tO, mO, gO, lCe, htO, hmO, by rw [ht]; exact hP⟩, hS.F ht⟩) hS.2.2 dX12_write_14
  · obtain rfl := er.symm
    have zz13 : ¬ p1.toInt < (0 : Int) := by intro h9; apply cz6; rw [zi_ltL]; simp only [Int32.toInt_toInt64]; exact h9
    have zz14 : ¬ (3 : Int) < p1.toInt := by intro h9; apply cz7; rw [zi_ltL]; simp only [Int32.toInt_toInt64]; exact h9
    refine lv_if_ne (tgt := 15) hx hb dX12_write_9 (by decide) (fun cz15 => ?_) (fun cz15 => ?_)
    · skip
      refine lv_aload_n hx hb dX12_write_15 rfl (lv_at hl 0 rfl) ?_
      refine va_get (D := (dC, dI)) (ci := 12) (v := .ref (qWi 0)) (C := RX12) (T := TX12) (N := 59) hx hb hts (fun w h => List.mem_cons_of_mem _ (List.mem_append_right _ (List.mem_append_left _ h))) hown hK hP 0 rfl rfl 1 (by decide) (hts (.fieldLink RX12 7 "SagMemoryModel" "width" "[I") (wl_mem 4 rfl)) (fun _ h9 => h9) rfl dX12_write_16 ?_
      refine lv_iload_n hx hb dX12_write_19 rfl (lv_at hl 1 rfl) ?_
      refine va_iald hx hb hK hP 2 0 rfl rfl (vp_in_iff.mpr ⟨by omega, by omega⟩) dX12_write_20 ?_
      refine lv_topi (fun xz16 exz16 => ?_)
      refine lv_iconst (v := (-1)) hx hb dX12_write_21 (by decide) ?_
      refine lv_icmp_ne (tgt := 28) hx hb dX12_write_22 (by decide) (fun cz17 => ?_) (fun cz17 => ?_)
      · skip
        have zz18 : ¬ xz16.toInt = (-1 : Int) := fun h9 => cz17 (zi_eq.mpr h9)
        refine lv_iload_n hx hb dX12_write_28 rfl (lv_at hl 2 rfl) ?_
        refine lv_i2l hx hb dX12_write_29 rfl ?_
        refine lv_lconst (v := 0) hx hb dX12_write_30 (by decide) ?_
        refine lv_aload_n hx hb dX12_write_31 rfl (lv_at hl 0 rfl) ?_
        refine va_get (D := (dC, dI)) (ci := 12) (v := .ref (qMy 0)) (C := RX12) (T := TX12) (N := 59) hx hb hts (fun w h => List.mem_cons_of_mem _ (List.mem_append_right _ (List.mem_append_left _ h))) hown hK hP 0 rfl rfl 2 (by decide) (hts (.fieldLink RX12 13 "SagMemoryModel" "many" "[I") (wl_mem 5 rfl)) (fun _ h9 => h9) rfl dX12_write_32 ?_
        refine lv_iload_n hx hb dX12_write_35 rfl (lv_at hl 1 rfl) ?_
        refine va_iald hx hb hK hP 3 0 rfl rfl (vp_in_iff.mpr ⟨by omega, by omega⟩) dX12_write_36 ?_
        refine lv_topi (fun xz19 exz19 => ?_)
        have gxz19 : xz19.toInt = ((zMy 0) p1.toNatClampNeg).toInt := congrArg Int32.toInt exz19
        have bxz19 : 0 ≤ xz19.toInt ∧ xz19.toInt ≤ 60 := by rw [exz19]; exact (hzMy 0) _
        refine lv_iconst (v := 1) hx hb dX12_write_37 (by decide) ?_
        refine lv_isub hx hb dX12_write_38 ?_
        refine lv_topi (fun xz20 exz20 => ?_)
        have fxz20 : xz20.toInt = xz19.toInt - (1 : Int) := by rw [exz20]; exact fb_subI (x := xz19) (y := (1 : Int32)) (by show -2147483648 ≤ xz19.toInt - (1 : Int); omega) (by show xz19.toInt - (1 : Int) < 2147483648; omega)
        refine lv_i2l hx hb dX12_write_39 rfl ?_
        have hPc : va_P (dC, dI) vwCl (List.flatten ([] : List va_W)) H := fun k q h => by simp at h
        refine vp_callSi (va_Run.run (va_runS (As := [.long p2.toInt64, .long 0, .long xz20.toInt64]) (rest := []) ⟨hx, hb, hml, hown, hts⟩ (c_X12_in l dC dI k p2.toInt64 (0 : Int64) xz20.toInt64) (va_cwS 3 hts (gk_S (wl_mem 6 rfl) (wl_mem 7 rfl) (wl_mem 3 rfl) (fun w h => List.mem_cons_of_mem _ (List.mem_append_right _ (List.mem_append_right _ (List.mem_append_right _ (List.mem_append_left _ h))))) wkg_c_X12_in) rfl rfl rfl (by decide +kernel) ⟨Nat.le_of_ble_eq_true rfl, Nat.le_of_ble_eq_true rfl⟩) ⟨fun a U g mk q => by obtain ⟨q0, qP, qK⟩ := q; exact ⟨q0, qP, va_K.moved (u := U) (U := U.calling g mk a) (Vm.Alike.refl U.vm) qK⟩, fun U hU hW => ⟨rfl, by rw [hU]; exact hPc, va_K.moved hW.alike hK⟩⟩ rfl rfl hl.1 rfl (lv_room (Nat.le_of_ble_eq_true rfl)) dX12_write_40 ⟨Nat.le_of_ble_eq_true rfl, Nat.le_of_ble_eq_true rfl⟩)) (fun rz22 gz21 => ?_)
        clear hPc
        rcases gz21 with ⟨er, cz23⟩ | ⟨er, cz24, cz25⟩ | ⟨er, cz26, cz27⟩
        · obtain rfl := er.symm
          have zz28 : p2.toInt < (0 : Int) := by have h9 := zi_ltL.mp cz23; simp only [Int32.toInt_toInt64] at h9; exact h9
          refine lv_if_ne (tgt := 49) hx hb dX12_write_43 (by decide) (fun cz29 => ?_) (fun cz29 => ?_)
          · skip
            exact absurd cz29 (by decide)
          · skip
            refine lv_bipush (v := (-7)) hx hb dX12_write_46 (by decide) ?_
            rw [hQ]
            exact W.iret (v := (-7 : Int32)) hx hb hr (fun t ht hW => ⟨⟨(-7 : Int32), (), rfl, trivial, (va_up vO 0 (0 : Int32)), tO, mO, gO, lCe, htO, hmO, by rw [ht]; exact hP⟩, hS.F ht⟩) hS.2.2 dX12_write_48
        · obtain rfl := er.symm
          have zz30 : ¬ p2.toInt < (0 : Int) := by intro h9; apply cz24; rw [zi_ltL]; simp only [Int32.toInt_toInt64]; exact h9
          have zz31 : xz20.toInt < p2.toInt := by have h9 := zi_ltL.mp cz25; simp only [Int32.toInt_toInt64] at h9; exact h9
          refine lv_if_ne (tgt := 49) hx hb dX12_write_43 (by decide) (fun cz32 => ?_) (fun cz32 => ?_)
          · skip
            exact absurd cz32 (by decide)
          · skip
            refine lv_bipush (v := (-7)) hx hb dX12_write_46 (by decide) ?_
            rw [hQ]
            exact W.iret (v := (-7 : Int32)) hx hb hr (fun t ht hW => ⟨⟨(-7 : Int32), (), rfl, trivial, (va_up vO 0 (0 : Int32)), tO, mO, gO, lCe, htO, hmO, by rw [ht]; exact hP⟩, hS.F ht⟩) hS.2.2 dX12_write_48
        · obtain rfl := er.symm
          have zz33 : ¬ p2.toInt < (0 : Int) := by intro h9; apply cz26; rw [zi_ltL]; simp only [Int32.toInt_toInt64]; exact h9
          have zz34 : ¬ xz20.toInt < p2.toInt := by intro h9; apply cz27; rw [zi_ltL]; simp only [Int32.toInt_toInt64]; exact h9
          refine lv_if_ne (tgt := 49) hx hb dX12_write_43 (by decide) (fun cz35 => ?_) (fun cz35 => ?_)
          · skip
            refine lv_aload_n hx hb dX12_write_49 rfl (lv_at hl 0 rfl) ?_
            refine va_get (D := (dC, dI)) (ci := 12) (v := .ref (qCe 0)) (C := RX12) (T := TX12) (N := 59) hx hb hts (fun w h => List.mem_cons_of_mem _ (List.mem_append_right _ (List.mem_append_left _ h))) hown hK hP 0 rfl rfl 3 (by decide) (hts (.fieldLink RX12 16 "SagMemoryModel" "cells" "[J") (wl_mem 8 rfl)) (fun _ h9 => h9) rfl dX12_write_50 ?_
            refine lv_bipush (v := 60) hx hb dX12_write_53 (by decide) ?_
            refine lv_iload_n hx hb dX12_write_55 rfl (lv_at hl 1 rfl) ?_
            refine lv_imul hx hb dX12_write_56 ?_
            refine lv_topi (fun xz36 exz36 => ?_)
            have fxz36 : xz36.toInt = (60 : Int) * p1.toInt := by rw [exz36]; exact fb_mulI (x := (60 : Int32)) (y := p1) (by show -2147483648 ≤ (60 : Int) * p1.toInt; omega) (by show (60 : Int) * p1.toInt < 2147483648; omega)
            refine lv_iload_n hx hb dX12_write_57 rfl (lv_at hl 2 rfl) ?_
            refine lv_iadd hx hb dX12_write_58 ?_
            refine lv_topi (fun xz37 exz37 => ?_)
            have fxz37 : xz37.toInt = xz36.toInt + p2.toInt := by rw [exz37]; exact fb_addI (x := xz36) (y := p2) (by show -2147483648 ≤ xz36.toInt + p2.toInt; omega) (by show xz36.toInt + p2.toInt < 2147483648; omega)
            refine lv_lload_n hx hb dX12_write_59 rfl (lv_at hl 3 rfl) ?_
            refine lv_aload_n hx hb dX12_write_60 rfl (lv_at hl 0 rfl) ?_
            refine va_get (D := (dC, dI)) (ci := 12) (v := .ref (qWi 0)) (C := RX12) (T := TX12) (N := 59) hx hb hts (fun w h => List.mem_cons_of_mem _ (List.mem_append_right _ (List.mem_append_left _ h))) hown hK hP 0 rfl rfl 1 (by decide) (hts (.fieldLink RX12 7 "SagMemoryModel" "width" "[I") (wl_mem 4 rfl)) (fun _ h9 => h9) rfl dX12_write_61 ?_
            refine lv_iload_n hx hb dX12_write_64 rfl (lv_at hl 1 rfl) ?_
            refine va_iald hx hb hK hP 2 0 rfl rfl (vp_in_iff.mpr ⟨by omega, by omega⟩) dX12_write_65 ?_
            refine lv_topi (fun xz38 exz38 => ?_)
            have hPc : va_P (dC, dI) vwCl (List.flatten ([] : List va_W)) H := fun k q h => by simp at h
            refine vp_callSl (va_Run.run (va_runS (As := [.long p3, .int xz38]) (rest := [.int xz37, .ref (qCe 0)]) ⟨hx, hb, hml, hown, hts⟩ (c_X12_cut l dC dI k p3 xz38) (va_cwS 2 hts (gk_S (wl_mem 9 rfl) (wl_mem 10 rfl) (wl_mem 3 rfl) (fun w h => List.mem_cons_of_mem _ (List.mem_append_right _ (List.mem_append_right _ (List.mem_append_right _ (List.mem_append_right _ (List.mem_append_left _ h)))))) wkg_c_X12_cut) rfl rfl rfl (by decide +kernel) ⟨Nat.le_of_ble_eq_true rfl, Nat.le_of_ble_eq_true rfl⟩) ⟨fun a U g mk q => by obtain ⟨q0, qP, qK⟩ := q; exact ⟨q0, qP, va_K.moved (u := U) (U := U.calling g mk a) (Vm.Alike.refl U.vm) qK⟩, fun U hU hW => ⟨rfl, by rw [hU]; exact hPc, va_K.moved hW.alike hK⟩⟩ rfl rfl hl.1 rfl (lv_room (Nat.le_of_ble_eq_true rfl)) dX12_write_66 ⟨Nat.le_of_ble_eq_true rfl, Nat.le_of_ble_eq_true rfl⟩)) (fun rz40 gz39 => ?_)
            clear hPc
            refine va_last hx hb hK hP hD hS 1 1 rfl rfl (vp_in_iff.mpr ⟨by omega, by omega⟩) dX12_write_69 (fun H locs hP hD hS => ?_)
            obtain ⟨fz41, efz41, hP, hD⟩ : ∃ fz41 : Nat → Int64, fz41 = vp_updL (lCe 0) xz37.toNatClampNeg rz40 ∧ va_P (dC, dI) vwCl (List.flatten [(wMO qO k (qWi 0) (qMy 0) (qCe 0) movedO tapeO linesO hasO bridgeO cartO wardO frostAtO actO isKeptO loadNowO byNowO rowO memoryO whoseO deepNowO brokenByO brokenAtO goesByO comesToO sagMoreO creakOfO wipedByO deepAtO sagAtO loadAtO orderRowO oftenO lossOneO lossOtherO (va_up vO 0 (0 : Int32)) tO mO gO), (wmCe qCe k (va_up lCe 0 fz41))] ++ List.flatten [(wmWi qWi k aWi), (wmMy qMy k zMy)]) H ∧ va_D A (List.flatten [(wMO qO k (qWi 0) (qMy 0) (qCe 0) movedO tapeO linesO hasO bridgeO cartO wardO frostAtO actO isKeptO loadNowO byNowO rowO memoryO whoseO deepNowO brokenByO brokenAtO goesByO comesToO sagMoreO creakOfO wipedByO deepAtO sagAtO loadAtO orderRowO oftenO lossOneO lossOtherO (va_up vO 0 (0 : Int32)) tO mO gO), (wmCe qCe k (va_up lCe 0 fz41))] ++ List.flatten [(wmWi qWi k aWi), (wmMy qMy k zMy)]) := ⟨_, rfl, hP, hD⟩
            have kfz41 : fz41 xz37.toNatClampNeg = rz40 := by rw [efz41]; exact pk_uLs
            refine lv_iconst (v := 0) hx hb dX12_write_70 (by decide) ?_
            rw [hQ]
            exact W.iret (v := (0 : Int32)) hx hb hr (fun t ht hW => ⟨⟨(0 : Int32), (), rfl, trivial, (va_up vO 0 (0 : Int32)), tO, mO, gO, (va_up lCe 0 fz41), htO, hmO, by rw [ht]; exact hP⟩, hS.F ht⟩) hS.2.2 dX12_write_71
          · skip
            exact absurd cz35 (by decide)
      · skip
        have zz42 : xz16.toInt = (-1 : Int) := zi_eq.mp cz17
        refine lv_bipush (v := (-6)) hx hb dX12_write_25 (by decide) ?_
        rw [hQ]
        exact W.iret (v := (-6 : Int32)) hx hb hr (fun t ht hW => ⟨⟨(-6 : Int32), (), rfl, trivial, (va_up vO 0 (0 : Int32)), tO, mO, gO, lCe, htO, hmO, by rw [ht]; exact hP⟩, hS.F ht⟩) hS.2.2 dX12_write_27
    · skip
      exact absurd cz15 (by decide)
def wk_c_X12_paste : List Cond := .code yX12_paste cX12_paste 7 (some .int) :: ([.fieldLink RX12 116 "SagMemoryModel" "thrown" "I", .methodLink RX12 125 yX12_isSlot, .static yX12_isSlot, .initialized RX12, .fieldLink RX12 7 "SagMemoryModel" "width" "[I", .fieldLink RX12 13 "SagMemoryModel" "many" "[I", .fieldLink RX12 20 "SagMemoryModel" "moved" "[J", .fieldLink RX12 16 "SagMemoryModel" "cells" "[J"] ++ (wsX120 ++ (wk_c_X12_isSlot ++ [])))
theorem wkg_c_X12_paste : wk_c_X12_paste.all goodWord = true := by decide +kernel
set_option maxHeartbeats 4000000 in
set_option maxRecDepth 100000 in
theorem c_X12_paste (l : Launch) (dC : Nat → ClassId) (dI : Nat → Nat → Nat) (k : Nat → ClassId) (sz : Nat) (qO : Nat → Nat) (tapeO : Nat) (linesO : Nat) (hasO : Nat) (bridgeO : Nat) (cartO : Nat) (wardO : Nat) (frostAtO : Nat) (actO : Nat) (isKeptO : Nat) (loadNowO : Nat) (byNowO : Nat) (rowO : Nat) (memoryO : Nat) (whoseO : Nat) (deepNowO : Nat) (brokenByO : Nat) (brokenAtO : Nat) (goesByO : Nat) (comesToO : Nat) (sagMoreO : Nat) (creakOfO : Nat) (wipedByO : Nat) (deepAtO : Nat) (sagAtO : Nat) (loadAtO : Nat) (orderRowO : Nat) (oftenO : Nat) (lossOneO : Nat) (lossOtherO : Nat) (vO : Nat → Int32) (tO : Nat → Int32) (mO : Nat → Int32) (gO : Nat → Int64) (qWi : Nat → Nat) (aWi : Nat → Nat → Int32) (qMy : Nat → Nat) (zMy : Nat → Nat → Int32) (qCe : Nat → Nat) (lCe : Nat → Nat → Int64) (qMv : Nat → Nat) (lMv : Nat → Nat → Int64) (p1 : Int32) (p2 : Int32) (p3 : Int32) (p4 : Int32) (p5 : Int32) (htO : Rg 0 700 tO) (hmO : Rg (-1) 127 mO) (hzMy : RgA 0 60 zMy) : Met l yX12_paste wk_c_X12_paste ({ frames := 2, cells := 0, slots := 0, locals := 45 }) (va_Pc [.ref (qO 0), .int p1, .int p2, .int p3, .int p4, .int p5] (fun U => U.heap.size = sz ∧ va_P (dC, dI) vwCl (List.flatten [(wMO qO k (qWi 0) (qMy 0) (qCe 0) (qMv 0) tapeO linesO hasO bridgeO cartO wardO frostAtO actO isKeptO loadNowO byNowO rowO memoryO whoseO deepNowO brokenByO brokenAtO goesByO comesToO sagMoreO creakOfO wipedByO deepAtO sagAtO loadAtO orderRowO oftenO lossOneO lossOtherO vO tO mO gO), (wmCe qCe k lCe), (wmMv qMv k lMv)] ++ List.flatten [(wmWi qWi k aWi), (wmMy qMy k zMy)]) U.heap ∧ va_K (dC, dI) vwCl (tK k) U ∧ va_D (fun _ => True) (List.flatten [(wMO qO k (qWi 0) (qMy 0) (qCe 0) (qMv 0) tapeO linesO hasO bridgeO cartO wardO frostAtO actO isKeptO loadNowO byNowO rowO memoryO whoseO deepNowO brokenByO brokenAtO goesByO comesToO sagMoreO creakOfO wipedByO deepAtO sagAtO loadAtO orderRowO oftenO lossOneO lossOtherO vO tO mO gO), (wmCe qCe k lCe), (wmMv qMv k lMv)] ++ List.flatten [(wmWi qWi k aWi), (wmMy qMy k zMy)]))) (va_Qi (fun (r : Int32) (_ : Unit) => True) (fun (_ : Unit) (t : State) => ∃ (vO' : Nat → Int32) (tO' : Nat → Int32) (mO' : Nat → Int32) (gO' : Nat → Int64) (lCe' : Nat → Nat → Int64) (lMv' : Nat → Nat → Int64), Rg 0 700 tO' ∧ Rg (-1) 127 mO' ∧ va_P (dC, dI) vwCl (List.flatten [(wMO qO k (qWi 0) (qMy 0) (qCe 0) (qMv 0) tapeO linesO hasO bridgeO cartO wardO frostAtO actO isKeptO loadNowO byNowO rowO memoryO whoseO deepNowO brokenByO brokenAtO goesByO comesToO sagMoreO creakOfO wipedByO deepAtO sagAtO loadAtO orderRowO oftenO lossOneO lossOtherO vO' tO' mO' gO'), (wmCe qCe k lCe'), (wmMv qMv k lMv')] ++ List.flatten [(wmWi qWi k aWi), (wmMy qMy k zMy)]) t.heap) (va_A (List.flatten [(wMO qO k (qWi 0) (qMy 0) (qCe 0) (qMv 0) tapeO linesO hasO bridgeO cartO wardO frostAtO actO isKeptO loadNowO byNowO rowO memoryO whoseO deepNowO brokenByO brokenAtO goesByO comesToO sagMoreO creakOfO wipedByO deepAtO sagAtO loadAtO orderRowO oftenO lossOneO lossOtherO vO tO mO gO), (wmCe qCe k lCe), (wmMv qMv k lMv)] ++ List.flatten [(wmWi qWi k aWi), (wmMy qMy k zMy)]) sz)) 0 0 (va_A (List.flatten [(wMO qO k (qWi 0) (qMy 0) (qCe 0) (qMv 0) tapeO linesO hasO bridgeO cartO wardO frostAtO actO isKeptO loadNowO byNowO rowO memoryO whoseO deepNowO brokenByO brokenAtO goesByO comesToO sagMoreO creakOfO wipedByO deepAtO sagAtO loadAtO orderRowO oftenO lossOneO lossOtherO vO tO mO gO), (wmCe qCe k lCe), (wmMv qMv k lMv)] ++ List.flatten [(wmWi qWi k aWi), (wmMy qMy k zMy)]) sz) := by
  refine Met.ofW (cc := cX12_paste) (maxL := 7) (ret := (some .int)) (by decide) rfl ?_
  intro p e s m args below meth c s₁ B hml hv
  obtain ⟨rfl, hsz, hP, hK, hD0⟩ := hv
  have hx := B.exec
  have hb := B.bytes
  have hr := B.returns
  have hts := atoms_spec (ws := wk_c_X12_paste) B.pre
  have hown : s.vm.findClass RX12 = some m.cls := findClass_of_methodNamed B.named
  have hlocks := B.notSynchronized
  subst hsz
  have hD := hD0.self (sz := s.heap.size)
  generalize hAe : va_A (List.flatten [(wMO qO k (qWi 0) (qMy 0) (qCe 0) (qMv 0) tapeO linesO hasO bridgeO cartO wardO frostAtO actO isKeptO loadNowO byNowO rowO memoryO whoseO deepNowO brokenByO brokenAtO goesByO comesToO sagMoreO creakOfO wipedByO deepAtO sagAtO loadAtO orderRowO oftenO lossOneO lossOtherO vO tO mO gO), (wmCe qCe k lCe), (wmMv qMv k lMv)] ++ List.flatten [(wmWi qWi k aWi), (wmMy qMy k zMy)]) s.heap.size = A at hD ⊢
  have hA : ∀ q : Nat, s.heap.size ≤ q → A q := fun q h => by rw [← hAe]; exact Or.inr h
  have hS : va_S A s.heap s.heap [] := va_S.rf
  have hP : va_P (dC, dI) vwCl (List.flatten [(wMO qO k (qWi 0) (qMy 0) (qCe 0) (qMv 0) tapeO linesO hasO bridgeO cartO wardO frostAtO actO isKeptO loadNowO byNowO rowO memoryO whoseO deepNowO brokenByO brokenAtO goesByO comesToO sagMoreO creakOfO wipedByO deepAtO sagAtO loadAtO orderRowO oftenO lossOneO lossOtherO vO tO mO gO), (wmCe qCe k lCe), (wmMv qMv k lMv)] ++ List.flatten [(wmWi qWi k aWi), (wmMy qMy k zMy)]) s.heap := hP
  have hl := lv_entry ([.ref (qO 0), .int p1, .int p2, .int p3, .int p4, .int p5]) (n := 7) (Nat.le_of_ble_eq_true rfl)
  rw [lg_entry_eq]
  generalize (lg_sl ([.ref (qO 0), .int p1, .int p2, .int p3, .int p4, .int p5]) ++ List.replicate (7 - (lg_sl ([.ref (qO 0), .int p1, .int p2, .int p3, .int p4, .int p5])).length) Slot.unset).toArray = ls at hl ⊢
  have hl : lv_has ls 7 [(0, .ref (qO 0)), (1, .int p1), (2, .int p2), (3, .int p3), (4, .int p4), (5, .int p5)] := hl
  refine w_gen (fun Q hQ => ?_)
  refine lv_aload_n hx hb dX12_paste_0 rfl (lv_at hl 0 rfl) ?_
  refine lv_iconst (v := 0) hx hb dX12_paste_1 (by decide) ?_
  refine va_put (D := (dC, dI)) (ci := 12) (v := .int 0) (ty := .int) (C := RX12) (T := TX12) (N := 59) hx hb hts (fun w h => List.mem_cons_of_mem _ (List.mem_append_right _ (List.mem_append_left _ h))) tyX12 tyX12_ok nmX12 hown hK hP hD hS 0 rfl rfl 0 (by decide) (hts (.fieldLink RX12 116 "SagMemoryModel" "thrown" "I") (wl_mem 0 rfl)) (fun _ h9 => h9) rfl (by decide +kernel) rfl rfl (Nat.le_of_ble_eq_true rfl) dX12_paste_2 (fun H locs hP hD hS => ?_)
  have hP : va_P (dC, dI) vwCl (List.flatten [(wMO qO k (qWi 0) (qMy 0) (qCe 0) (qMv 0) tapeO linesO hasO bridgeO cartO wardO frostAtO actO isKeptO loadNowO byNowO rowO memoryO whoseO deepNowO brokenByO brokenAtO goesByO comesToO sagMoreO creakOfO wipedByO deepAtO sagAtO loadAtO orderRowO oftenO lossOneO lossOtherO (va_up vO 0 (0 : Int32)) tO mO gO), (wmCe qCe k lCe), (wmMv qMv k lMv)] ++ List.flatten [(wmWi qWi k aWi), (wmMy qMy k zMy)]) H := hP
  have hD : va_D A (List.flatten [(wMO qO k (qWi 0) (qMy 0) (qCe 0) (qMv 0) tapeO linesO hasO bridgeO cartO wardO frostAtO actO isKeptO loadNowO byNowO rowO memoryO whoseO deepNowO brokenByO brokenAtO goesByO comesToO sagMoreO creakOfO wipedByO deepAtO sagAtO loadAtO orderRowO oftenO lossOneO lossOtherO (va_up vO 0 (0 : Int32)) tO mO gO), (wmCe qCe k lCe), (wmMv qMv k lMv)] ++ List.flatten [(wmWi qWi k aWi), (wmMy qMy k zMy)]) := hD
  refine lv_iload_n hx hb dX12_paste_5 rfl (lv_at hl 1 rfl) ?_
  have hPc : va_P (dC, dI) vwCl (List.flatten ([] : List va_W)) H := fun k q h => by simp at h
  refine vp_callSi (va_Run.run (va_runS (As := [.int p1]) (rest := []) ⟨hx, hb, hml, hown, hts⟩ (c_X12_isSlot l dC dI k p1) (va_cwS 1 hts (gk_S (wl_mem 1 rfl) (wl_mem 2 rfl) (wl_mem 3 rfl) (fun w h => List.mem_cons_of_mem _ (List.mem_append_right _ (List.mem_append_right _ (List.mem_append_left _ h)))) wkg_c_X12_isSlot) rfl rfl rfl (by decide +kernel) ⟨Nat.le_of_ble_eq_true rfl, Nat.le_of_ble_eq_true rfl⟩) ⟨fun a U g mk q => by obtain ⟨q0, qP, qK⟩ := q; exact ⟨q0, qP, va_K.moved (u := U) (U := U.calling g mk a) (Vm.Alike.refl U.vm) qK⟩, fun U hU hW => ⟨rfl, by rw [hU]; exact hPc, va_K.moved hW.alike hK⟩⟩ rfl rfl hl.1 rfl (lv_room (Nat.le_of_ble_eq_true rfl)) dX12_paste_6 ⟨Nat.le_of_ble_eq_true rfl, Nat.le_of_ble_eq_true rfl⟩)) (fun rz2 gz1 => ?_)
  clear hPc
  rcases gz1 with ⟨er, cz3⟩ | ⟨er, cz4, cz5⟩ | ⟨er, cz6, cz7⟩
  · obtain rfl := er.symm
    have zz8 : p1.toInt < (0 : Int) := by have h9 := zi_ltL.mp cz3; simp only [Int32.toInt_toInt64] at h9; exact h9
    refine lv_if_eq (tgt := 19) hx hb dX12_paste_9 (by decide) (fun cz9 => ?_) (fun cz9 => ?_)
    · skip
      refine lv_bipush (v := (-2)) hx hb dX12_paste_19 (by decide) ?_
      rw [hQ]
      exact W.iret (v := (-2 : Int32)) hx hb hr (fun t ht hW => ⟨⟨(-2 : Int32), (), rfl, trivial, (va_up vO 0 (0 : Int32)), tO, mO, gO, lCe, lMv, htO, hmO, by rw [ht]; exact hP⟩, hS.F ht⟩) hS.2.2 dX12_paste_21
    · skip
      exact absurd cz9 (by decide)
  · obtain rfl := er.symm
    have zz10 : ¬ p1.toInt < (0 : Int) := by intro h9; apply cz4; rw [zi_ltL]; simp only [Int32.toInt_toInt64]; exact h9
    have zz11 : (3 : Int) < p1.toInt := by have h9 := zi_ltL.mp cz5; simp only [Int32.toInt_toInt64] at h9; exact h9
    refine lv_if_eq (tgt := 19) hx hb dX12_paste_9 (by decide) (fun cz12 => ?_) (fun cz12 => ?_)
    · skip
      refine lv_bipush (v := (-2)) hx hb dX12_paste_19 (by decide) ?_
      rw [hQ]
      exact W.iret (v := (-2 : Int32)) hx hb hr (fun t ht hW => ⟨⟨(-2 : Int32), (), rfl, trivial, (va_up vO 0 (0 : Int32)), tO, mO, gO, lCe, lMv, htO, hmO, by rw [ht]; exact hP⟩, hS.F ht⟩) hS.2.2 dX12_paste_21
    · skip
      exact absurd cz12 (by decide)
  · obtain rfl := er.symm
    have zz13 : ¬ p1.toInt < (0 : Int) := by intro h9; apply cz6; rw [zi_ltL]; simp only [Int32.toInt_toInt64]; exact h9
    have zz14 : ¬ (3 : Int) < p1.toInt := by intro h9; apply cz7; rw [zi_ltL]; simp only [Int32.toInt_toInt64]; exact h9
    refine lv_if_eq (tgt := 19) hx hb dX12_paste_9 (by decide) (fun cz15 => ?_) (fun cz15 => ?_)
    · skip
      exact absurd cz15 (by decide)
    · skip
      refine lv_iload_n hx hb dX12_paste_12 rfl (lv_at hl 3 rfl) ?_
      have hPc : va_P (dC, dI) vwCl (List.flatten ([] : List va_W)) H := fun k q h => by simp at h
      refine vp_callSi (va_Run.run (va_runS (As := [.int p3]) (rest := []) ⟨hx, hb, hml, hown, hts⟩ (c_X12_isSlot l dC dI k p3) (va_cwS 1 hts (gk_S (wl_mem 1 rfl) (wl_mem 2 rfl) (wl_mem 3 rfl) (fun w h => List.mem_cons_of_mem _ (List.mem_append_right _ (List.mem_append_right _ (List.mem_append_left _ h)))) wkg_c_X12_isSlot) rfl rfl rfl (by decide +kernel) ⟨Nat.le_of_ble_eq_true rfl, Nat.le_of_ble_eq_true rfl⟩) ⟨fun a U g mk q => by obtain ⟨q0, qP, qK⟩ := q; exact ⟨q0, qP, va_K.moved (u := U) (U := U.calling g mk a) (Vm.Alike.refl U.vm) qK⟩, fun U hU hW => ⟨rfl, by rw [hU]; exact hPc, va_K.moved hW.alike hK⟩⟩ rfl rfl hl.1 rfl (lv_room (Nat.le_of_ble_eq_true rfl)) dX12_paste_13 ⟨Nat.le_of_ble_eq_true rfl, Nat.le_of_ble_eq_true rfl⟩)) (fun rz17 gz16 => ?_)
      clear hPc
      rcases gz16 with ⟨er, cz18⟩ | ⟨er, cz19, cz20⟩ | ⟨er, cz21, cz22⟩
      · obtain rfl := er.symm
        have zz23 : p3.toInt < (0 : Int) := by have h9 := zi_ltL.mp cz18; simp only [Int32.toInt_toInt64] at h9; exact h9
        refine lv_if_ne (tgt := 22) hx hb dX12_paste_16 (by decide) (fun cz24 => ?_) (fun cz24 => ?_)
        · skip
          exact absurd cz24 (by decide)
        · skip
          refine lv_bipush (v := (-2)) hx hb dX12_paste_19 (by decide) ?_
          rw [hQ]
          exact W.iret (v := (-2 : Int32)) hx hb hr (fun t ht hW => ⟨⟨(-2 : Int32), (), rfl, trivial, (va_up vO 0 (0 : Int32)), tO, mO, gO, lCe, lMv, htO, hmO, by rw [ht]; exact hP⟩, hS.F ht⟩) hS.2.2 dX12_paste_21
      · obtain rfl := er.symm
        have zz25 : ¬ p3.toInt < (0 : Int) := by intro h9; apply cz19; rw [zi_ltL]; simp only [Int32.toInt_toInt64]; exact h9
        have zz26 : (3 : Int) < p3.toInt := by have h9 := zi_ltL.mp cz20; simp only [Int32.toInt_toInt64] at h9; exact h9
        refine lv_if_ne (tgt := 22) hx hb dX12_paste_16 (by decide) (fun cz27 => ?_) (fun cz27 => ?_)
        · skip
          exact absurd cz27 (by decide)
        · skip
          refine lv_bipush (v := (-2)) hx hb dX12_paste_19 (by decide) ?_
          rw [hQ]
          exact W.iret (v := (-2 : Int32)) hx hb hr (fun t ht hW => ⟨⟨(-2 : Int32), (), rfl, trivial, (va_up vO 0 (0 : Int32)), tO, mO, gO, lCe, lMv, htO, hmO, by rw [ht]; exact hP⟩, hS.F ht⟩) hS.2.2 dX12_paste_21
      · obtain rfl := er.symm
        have zz28 : ¬ p3.toInt < (0 : Int) := by intro h9; apply cz21; rw [zi_ltL]; simp only [Int32.toInt_toInt64]; exact h9
        have zz29 : ¬ (3 : Int) < p3.toInt := by intro h9; apply cz22; rw [zi_ltL]; simp only [Int32.toInt_toInt64]; exact h9
        refine lv_if_ne (tgt := 22) hx hb dX12_paste_16 (by decide) (fun cz30 => ?_) (fun cz30 => ?_)
        · skip
          refine lv_aload_n hx hb dX12_paste_22 rfl (lv_at hl 0 rfl) ?_
          refine va_get (D := (dC, dI)) (ci := 12) (v := .ref (qWi 0)) (C := RX12) (T := TX12) (N := 59) hx hb hts (fun w h => List.mem_cons_of_mem _ (List.mem_append_right _ (List.mem_append_left _ h))) hown hK hP 0 rfl rfl 1 (by decide) (hts (.fieldLink RX12 7 "SagMemoryModel" "width" "[I") (wl_mem 4 rfl)) (fun _ h9 => h9) rfl dX12_paste_23 ?_
          refine lv_iload_n hx hb dX12_paste_26 rfl (lv_at hl 1 rfl) ?_
          refine va_iald hx hb hK hP 3 0 rfl rfl (vp_in_iff.mpr ⟨by omega, by omega⟩) dX12_paste_27 ?_
          refine lv_topi (fun xz31 exz31 => ?_)
          refine lv_iconst (v := (-1)) hx hb dX12_paste_28 (by decide) ?_
          refine lv_icmp_eq (tgt := 42) hx hb dX12_paste_29 (by decide) (fun cz32 => ?_) (fun cz32 => ?_)
          · skip
            have zz33 : xz31.toInt = (-1 : Int) := zi_eq.mp cz32
            refine lv_bipush (v := (-6)) hx hb dX12_paste_42 (by decide) ?_
            rw [hQ]
            exact W.iret (v := (-6 : Int32)) hx hb hr (fun t ht hW => ⟨⟨(-6 : Int32), (), rfl, trivial, (va_up vO 0 (0 : Int32)), tO, mO, gO, lCe, lMv, htO, hmO, by rw [ht]; exact hP⟩, hS.F ht⟩) hS.2.2 dX12_paste_44
          · skip
            have zz34 : ¬ xz31.toInt = (-1 : Int) := fun h9 => cz32 (zi_eq.mpr h9)
            refine lv_aload_n hx hb dX12_paste_32 rfl (lv_at hl 0 rfl) ?_
            refine va_get (D := (dC, dI)) (ci := 12) (v := .ref (qWi 0)) (C := RX12) (T := TX12) (N := 59) hx hb hts (fun w h => List.mem_cons_of_mem _ (List.mem_append_right _ (List.mem_append_left _ h))) hown hK hP 0 rfl rfl 1 (by decide) (hts (.fieldLink RX12 7 "SagMemoryModel" "width" "[I") (wl_mem 4 rfl)) (fun _ h9 => h9) rfl dX12_paste_33 ?_
            refine lv_iload_n hx hb dX12_paste_36 rfl (lv_at hl 3 rfl) ?_
            refine va_iald hx hb hK hP 3 0 rfl rfl (vp_in_iff.mpr ⟨by omega, by omega⟩) dX12_paste_37 ?_
            refine lv_topi (fun xz35 exz35 => ?_)
            refine lv_iconst (v := (-1)) hx hb dX12_paste_38 (by decide) ?_
            refine lv_icmp_ne (tgt := 45) hx hb dX12_paste_39 (by decide) (fun cz36 => ?_) (fun cz36 => ?_)
            · skip
              have zz37 : ¬ xz35.toInt = (-1 : Int) := fun h9 => cz36 (zi_eq.mpr h9)
              refine lv_aload_n hx hb dX12_paste_45 rfl (lv_at hl 0 rfl) ?_
              refine va_get (D := (dC, dI)) (ci := 12) (v := .ref (qWi 0)) (C := RX12) (T := TX12) (N := 59) hx hb hts (fun w h => List.mem_cons_of_mem _ (List.mem_append_right _ (List.mem_append_left _ h))) hown hK hP 0 rfl rfl 1 (by decide) (hts (.fieldLink RX12 7 "SagMemoryModel" "width" "[I") (wl_mem 4 rfl)) (fun _ h9 => h9) rfl dX12_paste_46 ?_
              refine lv_iload_n hx hb dX12_paste_49 rfl (lv_at hl 1 rfl) ?_
              refine va_iald hx hb hK hP 3 0 rfl rfl (vp_in_iff.mpr ⟨by omega, by omega⟩) dX12_paste_50 ?_
              refine lv_topi (fun xz38 exz38 => ?_)
              refine lv_aload_n hx hb dX12_paste_51 rfl (lv_at hl 0 rfl) ?_
              refine va_get (D := (dC, dI)) (ci := 12) (v := .ref (qWi 0)) (C := RX12) (T := TX12) (N := 59) hx hb hts (fun w h => List.mem_cons_of_mem _ (List.mem_append_right _ (List.mem_append_left _ h))) hown hK hP 0 rfl rfl 1 (by decide) (hts (.fieldLink RX12 7 "SagMemoryModel" "width" "[I") (wl_mem 4 rfl)) (fun _ h9 => h9) rfl dX12_paste_52 ?_
              refine lv_iload_n hx hb dX12_paste_55 rfl (lv_at hl 3 rfl) ?_
              refine va_iald hx hb hK hP 3 0 rfl rfl (vp_in_iff.mpr ⟨by omega, by omega⟩) dX12_paste_56 ?_
              refine lv_topi (fun xz39 exz39 => ?_)
              refine lv_icmp_eq (tgt := 63) hx hb dX12_paste_57 (by decide) (fun cz40 => ?_) (fun cz40 => ?_)
              · skip
                have zz41 : xz38.toInt = xz39.toInt := zi_eq.mp cz40
                refine lv_iload_n hx hb dX12_paste_63 rfl (lv_at hl 2 rfl) ?_
                refine lv_if_lt (tgt := 112) hx hb dX12_paste_64 (by decide) (fun cz42 => ?_) (fun cz42 => ?_)
                · skip
                  have bz43 := fb_rng p2
                  have zz44 : p2.toInt < (0 : Int) := zi_lt.mp cz42
                  refine lv_bipush (v := (-7)) hx hb dX12_paste_112 (by decide) ?_
                  rw [hQ]
                  exact W.iret (v := (-7 : Int32)) hx hb hr (fun t ht hW => ⟨⟨(-7 : Int32), (), rfl, trivial, (va_up vO 0 (0 : Int32)), tO, mO, gO, lCe, lMv, htO, hmO, by rw [ht]; exact hP⟩, hS.F ht⟩) hS.2.2 dX12_paste_114
                · skip
                  have bz45 := fb_rng p2
                  have zz46 : ¬ p2.toInt < (0 : Int) := fun h9 => cz42 (zi_lt.mpr h9)
                  refine lv_iload hx hb dX12_paste_67 (lv_at hl 4 rfl) ?_
                  refine lv_if_lt (tgt := 112) hx hb dX12_paste_69 (by decide) (fun cz47 => ?_) (fun cz47 => ?_)
                  · skip
                    have bz48 := fb_rng p4
                    have zz49 : p4.toInt < (0 : Int) := zi_lt.mp cz47
                    refine lv_bipush (v := (-7)) hx hb dX12_paste_112 (by decide) ?_
                    rw [hQ]
                    exact W.iret (v := (-7 : Int32)) hx hb hr (fun t ht hW => ⟨⟨(-7 : Int32), (), rfl, trivial, (va_up vO 0 (0 : Int32)), tO, mO, gO, lCe, lMv, htO, hmO, by rw [ht]; exact hP⟩, hS.F ht⟩) hS.2.2 dX12_paste_114
                  · skip
                    have bz50 := fb_rng p4
                    have zz51 : ¬ p4.toInt < (0 : Int) := fun h9 => cz47 (zi_lt.mpr h9)
                    refine lv_iload hx hb dX12_paste_72 (lv_at hl 5 rfl) ?_
                    refine lv_if_lt (tgt := 112) hx hb dX12_paste_74 (by decide) (fun cz52 => ?_) (fun cz52 => ?_)
                    · skip
                      have bz53 := fb_rng p5
                      have zz54 : p5.toInt < (0 : Int) := zi_lt.mp cz52
                      refine lv_bipush (v := (-7)) hx hb dX12_paste_112 (by decide) ?_
                      rw [hQ]
                      exact W.iret (v := (-7 : Int32)) hx hb hr (fun t ht hW => ⟨⟨(-7 : Int32), (), rfl, trivial, (va_up vO 0 (0 : Int32)), tO, mO, gO, lCe, lMv, htO, hmO, by rw [ht]; exact hP⟩, hS.F ht⟩) hS.2.2 dX12_paste_114
                    · skip
                      have bz55 := fb_rng p5
                      have zz56 : ¬ p5.toInt < (0 : Int) := fun h9 => cz52 (zi_lt.mpr h9)
                      refine lv_iload_n hx hb dX12_paste_77 rfl (lv_at hl 2 rfl) ?_
                      refine lv_i2l hx hb dX12_paste_78 rfl ?_
                      refine lv_iload hx hb dX12_paste_79 (lv_at hl 5 rfl) ?_
                      refine lv_i2l hx hb dX12_paste_81 rfl ?_
                      refine lv_ladd hx hb dX12_paste_82 ?_
                      have bz57 := fb_rng p2
                      have bz58 := fb_rng p5
                      refine lv_topl (fun xz59 exz59 => ?_)
                      have fxz59 : xz59.toInt = p2.toInt + p5.toInt := by rw [exz59]; exact (by have h8 := fb_addL (x := p2.toInt64) (y := p5.toInt64) (by simp only [Int32.toInt_toInt64]; show -9223372036854775808 ≤ p2.toInt + p5.toInt; omega) (by simp only [Int32.toInt_toInt64]; show p2.toInt + p5.toInt < 9223372036854775808; omega); simp only [Int32.toInt_toInt64] at h8; exact h8)
                      refine lv_aload_n hx hb dX12_paste_83 rfl (lv_at hl 0 rfl) ?_
                      refine va_get (D := (dC, dI)) (ci := 12) (v := .ref (qMy 0)) (C := RX12) (T := TX12) (N := 59) hx hb hts (fun w h => List.mem_cons_of_mem _ (List.mem_append_right _ (List.mem_append_left _ h))) hown hK hP 0 rfl rfl 2 (by decide) (hts (.fieldLink RX12 13 "SagMemoryModel" "many" "[I") (wl_mem 5 rfl)) (fun _ h9 => h9) rfl dX12_paste_84 ?_
                      refine lv_iload_n hx hb dX12_paste_87 rfl (lv_at hl 1 rfl) ?_
                      refine va_iald hx hb hK hP 4 0 rfl rfl (vp_in_iff.mpr ⟨by omega, by omega⟩) dX12_paste_88 ?_
                      refine lv_topi (fun xz60 exz60 => ?_)
                      have gxz60 : xz60.toInt = ((zMy 0) p1.toNatClampNeg).toInt := congrArg Int32.toInt exz60
                      have bxz60 : 0 ≤ xz60.toInt ∧ xz60.toInt ≤ 60 := by rw [exz60]; exact (hzMy 0) _
                      refine lv_i2l hx hb dX12_paste_89 rfl ?_
                      refine W.lcmp hx hb dX12_paste_90 ?_
                      refine lv_if_gt (tgt := 112) hx hb dX12_paste_91 (by decide) (fun cz61 => ?_) (fun cz61 => ?_)
                      · skip
                        rw [lg_cmp_gt] at cz61
                        have zz62 : xz60.toInt < xz59.toInt := by have h9 := zi_ltL.mp cz61; simp only [Int32.toInt_toInt64] at h9; exact h9
                        refine lv_bipush (v := (-7)) hx hb dX12_paste_112 (by decide) ?_
                        rw [hQ]
                        exact W.iret (v := (-7 : Int32)) hx hb hr (fun t ht hW => ⟨⟨(-7 : Int32), (), rfl, trivial, (va_up vO 0 (0 : Int32)), tO, mO, gO, lCe, lMv, htO, hmO, by rw [ht]; exact hP⟩, hS.F ht⟩) hS.2.2 dX12_paste_114
                      · skip
                        rw [lg_cmp_gt] at cz61
                        have zz63 : ¬ xz60.toInt < xz59.toInt := by intro h9; apply cz61; rw [zi_ltL]; simp only [Int32.toInt_toInt64]; exact h9
                        refine lv_iload hx hb dX12_paste_94 (lv_at hl 4 rfl) ?_
                        refine lv_i2l hx hb dX12_paste_96 rfl ?_
                        refine lv_iload hx hb dX12_paste_97 (lv_at hl 5 rfl) ?_
                        refine lv_i2l hx hb dX12_paste_99 rfl ?_
                        refine lv_ladd hx hb dX12_paste_100 ?_
                        have bz64 := fb_rng p4
                        have bz65 := fb_rng p5
                        refine lv_topl (fun xz66 exz66 => ?_)
                        have fxz66 : xz66.toInt = p4.toInt + p5.toInt := by rw [exz66]; exact (by have h8 := fb_addL (x := p4.toInt64) (y := p5.toInt64) (by simp only [Int32.toInt_toInt64]; show -9223372036854775808 ≤ p4.toInt + p5.toInt; omega) (by simp only [Int32.toInt_toInt64]; show p4.toInt + p5.toInt < 9223372036854775808; omega); simp only [Int32.toInt_toInt64] at h8; exact h8)
                        refine lv_aload_n hx hb dX12_paste_101 rfl (lv_at hl 0 rfl) ?_
                        refine va_get (D := (dC, dI)) (ci := 12) (v := .ref (qMy 0)) (C := RX12) (T := TX12) (N := 59) hx hb hts (fun w h => List.mem_cons_of_mem _ (List.mem_append_right _ (List.mem_append_left _ h))) hown hK hP 0 rfl rfl 2 (by decide) (hts (.fieldLink RX12 13 "SagMemoryModel" "many" "[I") (wl_mem 5 rfl)) (fun _ h9 => h9) rfl dX12_paste_102 ?_
                        refine lv_iload_n hx hb dX12_paste_105 rfl (lv_at hl 3 rfl) ?_
                        refine va_iald hx hb hK hP 4 0 rfl rfl (vp_in_iff.mpr ⟨by omega, by omega⟩) dX12_paste_106 ?_
                        refine lv_topi (fun xz67 exz67 => ?_)
                        have gxz67 : xz67.toInt = ((zMy 0) p3.toNatClampNeg).toInt := congrArg Int32.toInt exz67
                        have bxz67 : 0 ≤ xz67.toInt ∧ xz67.toInt ≤ 60 := by rw [exz67]; exact (hzMy 0) _
                        refine lv_i2l hx hb dX12_paste_107 rfl ?_
                        refine W.lcmp hx hb dX12_paste_108 ?_
                        refine lv_if_le (tgt := 115) hx hb dX12_paste_109 (by decide) (fun cz68 => ?_) (fun cz68 => ?_)
                        · skip
                          rw [lg_cmp_le] at cz68
                          have zz69 : xz66.toInt ≤ xz67.toInt := by have h9 := zi_leL.mp cz68; simp only [Int32.toInt_toInt64] at h9; exact h9
                          refine lv_iconst (v := 0) hx hb dX12_paste_115 (by decide) ?_
                          refine lv_istore (lv' := [(6, .int 0), (0, .ref (qO 0)), (1, .int p1), (2, .int p2), (3, .int p3), (4, .int p4), (5, .int p5)]) hx hb dX12_paste_116 hl (by decide) rfl (fun ls hl => ?_)
                          have lp118_kz90 : ∀ (n9_118 : Nat) (H : Heap) (locs : List Loc) (ls : Array Slot) (lz88 : Nat → Nat → Int64) (xz89 : Int32), (2147483647 - xz89.toInt).toNat < n9_118 → 0 ≤ xz89.toInt → va_P (dC, dI) vwCl (List.flatten [(wMO qO k (qWi 0) (qMy 0) (qCe 0) (qMv 0) tapeO linesO hasO bridgeO cartO wardO frostAtO actO isKeptO loadNowO byNowO rowO memoryO whoseO deepNowO brokenByO brokenAtO goesByO comesToO sagMoreO creakOfO wipedByO deepAtO sagAtO loadAtO orderRowO oftenO lossOneO lossOtherO (va_up vO 0 (0 : Int32)) tO mO gO), (wmCe qCe k lCe), (wmMv qMv k lz88)] ++ List.flatten [(wmWi qWi k aWi), (wmMy qMy k zMy)]) H → va_D A (List.flatten [(wMO qO k (qWi 0) (qMy 0) (qCe 0) (qMv 0) tapeO linesO hasO bridgeO cartO wardO frostAtO actO isKeptO loadNowO byNowO rowO memoryO whoseO deepNowO brokenByO brokenAtO goesByO comesToO sagMoreO creakOfO wipedByO deepAtO sagAtO loadAtO orderRowO oftenO lossOneO lossOtherO (va_up vO 0 (0 : Int32)) tO mO gO), (wmCe qCe k lCe), (wmMv qMv k lz88)] ++ List.flatten [(wmWi qWi k aWi), (wmMy qMy k zMy)]) → va_S A s.heap H locs → lv_has ls 7 [(0, .ref (qO 0)), (1, .int p1), (2, .int p2), (3, .int p3), (4, .int p4), (5, .int p5), (6, .int xz89)] → W p l e (headSpec wk_c_X12_paste ({ frames := 2, cells := 0, slots := 0, locals := 45 })).room s m ([.ref (qO 0), .int p1, .int p2, .int p3, .int p4, .int p5] : List Value).toArray below meth c H locs 0 0 Q (F0 m 118 ls []) := by
                            intro n9_118
                            induction n9_118 with
                            | zero => intro H locs ls lz88 xz89 hm; exact absurd hm (Nat.not_lt_zero _)
                            | succ n9_118 ih118 =>
                              intro H locs ls lz88 xz89 hm118 jz91 hP hD hS hl
                              refine lv_iload hx hb dX12_paste_118 (lv_at hl 6 rfl) ?_
                              refine lv_iload hx hb dX12_paste_120 (lv_at hl 5 rfl) ?_
                              refine lv_icmp_ge (tgt := 152) hx hb dX12_paste_122 (by decide) (fun cz92 => ?_) (fun cz92 => ?_)
                              · skip
                                have bz93 := fb_rng xz89
                                have zz94 : p5.toInt ≤ xz89.toInt := zi_le.mp cz92
                                refine lv_iconst (v := 0) hx hb dX12_paste_152 (by decide) ?_
                                refine lv_istore (lv' := [(6, .int 0), (0, .ref (qO 0)), (1, .int p1), (2, .int p2), (3, .int p3), (4, .int p4), (5, .int p5)]) hx hb dX12_paste_153 hl (by decide) rfl (fun ls hl => ?_)
                                have lp155_kz115 : ∀ (n9_155 : Nat) (H : Heap) (locs : List Loc) (ls : Array Slot) (lz113 : Nat → Nat → Int64) (xz114 : Int32), (2147483647 - xz114.toInt).toNat < n9_155 → 0 ≤ xz114.toInt → va_P (dC, dI) vwCl (List.flatten [(wMO qO k (qWi 0) (qMy 0) (qCe 0) (qMv 0) tapeO linesO hasO bridgeO cartO wardO frostAtO actO isKeptO loadNowO byNowO rowO memoryO whoseO deepNowO brokenByO brokenAtO goesByO comesToO sagMoreO creakOfO wipedByO deepAtO sagAtO loadAtO orderRowO oftenO lossOneO lossOtherO (va_up vO 0 (0 : Int32)) tO mO gO), (wmCe qCe k lz113), (wmMv qMv k lz88)] ++ List.flatten [(wmWi qWi k aWi), (wmMy qMy k zMy)]) H → va_D A (List.flatten [(wMO qO k (qWi 0) (qMy 0) (qCe 0) (qMv 0) tapeO linesO hasO bridgeO cartO wardO frostAtO actO isKeptO loadNowO byNowO rowO memoryO whoseO deepNowO brokenByO brokenAtO goesByO comesToO sagMoreO creakOfO wipedByO deepAtO sagAtO loadAtO orderRowO oftenO lossOneO lossOtherO (va_up vO 0 (0 : Int32)) tO mO gO), (wmCe qCe k lz113), (wmMv qMv k lz88)] ++ List.flatten [(wmWi qWi k aWi), (wmMy qMy k zMy)]) → va_S A s.heap H locs → lv_has ls 7 [(0, .ref (qO 0)), (3, .int p3), (4, .int p4), (5, .int p5), (6, .int xz114)] → W p l e (headSpec wk_c_X12_paste ({ frames := 2, cells := 0, slots := 0, locals := 45 })).room s m ([.ref (qO 0), .int p1, .int p2, .int p3, .int p4, .int p5] : List Value).toArray below meth c H locs 0 0 Q (F0 m 155 ls []) := by
                                  intro n9_155
                                  induction n9_155 with
                                  | zero => intro H locs ls lz113 xz114 hm; exact absurd hm (Nat.not_lt_zero _)
                                  | succ n9_155 ih155 =>
                                    intro H locs ls lz113 xz114 hm155 jz116 hP hD hS hl
                                    refine lv_iload hx hb dX12_paste_155 (lv_at hl 4 rfl) ?_
                                    refine lv_iload hx hb dX12_paste_157 (lv_at hl 3 rfl) ?_
                                    refine lv_icmp_ge (tgt := 190) hx hb dX12_paste_159 (by decide) (fun cz117 => ?_) (fun cz117 => ?_)
                                    · skip
                                      have bz118 := fb_rng xz114
                                      have zz119 : p5.toInt ≤ xz114.toInt := zi_le.mp cz117
                                      refine lv_iconst (v := 0) hx hb dX12_paste_190 (by decide) ?_
                                      rw [hQ]
                                      exact W.iret (v := (0 : Int32)) hx hb hr (fun t ht hW => ⟨⟨(0 : Int32), (), rfl, trivial, (va_up vO 0 (0 : Int32)), tO, mO, gO, lz113, lz88, htO, hmO, by rw [ht]; exact hP⟩, hS.F ht⟩) hS.2.2 dX12_paste_191
                                    · skip
                                      have bz120 := fb_rng xz114
                                      have zz121 : ¬ p5.toInt ≤ xz114.toInt := fun h9 => cz117 (zi_le.mpr h9)
                                      refine lv_aload_n hx hb dX12_paste_162 rfl (lv_at hl 0 rfl) ?_
                                      refine va_get (D := (dC, dI)) (ci := 12) (v := .ref (qCe 0)) (C := RX12) (T := TX12) (N := 59) hx hb hts (fun w h => List.mem_cons_of_mem _ (List.mem_append_right _ (List.mem_append_left _ h))) hown hK hP 0 rfl rfl 3 (by decide) (hts (.fieldLink RX12 16 "SagMemoryModel" "cells" "[J") (wl_mem 7 rfl)) (fun _ h9 => h9) rfl dX12_paste_163 ?_
                                      refine lv_bipush (v := 60) hx hb dX12_paste_166 (by decide) ?_
                                      refine lv_iload_n hx hb dX12_paste_168 rfl (lv_at hl 1 rfl) ?_
                                      refine lv_imul hx hb dX12_paste_169 ?_
                                      refine lv_topi (fun xz122 exz122 => ?_)
                                      have fxz122 : xz122.toInt = (60 : Int) * p3.toInt := by rw [exz122]; exact fb_mulI (x := (60 : Int32)) (y := p3) (by show -2147483648 ≤ (60 : Int) * p3.toInt; omega) (by show (60 : Int) * p3.toInt < 2147483648; omega)
                                      refine lv_iload hx hb dX12_paste_170 (lv_at hl 2 rfl) ?_
                                      refine lv_iadd hx hb dX12_paste_172 ?_
                                      refine lv_topi (fun xz123 exz123 => ?_)
                                      have fxz123 : xz123.toInt = xz122.toInt + p4.toInt := by rw [exz123]; exact fb_addI (x := xz122) (y := p4) (by show -2147483648 ≤ xz122.toInt + p4.toInt; omega) (by show xz122.toInt + p4.toInt < 2147483648; omega)
                                      refine lv_iload hx hb dX12_paste_173 (lv_at hl 4 rfl) ?_
                                      refine lv_iadd hx hb dX12_paste_175 ?_
                                      refine lv_topi (fun xz124 exz124 => ?_)
                                      have fxz124 : xz124.toInt = xz123.toInt + xz114.toInt := by rw [exz124]; exact fb_addI (x := xz123) (y := xz114) (by show -2147483648 ≤ xz123.toInt + xz114.toInt; omega) (by show xz123.toInt + xz114.toInt < 2147483648; omega)
                                      refine lv_aload_n hx hb dX12_paste_176 rfl (lv_at hl 0 rfl) ?_
                                      refine va_get (D := (dC, dI)) (ci := 12) (v := .ref (qMv 0)) (C := RX12) (T := TX12) (N := 59) hx hb hts (fun w h => List.mem_cons_of_mem _ (List.mem_append_right _ (List.mem_append_left _ h))) hown hK hP 0 rfl rfl 4 (by decide) (hts (.fieldLink RX12 20 "SagMemoryModel" "moved" "[J") (wl_mem 6 rfl)) (fun _ h9 => h9) rfl dX12_paste_177 ?_
                                      refine lv_iload hx hb dX12_paste_180 (lv_at hl 4 rfl) ?_
                                      refine va_lald hx hb hK hP 2 1 rfl rfl (vp_in_iff.mpr ⟨by omega, by omega⟩) dX12_paste_182 ?_
                                      refine lv_topl (fun xz125 exz125 => ?_)
                                      refine va_last hx hb hK hP hD hS 1 1 rfl rfl (vp_in_iff.mpr ⟨by omega, by omega⟩) dX12_paste_183 (fun H locs hP hD hS => ?_)
                                      obtain ⟨fz126, efz126, hP, hD⟩ : ∃ fz126 : Nat → Int64, fz126 = vp_updL (lz113 0) xz124.toNatClampNeg xz125 ∧ va_P (dC, dI) vwCl (List.flatten [(wMO qO k (qWi 0) (qMy 0) (qCe 0) (qMv 0) tapeO linesO hasO bridgeO cartO wardO frostAtO actO isKeptO loadNowO byNowO rowO memoryO whoseO deepNowO brokenByO brokenAtO goesByO comesToO sagMoreO creakOfO wipedByO deepAtO sagAtO loadAtO orderRowO oftenO lossOneO lossOtherO (va_up vO 0 (0 : Int32)) tO mO gO), (wmCe qCe k (va_up lz113 0 fz126)), (wmMv qMv k lz88)] ++ List.flatten [(wmWi qWi k aWi), (wmMy qMy k zMy)]) H ∧ va_D A (List.flatten [(wMO qO k (qWi 0) (qMy 0) (qCe 0) (qMv 0) tapeO linesO hasO bridgeO cartO wardO frostAtO actO isKeptO loadNowO byNowO rowO memoryO whoseO deepNowO brokenByO brokenAtO goesByO comesToO sagMoreO creakOfO wipedByO deepAtO sagAtO loadAtO orderRowO oftenO lossOneO lossOtherO (va_up vO 0 (0 : Int32)) tO mO gO), (wmCe qCe k (va_up lz113 0 fz126)), (wmMv qMv k lz88)] ++ List.flatten [(wmWi qWi k aWi), (wmMy qMy k zMy)]) := ⟨_, rfl, hP, hD⟩
                                      have kfz126 : fz126 xz124.toNatClampNeg = xz125 := by rw [efz126]; exact pk_uLs
                                      obtain ⟨xz127, exz127⟩ : ∃ y : Int32, y = xz114 + Int32.ofInt (1) := ⟨_, rfl⟩
                                      have fxz127 : xz127.toInt = xz114.toInt + (1) := by rw [exz127]; exact fb_addI (y := Int32.ofInt (1)) (by show -2147483648 ≤ xz114.toInt + (1); omega) (by show xz114.toInt + (1) < 2147483648; omega)
                                      refine lv_iinc (v := xz127) (lv' := [(6, .int xz127), (0, .ref (qO 0)), (3, .int p3), (4, .int p4), (5, .int p5)]) hx hb dX12_paste_184 hl (k := 4) rfl exz127.symm (by decide) rfl (fun ls hl => ?_)
                                      refine lv_goto (tgt := 155) hx hb dX12_paste_187 (by decide) ?_
                                      exact ih155 H locs ls (va_up lz113 0 fz126) xz127 (by show (2147483647 - xz127.toInt).toNat < n9_155; omega) (by show 0 ≤ xz127.toInt; omega) hP hD hS (lv_sub hl [1, 2, 3, 4, 0] rfl)
                                exact lp155_kz115 _ H locs ls lCe (0 : Int32) (Nat.lt_succ_self _) (by show 0 ≤ (0 : Int); omega) hP hD hS (lv_sub hl [1, 4, 5, 6, 0] rfl)
                              · skip
                                have bz128 := fb_rng xz89
                                have zz129 : ¬ p5.toInt ≤ xz89.toInt := fun h9 => cz92 (zi_le.mpr h9)
                                refine lv_aload_n hx hb dX12_paste_125 rfl (lv_at hl 0 rfl) ?_
                                refine va_get (D := (dC, dI)) (ci := 12) (v := .ref (qMv 0)) (C := RX12) (T := TX12) (N := 59) hx hb hts (fun w h => List.mem_cons_of_mem _ (List.mem_append_right _ (List.mem_append_left _ h))) hown hK hP 0 rfl rfl 4 (by decide) (hts (.fieldLink RX12 20 "SagMemoryModel" "moved" "[J") (wl_mem 6 rfl)) (fun _ h9 => h9) rfl dX12_paste_126 ?_
                                refine lv_iload hx hb dX12_paste_129 (lv_at hl 6 rfl) ?_
                                refine lv_aload_n hx hb dX12_paste_131 rfl (lv_at hl 0 rfl) ?_
                                refine va_get (D := (dC, dI)) (ci := 12) (v := .ref (qCe 0)) (C := RX12) (T := TX12) (N := 59) hx hb hts (fun w h => List.mem_cons_of_mem _ (List.mem_append_right _ (List.mem_append_left _ h))) hown hK hP 0 rfl rfl 3 (by decide) (hts (.fieldLink RX12 16 "SagMemoryModel" "cells" "[J") (wl_mem 7 rfl)) (fun _ h9 => h9) rfl dX12_paste_132 ?_
                                refine lv_bipush (v := 60) hx hb dX12_paste_135 (by decide) ?_
                                refine lv_iload_n hx hb dX12_paste_137 rfl (lv_at hl 1 rfl) ?_
                                refine lv_imul hx hb dX12_paste_138 ?_
                                refine lv_topi (fun xz130 exz130 => ?_)
                                have fxz130 : xz130.toInt = (60 : Int) * p1.toInt := by rw [exz130]; exact fb_mulI (x := (60 : Int32)) (y := p1) (by show -2147483648 ≤ (60 : Int) * p1.toInt; omega) (by show (60 : Int) * p1.toInt < 2147483648; omega)
                                refine lv_iload_n hx hb dX12_paste_139 rfl (lv_at hl 2 rfl) ?_
                                refine lv_iadd hx hb dX12_paste_140 ?_
                                refine lv_topi (fun xz131 exz131 => ?_)
                                have fxz131 : xz131.toInt = xz130.toInt + p2.toInt := by rw [exz131]; exact fb_addI (x := xz130) (y := p2) (by show -2147483648 ≤ xz130.toInt + p2.toInt; omega) (by show xz130.toInt + p2.toInt < 2147483648; omega)
                                refine lv_iload hx hb dX12_paste_141 (lv_at hl 6 rfl) ?_
                                refine lv_iadd hx hb dX12_paste_143 ?_
                                refine lv_topi (fun xz132 exz132 => ?_)
                                have fxz132 : xz132.toInt = xz131.toInt + xz89.toInt := by rw [exz132]; exact fb_addI (x := xz131) (y := xz89) (by show -2147483648 ≤ xz131.toInt + xz89.toInt; omega) (by show xz131.toInt + xz89.toInt < 2147483648; omega)
                                refine va_lald hx hb hK hP 1 1 rfl rfl (vp_in_iff.mpr ⟨by omega, by omega⟩) dX12_paste_144 ?_
                                refine lv_topl (fun xz133 exz133 => ?_)
                                refine va_last hx hb hK hP hD hS 2 1 rfl rfl (vp_in_iff.mpr ⟨by omega, by omega⟩) dX12_paste_145 (fun H locs hP hD hS => ?_)
                                obtain ⟨fz134, efz134, hP, hD⟩ : ∃ fz134 : Nat → Int64, fz134 = vp_updL (lz88 0) xz89.toNatClampNeg xz133 ∧ va_P (dC, dI) vwCl (List.flatten [(wMO qO k (qWi 0) (qMy 0) (qCe 0) (qMv 0) tapeO linesO hasO bridgeO cartO wardO frostAtO actO isKeptO loadNowO byNowO rowO memoryO whoseO deepNowO brokenByO brokenAtO goesByO comesToO sagMoreO creakOfO wipedByO deepAtO sagAtO loadAtO orderRowO oftenO lossOneO lossOtherO (va_up vO 0 (0 : Int32)) tO mO gO), (wmCe qCe k lCe), (wmMv qMv k (va_up lz88 0 fz134))] ++ List.flatten [(wmWi qWi k aWi), (wmMy qMy k zMy)]) H ∧ va_D A (List.flatten [(wMO qO k (qWi 0) (qMy 0) (qCe 0) (qMv 0) tapeO linesO hasO bridgeO cartO wardO frostAtO actO isKeptO loadNowO byNowO rowO memoryO whoseO deepNowO brokenByO brokenAtO goesByO comesToO sagMoreO creakOfO wipedByO deepAtO sagAtO loadAtO orderRowO oftenO lossOneO lossOtherO (va_up vO 0 (0 : Int32)) tO mO gO), (wmCe qCe k lCe), (wmMv qMv k (va_up lz88 0 fz134))] ++ List.flatten [(wmWi qWi k aWi), (wmMy qMy k zMy)]) := ⟨_, rfl, hP, hD⟩
                                have kfz134 : fz134 xz89.toNatClampNeg = xz133 := by rw [efz134]; exact pk_uLs
                                obtain ⟨xz135, exz135⟩ : ∃ y : Int32, y = xz89 + Int32.ofInt (1) := ⟨_, rfl⟩
                                have fxz135 : xz135.toInt = xz89.toInt + (1) := by rw [exz135]; exact fb_addI (y := Int32.ofInt (1)) (by show -2147483648 ≤ xz89.toInt + (1); omega) (by show xz89.toInt + (1) < 2147483648; omega)
                                refine lv_iinc (v := xz135) (lv' := [(6, .int xz135), (0, .ref (qO 0)), (1, .int p1), (2, .int p2), (3, .int p3), (4, .int p4), (5, .int p5)]) hx hb dX12_paste_146 hl (k := 6) rfl exz135.symm (by decide) rfl (fun ls hl => ?_)
                                refine lv_goto (tgt := 118) hx hb dX12_paste_149 (by decide) ?_
                                exact ih118 H locs ls (va_up lz88 0 fz134) xz135 (by show (2147483647 - xz135.toInt).toNat < n9_118; omega) (by show 0 ≤ xz135.toInt; omega) hP hD hS (lv_sub hl [1, 2, 3, 4, 5, 6, 0] rfl)
                          exact lp118_kz90 _ H locs ls lMv (0 : Int32) (Nat.lt_succ_self _) (by show 0 ≤ (0 : Int); omega) hP hD hS (lv_sub hl [1, 2, 3, 4, 5, 6, 0] rfl)
                        · skip
                          rw [lg_cmp_le] at cz68
                          have zz136 : ¬ xz66.toInt ≤ xz67.toInt := by intro h9; apply cz68; rw [zi_leL]; simp only [Int32.toInt_toInt64]; exact h9
                          refine lv_bipush (v := (-7)) hx hb dX12_paste_112 (by decide) ?_
                          rw [hQ]
                          exact W.iret (v := (-7 : Int32)) hx hb hr (fun t ht hW => ⟨⟨(-7 : Int32), (), rfl, trivial, (va_up vO 0 (0 : Int32)), tO, mO, gO, lCe, lMv, htO, hmO, by rw [ht]; exact hP⟩, hS.F ht⟩) hS.2.2 dX12_paste_114
              · skip
                have zz137 : ¬ xz38.toInt = xz39.toInt := fun h9 => cz40 (zi_eq.mpr h9)
                refine lv_bipush (v := (-8)) hx hb dX12_paste_60 (by decide) ?_
                rw [hQ]
                exact W.iret (v := (-8 : Int32)) hx hb hr (fun t ht hW => ⟨⟨(-8 : Int32), (), rfl, trivial, (va_up vO 0 (0 : Int32)), tO, mO, gO, lCe, lMv, htO, hmO, by rw [ht]; exact hP⟩, hS.F ht⟩) hS.2.2 dX12_paste_62
            · skip
              have zz138 : xz35.toInt = (-1 : Int) := zi_eq.mp cz36
              refine lv_bipush (v := (-6)) hx hb dX12_paste_42 (by decide) ?_
              rw [hQ]
              exact W.iret (v := (-6 : Int32)) hx hb hr (fun t ht hW => ⟨⟨(-6 : Int32), (), rfl, trivial, (va_up vO 0 (0 : Int32)), tO, mO, gO, lCe, lMv, htO, hmO, by rw [ht]; exact hP⟩, hS.F ht⟩) hS.2.2 dX12_paste_44
        · skip
          exact absurd cz30 (by decide)
def wk_c_X12_lays : List Cond := .code yX12_lays cX12_lays 3 none :: ([.fieldLink RX12 34 "SagMemoryModel" "has" "[I", .fieldLink RX12 295 "SagMemoryModel" "law" "I", .fieldLink RX12 298 "SagMemoryModel" "frosts" "I", .fieldLink RX12 301 "SagMemoryModel" "absent" "I", .fieldLink RX12 46 "SagMemoryModel" "frostAt" "[I", .methodLink RX12 286 yX12_carts, .instanceMethod yX12_carts, .selects RX12 yX12_carts yX12_carts, .initialized RX12, .fieldLink RX12 56 "SagMemoryModel" "loadNow" "[I", .fieldLink RX12 40 "SagMemoryModel" "cart" "[I", .fieldLink RX12 59 "SagMemoryModel" "byNow" "[I", .fieldLink RX12 62 "SagMemoryModel" "row" "[I", .fieldLink RX12 49 "SagMemoryModel" "act" "[I"] ++ (wsX120 ++ (wk_c_X12_carts ++ [])))
theorem wkg_c_X12_lays : wk_c_X12_lays.all goodWord = true := by decide +kernel
set_option maxHeartbeats 4000000 in
set_option maxRecDepth 100000 in
theorem c_X12_lays (l : Launch) (dC : Nat → ClassId) (dI : Nat → Nat → Nat) (k : Nat → ClassId) (sz : Nat) (qO : Nat → Nat) (widthO : Nat) (manyO : Nat) (cellsO : Nat) (movedO : Nat) (tapeO : Nat) (linesO : Nat) (bridgeO : Nat) (wardO : Nat) (isKeptO : Nat) (memoryO : Nat) (whoseO : Nat) (deepNowO : Nat) (brokenByO : Nat) (brokenAtO : Nat) (goesByO : Nat) (comesToO : Nat) (sagMoreO : Nat) (creakOfO : Nat) (wipedByO : Nat) (deepAtO : Nat) (sagAtO : Nat) (loadAtO : Nat) (orderRowO : Nat) (oftenO : Nat) (lossOneO : Nat) (lossOtherO : Nat) (vO : Nat → Int32) (tO : Nat → Int32) (mO : Nat → Int32) (gO : Nat → Int64) (qHa : Nat → Nat) (hHa : Nat → Nat → Int32) (qFr : Nat → Nat) (aFr : Nat → Nat → Int32) (qCa : Nat → Nat) (pCa : Nat → Nat → Int32) (qAc : Nat → Nat) (iAc : Nat → Nat → Int32) (qLn : Nat → Nat) (aLn : Nat → Nat → Int32) (qBn : Nat → Nat) (yBn : Nat → Nat → Int32) (qRw : Nat → Nat) (rRw : Nat → Nat → Int32) (htO : Rg 0 700 tO) (hmO : Rg (-1) 127 mO) (hhHa : Pa_h hHa) (hpCa : Pa_p pCa) (hiAc : Pa_i iAc) (hyBn : RgA (-1) 2 yBn) (hrRw : RgA 0 6 rRw) : Met l yX12_lays wk_c_X12_lays ({ frames := 1, cells := 0, slots := 0, locals := 20 }) (va_Pc [.ref (qO 0)] (fun U => U.heap.size = sz ∧ va_P (dC, dI) vwCl (List.flatten [(wMO qO k widthO manyO cellsO movedO tapeO linesO (qHa 0) bridgeO (qCa 0) wardO (qFr 0) (qAc 0) isKeptO (qLn 0) (qBn 0) (qRw 0) memoryO whoseO deepNowO brokenByO brokenAtO goesByO comesToO sagMoreO creakOfO wipedByO deepAtO sagAtO loadAtO orderRowO oftenO lossOneO lossOtherO vO tO mO gO), (wmLn qLn k aLn), (wmBn qBn k yBn), (wmRw qRw k rRw)] ++ List.flatten [(wmHa qHa k hHa), (wmFr qFr k aFr), (wmCa qCa k pCa), (wmAc qAc k iAc)]) U.heap ∧ va_K (dC, dI) vwCl (tK k) U ∧ va_D (fun _ => True) (List.flatten [(wMO qO k widthO manyO cellsO movedO tapeO linesO (qHa 0) bridgeO (qCa 0) wardO (qFr 0) (qAc 0) isKeptO (qLn 0) (qBn 0) (qRw 0) memoryO whoseO deepNowO brokenByO brokenAtO goesByO comesToO sagMoreO creakOfO wipedByO deepAtO sagAtO loadAtO orderRowO oftenO lossOneO lossOtherO vO tO mO gO), (wmLn qLn k aLn), (wmBn qBn k yBn), (wmRw qRw k rRw)] ++ List.flatten [(wmHa qHa k hHa), (wmFr qFr k aFr), (wmCa qCa k pCa), (wmAc qAc k iAc)]))) (va_Qv (fun _ : Unit => True) (fun (_ : Unit) (t : State) => ∃ (vO' : Nat → Int32) (tO' : Nat → Int32) (mO' : Nat → Int32) (gO' : Nat → Int64) (aLn' : Nat → Nat → Int32) (yBn' : Nat → Nat → Int32) (rRw' : Nat → Nat → Int32), Rg 0 700 tO' ∧ Rg (-1) 127 mO' ∧ RgA (-1) 2 yBn' ∧ RgA 0 6 rRw' ∧ va_P (dC, dI) vwCl (List.flatten [(wMO qO k widthO manyO cellsO movedO tapeO linesO (qHa 0) bridgeO (qCa 0) wardO (qFr 0) (qAc 0) isKeptO (qLn 0) (qBn 0) (qRw 0) memoryO whoseO deepNowO brokenByO brokenAtO goesByO comesToO sagMoreO creakOfO wipedByO deepAtO sagAtO loadAtO orderRowO oftenO lossOneO lossOtherO vO' tO' mO' gO'), (wmLn qLn k aLn'), (wmBn qBn k yBn'), (wmRw qRw k rRw')] ++ List.flatten [(wmHa qHa k hHa), (wmFr qFr k aFr), (wmCa qCa k pCa), (wmAc qAc k iAc)]) t.heap) (va_A (List.flatten [(wMO qO k widthO manyO cellsO movedO tapeO linesO (qHa 0) bridgeO (qCa 0) wardO (qFr 0) (qAc 0) isKeptO (qLn 0) (qBn 0) (qRw 0) memoryO whoseO deepNowO brokenByO brokenAtO goesByO comesToO sagMoreO creakOfO wipedByO deepAtO sagAtO loadAtO orderRowO oftenO lossOneO lossOtherO vO tO mO gO), (wmLn qLn k aLn), (wmBn qBn k yBn), (wmRw qRw k rRw)] ++ List.flatten [(wmHa qHa k hHa), (wmFr qFr k aFr), (wmCa qCa k pCa), (wmAc qAc k iAc)]) sz)) 0 0 (va_A (List.flatten [(wMO qO k widthO manyO cellsO movedO tapeO linesO (qHa 0) bridgeO (qCa 0) wardO (qFr 0) (qAc 0) isKeptO (qLn 0) (qBn 0) (qRw 0) memoryO whoseO deepNowO brokenByO brokenAtO goesByO comesToO sagMoreO creakOfO wipedByO deepAtO sagAtO loadAtO orderRowO oftenO lossOneO lossOtherO vO tO mO gO), (wmLn qLn k aLn), (wmBn qBn k yBn), (wmRw qRw k rRw)] ++ List.flatten [(wmHa qHa k hHa), (wmFr qFr k aFr), (wmCa qCa k pCa), (wmAc qAc k iAc)]) sz) := by
  refine Met.ofW (cc := cX12_lays) (maxL := 3) (ret := none) (by decide) rfl ?_
  intro p e s m args below meth c s₁ B hml hv
  obtain ⟨rfl, hsz, hP, hK, hD0⟩ := hv
  have hx := B.exec
  have hb := B.bytes
  have hr := B.returns
  have hts := atoms_spec (ws := wk_c_X12_lays) B.pre
  have hown : s.vm.findClass RX12 = some m.cls := findClass_of_methodNamed B.named
  have hlocks := B.notSynchronized
  subst hsz
  have hD := hD0.self (sz := s.heap.size)
  generalize hAe : va_A (List.flatten [(wMO qO k widthO manyO cellsO movedO tapeO linesO (qHa 0) bridgeO (qCa 0) wardO (qFr 0) (qAc 0) isKeptO (qLn 0) (qBn 0) (qRw 0) memoryO whoseO deepNowO brokenByO brokenAtO goesByO comesToO sagMoreO creakOfO wipedByO deepAtO sagAtO loadAtO orderRowO oftenO lossOneO lossOtherO vO tO mO gO), (wmLn qLn k aLn), (wmBn qBn k yBn), (wmRw qRw k rRw)] ++ List.flatten [(wmHa qHa k hHa), (wmFr qFr k aFr), (wmCa qCa k pCa), (wmAc qAc k iAc)]) s.heap.size = A at hD ⊢
  have hA : ∀ q : Nat, s.heap.size ≤ q → A q := fun q h => by rw [← hAe]; exact Or.inr h
  have hS : va_S A s.heap s.heap [] := va_S.rf
  have hP : va_P (dC, dI) vwCl (List.flatten [(wMO qO k widthO manyO cellsO movedO tapeO linesO (qHa 0) bridgeO (qCa 0) wardO (qFr 0) (qAc 0) isKeptO (qLn 0) (qBn 0) (qRw 0) memoryO whoseO deepNowO brokenByO brokenAtO goesByO comesToO sagMoreO creakOfO wipedByO deepAtO sagAtO loadAtO orderRowO oftenO lossOneO lossOtherO vO tO mO gO), (wmLn qLn k aLn), (wmBn qBn k yBn), (wmRw qRw k rRw)] ++ List.flatten [(wmHa qHa k hHa), (wmFr qFr k aFr), (wmCa qCa k pCa), (wmAc qAc k iAc)]) s.heap := hP
  have hl := lv_entry ([.ref (qO 0)]) (n := 3) (Nat.le_of_ble_eq_true rfl)
  rw [lg_entry_eq]
  generalize (lg_sl ([.ref (qO 0)]) ++ List.replicate (3 - (lg_sl ([.ref (qO 0)])).length) Slot.unset).toArray = ls at hl ⊢
  have hl : lv_has ls 3 [(0, .ref (qO 0))] := hl
  refine w_gen (fun Q hQ => ?_)
  refine lv_aload_n hx hb dX12_lays_0 rfl (lv_at hl 0 rfl) ?_
  refine lv_aload_n hx hb dX12_lays_1 rfl (lv_at hl 0 rfl) ?_
  refine va_get (D := (dC, dI)) (ci := 12) (v := .ref (qHa 0)) (C := RX12) (T := TX12) (N := 59) hx hb hts (fun w h => List.mem_cons_of_mem _ (List.mem_append_right _ (List.mem_append_left _ h))) hown hK hP 0 rfl rfl 17 (by decide) (hts (.fieldLink RX12 34 "SagMemoryModel" "has" "[I") (wl_mem 0 rfl)) (fun _ h9 => h9) rfl dX12_lays_2 ?_
  refine lv_iconst (v := 0) hx hb dX12_lays_5 (by decide) ?_
  refine va_iald hx hb hK hP 4 0 rfl rfl (by unfold vp_in; decide) dX12_lays_6 ?_
  refine lv_topi (fun xz1 exz1 => ?_)
  have gxz1 : xz1.toInt = ((hHa 0) 0).toInt := by rw [exz1]; rfl
  refine va_put (D := (dC, dI)) (ci := 12) (v := .int xz1) (ty := .int) (C := RX12) (T := TX12) (N := 59) hx hb hts (fun w h => List.mem_cons_of_mem _ (List.mem_append_right _ (List.mem_append_left _ h))) tyX12 tyX12_ok nmX12 hown hK hP hD hS 0 rfl rfl 24 (by decide) (hts (.fieldLink RX12 295 "SagMemoryModel" "law" "I") (wl_mem 1 rfl)) (fun _ h9 => h9) rfl (by decide +kernel) rfl rfl (Nat.le_of_ble_eq_true rfl) dX12_lays_7 (fun H locs hP hD hS => ?_)
  have hP : va_P (dC, dI) vwCl (List.flatten [(wMO qO k widthO manyO cellsO movedO tapeO linesO (qHa 0) bridgeO (qCa 0) wardO (qFr 0) (qAc 0) isKeptO (qLn 0) (qBn 0) (qRw 0) memoryO whoseO deepNowO brokenByO brokenAtO goesByO comesToO sagMoreO creakOfO wipedByO deepAtO sagAtO loadAtO orderRowO oftenO lossOneO lossOtherO (va_up vO 8 xz1) tO mO gO), (wmLn qLn k aLn), (wmBn qBn k yBn), (wmRw qRw k rRw)] ++ List.flatten [(wmHa qHa k hHa), (wmFr qFr k aFr), (wmCa qCa k pCa), (wmAc qAc k iAc)]) H := hP
  have hD : va_D A (List.flatten [(wMO qO k widthO manyO cellsO movedO tapeO linesO (qHa 0) bridgeO (qCa 0) wardO (qFr 0) (qAc 0) isKeptO (qLn 0) (qBn 0) (qRw 0) memoryO whoseO deepNowO brokenByO brokenAtO goesByO comesToO sagMoreO creakOfO wipedByO deepAtO sagAtO loadAtO orderRowO oftenO lossOneO lossOtherO (va_up vO 8 xz1) tO mO gO), (wmLn qLn k aLn), (wmBn qBn k yBn), (wmRw qRw k rRw)] ++ List.flatten [(wmHa qHa k hHa), (wmFr qFr k aFr), (wmCa qCa k pCa), (wmAc qAc k iAc)]) := hD
  refine lv_aload_n hx hb dX12_lays_10 rfl (lv_at hl 0 rfl) ?_
  refine lv_iconst (v := 0) hx hb dX12_lays_11 (by decide) ?_
  refine va_put (D := (dC, dI)) (ci := 12) (v := .int 0) (ty := .int) (C := RX12) (T := TX12) (N := 59) hx hb hts (fun w h => List.mem_cons_of_mem _ (List.mem_append_right _ (List.mem_append_left _ h))) tyX12 tyX12_ok nmX12 hown hK hP hD hS 0 rfl rfl 25 (by decide) (hts (.fieldLink RX12 298 "SagMemoryModel" "frosts" "I") (wl_mem 2 rfl)) (fun _ h9 => h9) rfl (by decide +kernel) rfl rfl (Nat.le_of_ble_eq_true rfl) dX12_lays_12 (fun H locs hP hD hS => ?_)
  have hP : va_P (dC, dI) vwCl (List.flatten [(wMO qO k widthO manyO cellsO movedO tapeO linesO (qHa 0) bridgeO (qCa 0) wardO (qFr 0) (qAc 0) isKeptO (qLn 0) (qBn 0) (qRw 0) memoryO whoseO deepNowO brokenByO brokenAtO goesByO comesToO sagMoreO creakOfO wipedByO deepAtO sagAtO loadAtO orderRowO oftenO lossOneO lossOtherO (va_up (va_up vO 8 xz1) 9 (0 : Int32)) tO mO gO), (wmLn qLn k aLn), (wmBn qBn k yBn), (wmRw qRw k rRw)] ++ List.flatten [(wmHa qHa k hHa), (wmFr qFr k aFr), (wmCa qCa k pCa), (wmAc qAc k iAc)]) H := hP
  have hD : va_D A (List.flatten [(wMO qO k widthO manyO cellsO movedO tapeO linesO (qHa 0) bridgeO (qCa 0) wardO (qFr 0) (qAc 0) isKeptO (qLn 0) (qBn 0) (qRw 0) memoryO whoseO deepNowO brokenByO brokenAtO goesByO comesToO sagMoreO creakOfO wipedByO deepAtO sagAtO loadAtO orderRowO oftenO lossOneO lossOtherO (va_up (va_up vO 8 xz1) 9 (0 : Int32)) tO mO gO), (wmLn qLn k aLn), (wmBn qBn k yBn), (wmRw qRw k rRw)] ++ List.flatten [(wmHa qHa k hHa), (wmFr qFr k aFr), (wmCa qCa k pCa), (wmAc qAc k iAc)]) := hD
  refine lv_aload_n hx hb dX12_lays_15 rfl (lv_at hl 0 rfl) ?_
  refine lv_iconst (v := 0) hx hb dX12_lays_16 (by decide) ?_
  refine va_put (D := (dC, dI)) (ci := 12) (v := .int 0) (ty := .int) (C := RX12) (T := TX12) (N := 59) hx hb hts (fun w h => List.mem_cons_of_mem _ (List.mem_append_right _ (List.mem_append_left _ h))) tyX12 tyX12_ok nmX12 hown hK hP hD hS 0 rfl rfl 26 (by decide) (hts (.fieldLink RX12 301 "SagMemoryModel" "absent" "I") (wl_mem 3 rfl)) (fun _ h9 => h9) rfl (by decide +kernel) rfl rfl (Nat.le_of_ble_eq_true rfl) dX12_lays_17 (fun H locs hP hD hS => ?_)
  have hP : va_P (dC, dI) vwCl (List.flatten [(wMO qO k widthO manyO cellsO movedO tapeO linesO (qHa 0) bridgeO (qCa 0) wardO (qFr 0) (qAc 0) isKeptO (qLn 0) (qBn 0) (qRw 0) memoryO whoseO deepNowO brokenByO brokenAtO goesByO comesToO sagMoreO creakOfO wipedByO deepAtO sagAtO loadAtO orderRowO oftenO lossOneO lossOtherO (va_up (va_up (va_up vO 8 xz1) 9 (0 : Int32)) 10 (0 : Int32)) tO mO gO), (wmLn qLn k aLn), (wmBn qBn k yBn), (wmRw qRw k rRw)] ++ List.flatten [(wmHa qHa k hHa), (wmFr qFr k aFr), (wmCa qCa k pCa), (wmAc qAc k iAc)]) H := hP
  have hD : va_D A (List.flatten [(wMO qO k widthO manyO cellsO movedO tapeO linesO (qHa 0) bridgeO (qCa 0) wardO (qFr 0) (qAc 0) isKeptO (qLn 0) (qBn 0) (qRw 0) memoryO whoseO deepNowO brokenByO brokenAtO goesByO comesToO sagMoreO creakOfO wipedByO deepAtO sagAtO loadAtO orderRowO oftenO lossOneO lossOtherO (va_up (va_up (va_up vO 8 xz1) 9 (0 : Int32)) 10 (0 : Int32)) tO mO gO), (wmLn qLn k aLn), (wmBn qBn k yBn), (wmRw qRw k rRw)] ++ List.flatten [(wmHa qHa k hHa), (wmFr qFr k aFr), (wmCa qCa k pCa), (wmAc qAc k iAc)]) := hD
  refine lv_iconst (v := 0) hx hb dX12_lays_20 (by decide) ?_
  refine lv_istore_n (lv' := [(1, .int 0), (0, .ref (qO 0))]) hx hb dX12_lays_21 rfl hl (by decide) rfl (fun ls hl => ?_)
  have lp22_kz22 : ∀ (n9_22 : Nat) (H : Heap) (locs : List Loc) (ls : Array Slot) (vz20 : Nat → Int32) (xz21 : Int32), (2147483647 - xz21.toInt).toNat < n9_22 → 0 ≤ xz21.toInt → va_P (dC, dI) vwCl (List.flatten [(wMO qO k widthO manyO cellsO movedO tapeO linesO (qHa 0) bridgeO (qCa 0) wardO (qFr 0) (qAc 0) isKeptO (qLn 0) (qBn 0) (qRw 0) memoryO whoseO deepNowO brokenByO brokenAtO goesByO comesToO sagMoreO creakOfO wipedByO deepAtO sagAtO loadAtO orderRowO oftenO lossOneO lossOtherO vz20 tO mO gO), (wmLn qLn k aLn), (wmBn qBn k yBn), (wmRw qRw k rRw)] ++ List.flatten [(wmHa qHa k hHa), (wmFr qFr k aFr), (wmCa qCa k pCa), (wmAc qAc k iAc)]) H → va_D A (List.flatten [(wMO qO k widthO manyO cellsO movedO tapeO linesO (qHa 0) bridgeO (qCa 0) wardO (qFr 0) (qAc 0) isKeptO (qLn 0) (qBn 0) (qRw 0) memoryO whoseO deepNowO brokenByO brokenAtO goesByO comesToO sagMoreO creakOfO wipedByO deepAtO sagAtO loadAtO orderRowO oftenO lossOneO lossOtherO vz20 tO mO gO), (wmLn qLn k aLn), (wmBn qBn k yBn), (wmRw qRw k rRw)] ++ List.flatten [(wmHa qHa k hHa), (wmFr qFr k aFr), (wmCa qCa k pCa), (wmAc qAc k iAc)]) → va_S A s.heap H locs → lv_has ls 3 [(0, .ref (qO 0)), (1, .int xz21)] → W p l e (headSpec wk_c_X12_lays ({ frames := 1, cells := 0, slots := 0, locals := 20 })).room s m ([.ref (qO 0)] : List Value).toArray below meth c H locs 0 0 Q (F0 m 22 ls []) := by
    intro n9_22
    induction n9_22 with
    | zero => intro H locs ls vz20 xz21 hm; exact absurd hm (Nat.not_lt_zero _)
    | succ n9_22 ih22 =>
      intro H locs ls vz20 xz21 hm22 jz23 hP hD hS hl
      refine lv_iload_n hx hb dX12_lays_22 rfl (lv_at hl 1 rfl) ?_
      refine lv_aload_n hx hb dX12_lays_23 rfl (lv_at hl 0 rfl) ?_
      refine va_get (D := (dC, dI)) (ci := 12) (v := .ref (qHa 0)) (C := RX12) (T := TX12) (N := 59) hx hb hts (fun w h => List.mem_cons_of_mem _ (List.mem_append_right _ (List.mem_append_left _ h))) hown hK hP 0 rfl rfl 17 (by decide) (hts (.fieldLink RX12 34 "SagMemoryModel" "has" "[I") (wl_mem 0 rfl)) (fun _ h9 => h9) rfl dX12_lays_24 ?_
      refine lv_bipush (v := 6) hx hb dX12_lays_27 (by decide) ?_
      refine va_iald hx hb hK hP 4 0 rfl rfl (by unfold vp_in; decide) dX12_lays_29 ?_
      refine lv_topi (fun xz24 exz24 => ?_)
      have gxz24 : xz24.toInt = ((hHa 0) 6).toInt := by rw [exz24]; rfl
      have bxz24 : 0 ≤ xz24.toInt ∧ xz24.toInt ≤ 4 := by rw [exz24]; exact (hhHa 0).2.2.2.1 6 (by decide)
      refine lv_icmp_ge (tgt := 56) hx hb dX12_lays_30 (by decide) (fun cz25 => ?_) (fun cz25 => ?_)
      · skip
        have bz26 := fb_rng xz21
        have zz27 : xz24.toInt ≤ xz21.toInt := zi_le.mp cz25
        refine lv_iconst (v := 0) hx hb dX12_lays_56 (by decide) ?_
        refine lv_istore_n (lv' := [(1, .int 0), (0, .ref (qO 0))]) hx hb dX12_lays_57 rfl hl (by decide) rfl (fun ls hl => ?_)
        have lp58_kz58 : ∀ (n9_58 : Nat) (H : Heap) (locs : List Loc) (ls : Array Slot) (yz54 : Nat → Nat → Int32) (az55 : Nat → Nat → Int32) (rz56 : Nat → Nat → Int32) (xz57 : Int32), (2147483647 - xz57.toInt).toNat < n9_58 → RgA (-1) 2 yz54 → RgA 0 6 rz56 → 0 ≤ xz57.toInt → va_P (dC, dI) vwCl (List.flatten [(wMO qO k widthO manyO cellsO movedO tapeO linesO (qHa 0) bridgeO (qCa 0) wardO (qFr 0) (qAc 0) isKeptO (qLn 0) (qBn 0) (qRw 0) memoryO whoseO deepNowO brokenByO brokenAtO goesByO comesToO sagMoreO creakOfO wipedByO deepAtO sagAtO loadAtO orderRowO oftenO lossOneO lossOtherO vz20 tO mO gO), (wmLn qLn k az55), (wmBn qBn k yz54), (wmRw qRw k rz56)] ++ List.flatten [(wmHa qHa k hHa), (wmFr qFr k aFr), (wmCa qCa k pCa), (wmAc qAc k iAc)]) H → va_D A (List.flatten [(wMO qO k widthO manyO cellsO movedO tapeO linesO (qHa 0) bridgeO (qCa 0) wardO (qFr 0) (qAc 0) isKeptO (qLn 0) (qBn 0) (qRw 0) memoryO whoseO deepNowO brokenByO brokenAtO goesByO comesToO sagMoreO creakOfO wipedByO deepAtO sagAtO loadAtO orderRowO oftenO lossOneO lossOtherO vz20 tO mO gO), (wmLn qLn k az55), (wmBn qBn k yz54), (wmRw qRw k rz56)] ++ List.flatten [(wmHa qHa k hHa), (wmFr qFr k aFr), (wmCa qCa k pCa), (wmAc qAc k iAc)]) → va_S A s.heap H locs → lv_has ls 3 [(0, .ref (qO 0)), (1, .int xz57)] → W p l e (headSpec wk_c_X12_lays ({ frames := 1, cells := 0, slots := 0, locals := 20 })).room s m ([.ref (qO 0)] : List Value).toArray below meth c H locs 0 0 Q (F0 m 58 ls []) := by
          intro n9_58
          induction n9_58 with
          | zero => intro H locs ls yz54 az55 rz56 xz57 hm; exact absurd hm (Nat.not_lt_zero _)
          | succ n9_58 ih58 =>
            intro H locs ls yz54 az55 rz56 xz57 hm58 hyz54 hrz56 jz59 hP hD hS hl
            refine lv_iload_n hx hb dX12_lays_58 rfl (lv_at hl 1 rfl) ?_
            refine lv_aload_n hx hb dX12_lays_59 rfl (lv_at hl 0 rfl) ?_
            have hPc := hP.sub (ws' := (List.flatten [(wMO qO k widthO manyO cellsO movedO tapeO linesO (qHa 0) bridgeO (qCa 0) wardO (qFr 0) (qAc 0) isKeptO (qLn 0) (qBn 0) (qRw 0) memoryO whoseO deepNowO brokenByO brokenAtO goesByO comesToO sagMoreO creakOfO wipedByO deepAtO sagAtO loadAtO orderRowO oftenO lossOneO lossOtherO vz20 tO mO gO), (wmHa qHa k hHa)])) [0, 4] rfl
            refine vp_callSi (va_Run.run (va_runV (As := []) (rest := [.int xz57]) ⟨hx, hb, hml, hown, hts⟩ (c_X12_carts l dC dI k qO widthO manyO cellsO movedO tapeO linesO bridgeO (qCa 0) wardO (qFr 0) (qAc 0) isKeptO (qLn 0) (qBn 0) (qRw 0) memoryO whoseO deepNowO brokenByO brokenAtO goesByO comesToO sagMoreO creakOfO wipedByO deepAtO sagAtO loadAtO orderRowO oftenO lossOneO lossOtherO vz20 tO mO gO qHa hHa htO hmO hhHa) (cwV 0 hts (gk_V (wl_mem 5 rfl) (wl_mem 6 rfl) (wl_mem 7 rfl) (wl_mem 8 rfl) (fun w h => List.mem_cons_of_mem _ (List.mem_append_right _ (List.mem_append_right _ (List.mem_append_left _ h)))) wkg_c_X12_carts) rfl rfl rfl (by decide +kernel) ⟨Nat.le_of_ble_eq_true rfl, Nat.le_of_ble_eq_true rfl⟩) ⟨fun a U g mk q => by obtain ⟨q0, qP, qK⟩ := q; exact ⟨q0, qP, va_K.moved (u := U) (U := U.calling g mk a) (Vm.Alike.refl U.vm) qK⟩, va_recv hK hPc (ci := 12) (q0 := 0) rfl rfl, fun U hU hW => ⟨rfl, by rw [hU]; exact hPc, va_K.moved hW.alike hK⟩⟩ rfl rfl hl.1 rfl (lv_room (Nat.le_of_ble_eq_true rfl)) dX12_lays_60 ⟨Nat.le_of_ble_eq_true rfl, Nat.le_of_ble_eq_true rfl⟩)) (fun rz61 gz60 => ?_)
            clear hPc
            obtain ⟨pz62, pz63⟩ := gz60
            have pz62 : 0 ≤ rz61.toInt ∧ rz61.toInt ≤ 7 := pz62
            have pz63 : rz61.toInt = ((hHa 0) 4).toInt := pz63
            refine lv_icmp_ge (tgt := 109) hx hb dX12_lays_63 (by decide) (fun cz64 => ?_) (fun cz64 => ?_)
            · skip
              have bz65 := fb_rng xz57
              have zz66 : rz61.toInt ≤ xz57.toInt := zi_le.mp cz64
              refine lv_iconst (v := 0) hx hb dX12_lays_109 (by decide) ?_
              refine lv_istore_n (lv' := [(1, .int 0), (0, .ref (qO 0))]) hx hb dX12_lays_110 rfl hl (by decide) rfl (fun ls hl => ?_)
              have lp111_kz145 : ∀ (n9_111 : Nat) (H : Heap) (locs : List Loc) (ls : Array Slot) (yz142 : Nat → Nat → Int32) (vz143 : Nat → Int32) (xz144 : Int32), (2147483647 - xz144.toInt).toNat < n9_111 → RgA (-1) 2 yz142 → 0 ≤ xz144.toInt → va_P (dC, dI) vwCl (List.flatten [(wMO qO k widthO manyO cellsO movedO tapeO linesO (qHa 0) bridgeO (qCa 0) wardO (qFr 0) (qAc 0) isKeptO (qLn 0) (qBn 0) (qRw 0) memoryO whoseO deepNowO brokenByO brokenAtO goesByO comesToO sagMoreO creakOfO wipedByO deepAtO sagAtO loadAtO orderRowO oftenO lossOneO lossOtherO vz143 tO mO gO), (wmLn qLn k az55), (wmBn qBn k yz142), (wmRw qRw k rz56)] ++ List.flatten [(wmHa qHa k hHa), (wmFr qFr k aFr), (wmCa qCa k pCa), (wmAc qAc k iAc)]) H → va_D A (List.flatten [(wMO qO k widthO manyO cellsO movedO tapeO linesO (qHa 0) bridgeO (qCa 0) wardO (qFr 0) (qAc 0) isKeptO (qLn 0) (qBn 0) (qRw 0) memoryO whoseO deepNowO brokenByO brokenAtO goesByO comesToO sagMoreO creakOfO wipedByO deepAtO sagAtO loadAtO orderRowO oftenO lossOneO lossOtherO vz143 tO mO gO), (wmLn qLn k az55), (wmBn qBn k yz142), (wmRw qRw k rz56)] ++ List.flatten [(wmHa qHa k hHa), (wmFr qFr k aFr), (wmCa qCa k pCa), (wmAc qAc k iAc)]) → va_S A s.heap H locs → lv_has ls 3 [(0, .ref (qO 0)), (1, .int xz144)] → W p l e (headSpec wk_c_X12_lays ({ frames := 1, cells := 0, slots := 0, locals := 20 })).room s m ([.ref (qO 0)] : List Value).toArray below meth c H locs 0 0 Q (F0 m 111 ls []) := by
                intro n9_111
                induction n9_111 with
                | zero => intro H locs ls yz142 vz143 xz144 hm; exact absurd hm (Nat.not_lt_zero _)
                | succ n9_111 ih111 =>
                  intro H locs ls yz142 vz143 xz144 hm111 hyz142 jz146 hP hD hS hl
                  refine lv_iload_n hx hb dX12_lays_111 rfl (lv_at hl 1 rfl) ?_
                  refine lv_aload_n hx hb dX12_lays_112 rfl (lv_at hl 0 rfl) ?_
                  refine va_get (D := (dC, dI)) (ci := 12) (v := .ref (qHa 0)) (C := RX12) (T := TX12) (N := 59) hx hb hts (fun w h => List.mem_cons_of_mem _ (List.mem_append_right _ (List.mem_append_left _ h))) hown hK hP 0 rfl rfl 17 (by decide) (hts (.fieldLink RX12 34 "SagMemoryModel" "has" "[I") (wl_mem 0 rfl)) (fun _ h9 => h9) rfl dX12_lays_113 ?_
                  refine lv_bipush (v := 7) hx hb dX12_lays_116 (by decide) ?_
                  refine va_iald hx hb hK hP 4 0 rfl rfl (by unfold vp_in; decide) dX12_lays_118 ?_
                  refine lv_topi (fun xz147 exz147 => ?_)
                  have gxz147 : xz147.toInt = ((hHa 0) 7).toInt := by rw [exz147]; rfl
                  have bxz147 : 0 ≤ xz147.toInt ∧ xz147.toInt ≤ 30 := by rw [exz147]; exact (hhHa 0).2.2.2.2 7 (by decide)
                  refine lv_icmp_ge (tgt := 206) hx hb dX12_lays_119 (by decide) (fun cz148 => ?_) (fun cz148 => ?_)
                  · skip
                    have bz149 := fb_rng xz144
                    have zz150 : xz147.toInt ≤ xz144.toInt := zi_le.mp cz148
                    rw [hQ]
                    exact W.vret hx hb hr (fun t ht hW => ⟨⟨(), rfl, trivial, vz143, tO, mO, gO, az55, yz142, rz56, htO, hmO, hyz142, hrz56, by rw [ht]; exact hP⟩, hS.F ht⟩) hS.2.2 dX12_lays_206
                  · skip
                    have bz151 := fb_rng xz144
                    have zz152 : ¬ xz147.toInt ≤ xz144.toInt := fun h9 => cz148 (zi_le.mpr h9)
                    refine lv_aload_n hx hb dX12_lays_122 rfl (lv_at hl 0 rfl) ?_
                    refine va_get (D := (dC, dI)) (ci := 12) (v := .ref (qAc 0)) (C := RX12) (T := TX12) (N := 59) hx hb hts (fun w h => List.mem_cons_of_mem _ (List.mem_append_right _ (List.mem_append_left _ h))) hown hK hP 0 rfl rfl 22 (by decide) (hts (.fieldLink RX12 49 "SagMemoryModel" "act" "[I") (wl_mem 13 rfl)) (fun _ h9 => h9) rfl dX12_lays_123 ?_
                    refine lv_iconst (v := 3) hx hb dX12_lays_126 (by decide) ?_
                    refine lv_iload_n hx hb dX12_lays_127 rfl (lv_at hl 1 rfl) ?_
                    refine lv_imul hx hb dX12_lays_128 ?_
                    refine lv_topi (fun xz153 exz153 => ?_)
                    have fxz153 : xz153.toInt = (3 : Int) * xz144.toInt := by rw [exz153]; exact fb_mulI (x := (3 : Int32)) (y := xz144) (by show -2147483648 ≤ (3 : Int) * xz144.toInt; omega) (by show (3 : Int) * xz144.toInt < 2147483648; omega)
                    refine lv_iconst (v := 1) hx hb dX12_lays_129 (by decide) ?_
                    refine lv_iadd hx hb dX12_lays_130 ?_
                    refine lv_topi (fun xz154 exz154 => ?_)
                    have fxz154 : xz154.toInt = xz153.toInt + (1 : Int) := by rw [exz154]; exact fb_addI (x := xz153) (y := (1 : Int32)) (by show -2147483648 ≤ xz153.toInt + (1 : Int); omega) (by show xz153.toInt + (1 : Int) < 2147483648; omega)
                    refine va_iald hx hb hK hP 7 0 rfl rfl (vp_in_iff.mpr ⟨by omega, by omega⟩) dX12_lays_131 ?_
                    refine lv_topi (fun xz155 exz155 => ?_)
                    have bxz155_0 : xz154.toInt % 3 = 1 → 0 ≤ xz155.toInt ∧ xz155.toInt ≤ 6 := by rw [exz155]; exact md_rd (hiAc 0).1 (by omega)
                    have bxz155_1 : xz154.toInt % 3 = 2 → (-1) ≤ xz155.toInt ∧ xz155.toInt ≤ 2 := by rw [exz155]; exact md_rd (hiAc 0).2 (by omega)
                    refine lv_istore_n (lv' := [(2, .int xz155), (0, .ref (qO 0)), (1, .int xz144)]) hx hb dX12_lays_132 rfl hl (by decide) rfl (fun ls hl => ?_)
                    refine lv_aload_n hx hb dX12_lays_133 rfl (lv_at hl 1 rfl) ?_
                    refine va_get (D := (dC, dI)) (ci := 12) (v := .ref (qAc 0)) (C := RX12) (T := TX12) (N := 59) hx hb hts (fun w h => List.mem_cons_of_mem _ (List.mem_append_right _ (List.mem_append_left _ h))) hown hK hP 0 rfl rfl 22 (by decide) (hts (.fieldLink RX12 49 "SagMemoryModel" "act" "[I") (wl_mem 13 rfl)) (fun _ h9 => h9) rfl dX12_lays_134 ?_
                    refine lv_iconst (v := 3) hx hb dX12_lays_137 (by decide) ?_
                    refine lv_iload_n hx hb dX12_lays_138 rfl (lv_at hl 2 rfl) ?_
                    refine lv_imul hx hb dX12_lays_139 ?_
                    refine lv_topi (fun xz156 exz156 => ?_)
                    have fxz156 : xz156.toInt = (3 : Int) * xz144.toInt := by rw [exz156]; exact fb_mulI (x := (3 : Int32)) (y := xz144) (by show -2147483648 ≤ (3 : Int) * xz144.toInt; omega) (by show (3 : Int) * xz144.toInt < 2147483648; omega)
                    refine va_iald hx hb hK hP 7 0 rfl rfl (vp_in_iff.mpr ⟨by omega, by omega⟩) dX12_lays_140 ?_
                    refine lv_topi (fun xz157 exz157 => ?_)
                    have bxz157_0 : xz156.toInt % 3 = 1 → 0 ≤ xz157.toInt ∧ xz157.toInt ≤ 6 := by rw [exz157]; exact md_rd (hiAc 0).1 (by omega)
                    have bxz157_1 : xz156.toInt % 3 = 2 → (-1) ≤ xz157.toInt ∧ xz157.toInt ≤ 2 := by rw [exz157]; exact md_rd (hiAc 0).2 (by omega)
                    have ct200_kz187 : ∀ (H : Heap) (locs : List Loc) (ls : Array Slot) (yz185 : Nat → Nat → Int32) (vz186 : Nat → Int32), RgA (-1) 2 yz185 → va_P (dC, dI) vwCl (List.flatten [(wMO qO k widthO manyO cellsO movedO tapeO linesO (qHa 0) bridgeO (qCa 0) wardO (qFr 0) (qAc 0) isKeptO (qLn 0) (qBn 0) (qRw 0) memoryO whoseO deepNowO brokenByO brokenAtO goesByO comesToO sagMoreO creakOfO wipedByO deepAtO sagAtO loadAtO orderRowO oftenO lossOneO lossOtherO vz186 tO mO gO), (wmLn qLn k az55), (wmBn qBn k yz185), (wmRw qRw k rz56)] ++ List.flatten [(wmHa qHa k hHa), (wmFr qFr k aFr), (wmCa qCa k pCa), (wmAc qAc k iAc)]) H → va_D A (List.flatten [(wMO qO k widthO manyO cellsO movedO tapeO linesO (qHa 0) bridgeO (qCa 0) wardO (qFr 0) (qAc 0) isKeptO (qLn 0) (qBn 0) (qRw 0) memoryO whoseO deepNowO brokenByO brokenAtO goesByO comesToO sagMoreO creakOfO wipedByO deepAtO sagAtO loadAtO orderRowO oftenO lossOneO lossOtherO vz186 tO mO gO), (wmLn qLn k az55), (wmBn qBn k yz185), (wmRw qRw k rz56)] ++ List.flatten [(wmHa qHa k hHa), (wmFr qFr k aFr), (wmCa qCa k pCa), (wmAc qAc k iAc)]) → va_S A s.heap H locs → lv_has ls 3 [(0, .ref (qO 0)), (1, .int xz144)] → W p l e (headSpec wk_c_X12_lays ({ frames := 1, cells := 0, slots := 0, locals := 20 })).room s m ([.ref (qO 0)] : List Value).toArray below meth c H locs 0 0 Q (F0 m 200 ls []) := by
                      intro H locs ls yz185 vz186 hyz185 hP hD hS hl
                      obtain ⟨xz188, exz188⟩ : ∃ y : Int32, y = xz144 + Int32.ofInt (1) := ⟨_, rfl⟩
                      have fxz188 : xz188.toInt = xz144.toInt + (1) := by rw [exz188]; exact fb_addI (y := Int32.ofInt (1)) (by show -2147483648 ≤ xz144.toInt + (1); omega) (by show xz144.toInt + (1) < 2147483648; omega)
                      refine lv_iinc (v := xz188) (lv' := [(1, .int xz188), (0, .ref (qO 0))]) hx hb dX12_lays_200 hl (k := 1) rfl exz188.symm (by decide) rfl (fun ls hl => ?_)
                      refine lv_goto (tgt := 111) hx hb dX12_lays_203 (by decide) ?_
                      exact ih111 H locs ls yz185 vz186 xz188 (by show (2147483647 - xz188.toInt).toNat < n9_111; omega) hyz185 (by show 0 ≤ xz188.toInt; omega) hP hD hS (lv_sub hl [1, 0] rfl)
                    refine lv_if_ne (tgt := 163) hx hb dX12_lays_141 (by decide) (fun cz189 => ?_) (fun cz189 => ?_)
                    · skip
                      have zz190 : ¬ xz157.toInt = (0 : Int) := fun h9 => cz189 (zi_eq.mpr h9)
                      refine lv_aload_n hx hb dX12_lays_163 rfl (lv_at hl 1 rfl) ?_
                      refine lv_aload_n hx hb dX12_lays_164 rfl (lv_at hl 1 rfl) ?_
                      refine va_get (D := (dC, dI)) (ci := 12) (v := .ref (qAc 0)) (C := RX12) (T := TX12) (N := 59) hx hb hts (fun w h => List.mem_cons_of_mem _ (List.mem_append_right _ (List.mem_append_left _ h))) hown hK hP 0 rfl rfl 22 (by decide) (hts (.fieldLink RX12 49 "SagMemoryModel" "act" "[I") (wl_mem 13 rfl)) (fun _ h9 => h9) rfl dX12_lays_165 ?_
                      refine lv_iconst (v := 3) hx hb dX12_lays_168 (by decide) ?_
                      refine lv_iload_n hx hb dX12_lays_169 rfl (lv_at hl 2 rfl) ?_
                      refine lv_imul hx hb dX12_lays_170 ?_
                      refine lv_topi (fun xz191 exz191 => ?_)
                      have fxz191 : xz191.toInt = (3 : Int) * xz144.toInt := by rw [exz191]; exact fb_mulI (x := (3 : Int32)) (y := xz144) (by show -2147483648 ≤ (3 : Int) * xz144.toInt; omega) (by show (3 : Int) * xz144.toInt < 2147483648; omega)
                      refine va_iald hx hb hK hP 7 0 rfl rfl (vp_in_iff.mpr ⟨by omega, by omega⟩) dX12_lays_171 ?_
                      refine lv_topi (fun xz192 exz192 => ?_)
                      have bxz192_0 : xz191.toInt % 3 = 1 → 0 ≤ xz192.toInt ∧ xz192.toInt ≤ 6 := by rw [exz192]; exact md_rd (hiAc 0).1 (by omega)
                      have bxz192_1 : xz191.toInt % 3 = 2 → (-1) ≤ xz192.toInt ∧ xz192.toInt ≤ 2 := by rw [exz192]; exact md_rd (hiAc 0).2 (by omega)
                      refine lv_iconst (v := 1) hx hb dX12_lays_172 (by decide) ?_
                      refine lv_icmp_ne (tgt := 187) hx hb dX12_lays_173 (by decide) (fun cz201 => ?_) (fun cz201 => ?_)
                      · skip
                        have zz202 : ¬ xz192.toInt = (1 : Int) := fun h9 => cz201 (zi_eq.mpr h9)
                        refine lv_aload_n hx hb dX12_lays_187 rfl (lv_at hl 1 rfl) ?_
                        refine va_get (D := (dC, dI)) (ci := 12) (v := .int (vz143 9)) (C := RX12) (T := TX12) (N := 59) hx hb hts (fun w h => List.mem_cons_of_mem _ (List.mem_append_right _ (List.mem_append_left _ h))) hown hK hP 0 rfl rfl 25 (by decide) (hts (.fieldLink RX12 298 "SagMemoryModel" "frosts" "I") (wl_mem 2 rfl)) (fun _ h9 => h9) rfl dX12_lays_188 ?_
                        refine lv_iconst (v := 1) hx hb dX12_lays_191 (by decide) ?_
                        refine lv_iload_n hx hb dX12_lays_192 rfl (lv_at hl 0 rfl) ?_
                        refine lv_ishl hx hb dX12_lays_193 ?_
                        refine lv_topi (fun xz203 exz203 => ?_)
                        refine lv_iconst (v := (-1)) hx hb dX12_lays_194 (by decide) ?_
                        refine lv_ixor hx hb dX12_lays_195 ?_
                        refine lv_topi (fun xz204 exz204 => ?_)
                        refine lv_iand hx hb dX12_lays_196 ?_
                        refine lv_topi (fun xz205 exz205 => ?_)
                        refine va_put (D := (dC, dI)) (ci := 12) (v := .int xz205) (ty := .int) (C := RX12) (T := TX12) (N := 59) hx hb hts (fun w h => List.mem_cons_of_mem _ (List.mem_append_right _ (List.mem_append_left _ h))) tyX12 tyX12_ok nmX12 hown hK hP hD hS 0 rfl rfl 25 (by decide) (hts (.fieldLink RX12 298 "SagMemoryModel" "frosts" "I") (wl_mem 2 rfl)) (fun _ h9 => h9) rfl (by decide +kernel) rfl rfl (Nat.le_of_ble_eq_true rfl) dX12_lays_197 (fun H locs hP hD hS => ?_)
                        have hP : va_P (dC, dI) vwCl (List.flatten [(wMO qO k widthO manyO cellsO movedO tapeO linesO (qHa 0) bridgeO (qCa 0) wardO (qFr 0) (qAc 0) isKeptO (qLn 0) (qBn 0) (qRw 0) memoryO whoseO deepNowO brokenByO brokenAtO goesByO comesToO sagMoreO creakOfO wipedByO deepAtO sagAtO loadAtO orderRowO oftenO lossOneO lossOtherO (va_up vz143 9 xz205) tO mO gO), (wmLn qLn k az55), (wmBn qBn k yz142), (wmRw qRw k rz56)] ++ List.flatten [(wmHa qHa k hHa), (wmFr qFr k aFr), (wmCa qCa k pCa), (wmAc qAc k iAc)]) H := hP
                        have hD : va_D A (List.flatten [(wMO qO k widthO manyO cellsO movedO tapeO linesO (qHa 0) bridgeO (qCa 0) wardO (qFr 0) (qAc 0) isKeptO (qLn 0) (qBn 0) (qRw 0) memoryO whoseO deepNowO brokenByO brokenAtO goesByO comesToO sagMoreO creakOfO wipedByO deepAtO sagAtO loadAtO orderRowO oftenO lossOneO lossOtherO (va_up vz143 9 xz205) tO mO gO), (wmLn qLn k az55), (wmBn qBn k yz142), (wmRw qRw k rz56)] ++ List.flatten [(wmHa qHa k hHa), (wmFr qFr k aFr), (wmCa qCa k pCa), (wmAc qAc k iAc)]) := hD
                        exact ct200_kz187 H locs ls yz142 (va_up vz143 9 xz205)  hyz142 hP hD hS (lv_sub hl [1, 2] rfl)
                      · skip
                        have zz206 : xz192.toInt = (1 : Int) := zi_eq.mp cz201
                        refine lv_aload_n hx hb dX12_lays_176 rfl (lv_at hl 1 rfl) ?_
                        refine va_get (D := (dC, dI)) (ci := 12) (v := .int (vz143 9)) (C := RX12) (T := TX12) (N := 59) hx hb hts (fun w h => List.mem_cons_of_mem _ (List.mem_append_right _ (List.mem_append_left _ h))) hown hK hP 0 rfl rfl 25 (by decide) (hts (.fieldLink RX12 298 "SagMemoryModel" "frosts" "I") (wl_mem 2 rfl)) (fun _ h9 => h9) rfl dX12_lays_177 ?_
                        refine lv_iconst (v := 1) hx hb dX12_lays_180 (by decide) ?_
                        refine lv_iload_n hx hb dX12_lays_181 rfl (lv_at hl 0 rfl) ?_
                        refine lv_ishl hx hb dX12_lays_182 ?_
                        refine lv_topi (fun xz207 exz207 => ?_)
                        refine lv_ior hx hb dX12_lays_183 ?_
                        refine lv_topi (fun xz208 exz208 => ?_)
                        refine lv_goto (tgt := 197) hx hb dX12_lays_184 (by decide) ?_
                        refine va_put (D := (dC, dI)) (ci := 12) (v := .int xz208) (ty := .int) (C := RX12) (T := TX12) (N := 59) hx hb hts (fun w h => List.mem_cons_of_mem _ (List.mem_append_right _ (List.mem_append_left _ h))) tyX12 tyX12_ok nmX12 hown hK hP hD hS 0 rfl rfl 25 (by decide) (hts (.fieldLink RX12 298 "SagMemoryModel" "frosts" "I") (wl_mem 2 rfl)) (fun _ h9 => h9) rfl (by decide +kernel) rfl rfl (Nat.le_of_ble_eq_true rfl) dX12_lays_197 (fun H locs hP hD hS => ?_)
                        have hP : va_P (dC, dI) vwCl (List.flatten [(wMO qO k widthO manyO cellsO movedO tapeO linesO (qHa 0) bridgeO (qCa 0) wardO (qFr 0) (qAc 0) isKeptO (qLn 0) (qBn 0) (qRw 0) memoryO whoseO deepNowO brokenByO brokenAtO goesByO comesToO sagMoreO creakOfO wipedByO deepAtO sagAtO loadAtO orderRowO oftenO lossOneO lossOtherO (va_up vz143 9 xz208) tO mO gO), (wmLn qLn k az55), (wmBn qBn k yz142), (wmRw qRw k rz56)] ++ List.flatten [(wmHa qHa k hHa), (wmFr qFr k aFr), (wmCa qCa k pCa), (wmAc qAc k iAc)]) H := hP
                        have hD : va_D A (List.flatten [(wMO qO k widthO manyO cellsO movedO tapeO linesO (qHa 0) bridgeO (qCa 0) wardO (qFr 0) (qAc 0) isKeptO (qLn 0) (qBn 0) (qRw 0) memoryO whoseO deepNowO brokenByO brokenAtO goesByO comesToO sagMoreO creakOfO wipedByO deepAtO sagAtO loadAtO orderRowO oftenO lossOneO lossOtherO (va_up vz143 9 xz208) tO mO gO), (wmLn qLn k az55), (wmBn qBn k yz142), (wmRw qRw k rz56)] ++ List.flatten [(wmHa qHa k hHa), (wmFr qFr k aFr), (wmCa qCa k pCa), (wmAc qAc k iAc)]) := hD
                        exact ct200_kz187 H locs ls yz142 (va_up vz143 9 xz208)  hyz142 hP hD hS (lv_sub hl [1, 2] rfl)
                    · skip
                      have zz209 : xz157.toInt = (0 : Int) := zi_eq.mp cz189
                      refine lv_aload_n hx hb dX12_lays_144 rfl (lv_at hl 1 rfl) ?_
                      refine va_get (D := (dC, dI)) (ci := 12) (v := .ref (qBn 0)) (C := RX12) (T := TX12) (N := 59) hx hb hts (fun w h => List.mem_cons_of_mem _ (List.mem_append_right _ (List.mem_append_left _ h))) hown hK hP 0 rfl rfl 28 (by decide) (hts (.fieldLink RX12 59 "SagMemoryModel" "byNow" "[I") (wl_mem 11 rfl)) (fun _ h9 => h9) rfl dX12_lays_145 ?_
                      refine lv_iload_n hx hb dX12_lays_148 rfl (lv_at hl 0 rfl) ?_
                      refine lv_aload_n hx hb dX12_lays_149 rfl (lv_at hl 1 rfl) ?_
                      refine va_get (D := (dC, dI)) (ci := 12) (v := .ref (qAc 0)) (C := RX12) (T := TX12) (N := 59) hx hb hts (fun w h => List.mem_cons_of_mem _ (List.mem_append_right _ (List.mem_append_left _ h))) hown hK hP 0 rfl rfl 22 (by decide) (hts (.fieldLink RX12 49 "SagMemoryModel" "act" "[I") (wl_mem 13 rfl)) (fun _ h9 => h9) rfl dX12_lays_150 ?_
                      refine lv_iconst (v := 3) hx hb dX12_lays_153 (by decide) ?_
                      refine lv_iload_n hx hb dX12_lays_154 rfl (lv_at hl 2 rfl) ?_
                      refine lv_imul hx hb dX12_lays_155 ?_
                      refine lv_topi (fun xz210 exz210 => ?_)
                      have fxz210 : xz210.toInt = (3 : Int) * xz144.toInt := by rw [exz210]; exact fb_mulI (x := (3 : Int32)) (y := xz144) (by show -2147483648 ≤ (3 : Int) * xz144.toInt; omega) (by show (3 : Int) * xz144.toInt < 2147483648; omega)
                      refine lv_iconst (v := 2) hx hb dX12_lays_156 (by decide) ?_
                      refine lv_iadd hx hb dX12_lays_157 ?_
                      refine lv_topi (fun xz211 exz211 => ?_)
                      have fxz211 : xz211.toInt = xz210.toInt + (2 : Int) := by rw [exz211]; exact fb_addI (x := xz210) (y := (2 : Int32)) (by show -2147483648 ≤ xz210.toInt + (2 : Int); omega) (by show xz210.toInt + (2 : Int) < 2147483648; omega)
                      refine va_iald hx hb hK hP 7 0 rfl rfl (vp_in_iff.mpr ⟨by omega, by omega⟩) dX12_lays_158 ?_
                      refine lv_topi (fun xz212 exz212 => ?_)
                      have bxz212_0 : xz211.toInt % 3 = 1 → 0 ≤ xz212.toInt ∧ xz212.toInt ≤ 6 := by rw [exz212]; exact md_rd (hiAc 0).1 (by omega)
                      have bxz212_1 : xz211.toInt % 3 = 2 → (-1) ≤ xz212.toInt ∧ xz212.toInt ≤ 2 := by rw [exz212]; exact md_rd (hiAc 0).2 (by omega)
                      refine va_iast hx hb hK hP hD hS 2 0 rfl rfl (vp_in_iff.mpr ⟨by omega, by omega⟩) dX12_lays_159 (fun H locs hP hD hS => ?_)
                      obtain ⟨fz213, efz213, hP, hD⟩ : ∃ fz213 : Nat → Int32, fz213 = upd (yz142 0) xz155.toNatClampNeg xz212 ∧ va_P (dC, dI) vwCl (List.flatten [(wMO qO k widthO manyO cellsO movedO tapeO linesO (qHa 0) bridgeO (qCa 0) wardO (qFr 0) (qAc 0) isKeptO (qLn 0) (qBn 0) (qRw 0) memoryO whoseO deepNowO brokenByO brokenAtO goesByO comesToO sagMoreO creakOfO wipedByO deepAtO sagAtO loadAtO orderRowO oftenO lossOneO lossOtherO vz143 tO mO gO), (wmLn qLn k az55), (wmBn qBn k (va_up yz142 0 fz213)), (wmRw qRw k rz56)] ++ List.flatten [(wmHa qHa k hHa), (wmFr qFr k aFr), (wmCa qCa k pCa), (wmAc qAc k iAc)]) H ∧ va_D A (List.flatten [(wMO qO k widthO manyO cellsO movedO tapeO linesO (qHa 0) bridgeO (qCa 0) wardO (qFr 0) (qAc 0) isKeptO (qLn 0) (qBn 0) (qRw 0) memoryO whoseO deepNowO brokenByO brokenAtO goesByO comesToO sagMoreO creakOfO wipedByO deepAtO sagAtO loadAtO orderRowO oftenO lossOneO lossOtherO vz143 tO mO gO), (wmLn qLn k az55), (wmBn qBn k (va_up yz142 0 fz213)), (wmRw qRw k rz56)] ++ List.flatten [(wmHa qHa k hHa), (wmFr qFr k aFr), (wmCa qCa k pCa), (wmAc qAc k iAc)]) := ⟨_, rfl, hP, hD⟩
                      have hfz213 : Rg (-1) 2 fz213 := by rw [efz213]; exact rg_upd (hyz142 0) (by show (-1) ≤ xz212.toInt ∧ xz212.toInt ≤ 2; omega)
                      have kfz213 : fz213 xz155.toNatClampNeg = xz212 := by rw [efz213]; exact pk_us
                      refine lv_goto (tgt := 200) hx hb dX12_lays_160 (by decide) ?_
                      exact ct200_kz187 H locs ls (va_up yz142 0 fz213) vz143  (rga_up hyz142 hfz213) hP hD hS (lv_sub hl [1, 2] rfl)
              exact lp111_kz145 _ H locs ls yz54 vz20 (0 : Int32) (Nat.lt_succ_self _) hyz54 (by show 0 ≤ (0 : Int); omega) hP hD hS (lv_sub hl [1, 0] rfl)
            · skip
              have bz214 := fb_rng xz57
              have zz215 : ¬ rz61.toInt ≤ xz57.toInt := fun h9 => cz64 (zi_le.mpr h9)
              refine lv_aload_n hx hb dX12_lays_66 rfl (lv_at hl 0 rfl) ?_
              refine va_get (D := (dC, dI)) (ci := 12) (v := .ref (qLn 0)) (C := RX12) (T := TX12) (N := 59) hx hb hts (fun w h => List.mem_cons_of_mem _ (List.mem_append_right _ (List.mem_append_left _ h))) hown hK hP 0 rfl rfl 27 (by decide) (hts (.fieldLink RX12 56 "SagMemoryModel" "loadNow" "[I") (wl_mem 9 rfl)) (fun _ h9 => h9) rfl dX12_lays_67 ?_
              refine lv_iload_n hx hb dX12_lays_70 rfl (lv_at hl 1 rfl) ?_
              refine lv_aload_n hx hb dX12_lays_71 rfl (lv_at hl 0 rfl) ?_
              refine va_get (D := (dC, dI)) (ci := 12) (v := .ref (qCa 0)) (C := RX12) (T := TX12) (N := 59) hx hb hts (fun w h => List.mem_cons_of_mem _ (List.mem_append_right _ (List.mem_append_left _ h))) hown hK hP 0 rfl rfl 19 (by decide) (hts (.fieldLink RX12 40 "SagMemoryModel" "cart" "[I") (wl_mem 10 rfl)) (fun _ h9 => h9) rfl dX12_lays_72 ?_
              refine lv_iconst (v := 2) hx hb dX12_lays_75 (by decide) ?_
              refine lv_iload_n hx hb dX12_lays_76 rfl (lv_at hl 1 rfl) ?_
              refine lv_imul hx hb dX12_lays_77 ?_
              refine lv_topi (fun xz216 exz216 => ?_)
              have fxz216 : xz216.toInt = (2 : Int) * xz57.toInt := by rw [exz216]; exact fb_mulI (x := (2 : Int32)) (y := xz57) (by show -2147483648 ≤ (2 : Int) * xz57.toInt; omega) (by show (2 : Int) * xz57.toInt < 2147483648; omega)
              refine va_iald hx hb hK hP 6 0 rfl rfl (vp_in_iff.mpr ⟨by omega, by omega⟩) dX12_lays_78 ?_
              refine lv_topi (fun xz217 exz217 => ?_)
              have bxz217_0 : xz216.toInt % 2 = 1 → 0 ≤ xz217.toInt ∧ xz217.toInt ≤ 2 := by rw [exz217]; exact md_rd (hpCa 0) (by omega)
              refine va_iast hx hb hK hP hD hS 1 0 rfl rfl (vp_in_iff.mpr ⟨by omega, by omega⟩) dX12_lays_79 (fun H locs hP hD hS => ?_)
              obtain ⟨fz218, efz218, hP, hD⟩ : ∃ fz218 : Nat → Int32, fz218 = upd (az55 0) xz57.toNatClampNeg xz217 ∧ va_P (dC, dI) vwCl (List.flatten [(wMO qO k widthO manyO cellsO movedO tapeO linesO (qHa 0) bridgeO (qCa 0) wardO (qFr 0) (qAc 0) isKeptO (qLn 0) (qBn 0) (qRw 0) memoryO whoseO deepNowO brokenByO brokenAtO goesByO comesToO sagMoreO creakOfO wipedByO deepAtO sagAtO loadAtO orderRowO oftenO lossOneO lossOtherO vz20 tO mO gO), (wmLn qLn k (va_up az55 0 fz218)), (wmBn qBn k yz54), (wmRw qRw k rz56)] ++ List.flatten [(wmHa qHa k hHa), (wmFr qFr k aFr), (wmCa qCa k pCa), (wmAc qAc k iAc)]) H ∧ va_D A (List.flatten [(wMO qO k widthO manyO cellsO movedO tapeO linesO (qHa 0) bridgeO (qCa 0) wardO (qFr 0) (qAc 0) isKeptO (qLn 0) (qBn 0) (qRw 0) memoryO whoseO deepNowO brokenByO brokenAtO goesByO comesToO sagMoreO creakOfO wipedByO deepAtO sagAtO loadAtO orderRowO oftenO lossOneO lossOtherO vz20 tO mO gO), (wmLn qLn k (va_up az55 0 fz218)), (wmBn qBn k yz54), (wmRw qRw k rz56)] ++ List.flatten [(wmHa qHa k hHa), (wmFr qFr k aFr), (wmCa qCa k pCa), (wmAc qAc k iAc)]) := ⟨_, rfl, hP, hD⟩
              have kfz218 : fz218 xz57.toNatClampNeg = xz217 := by rw [efz218]; exact pk_us
              refine lv_aload_n hx hb dX12_lays_80 rfl (lv_at hl 0 rfl) ?_
              refine va_get (D := (dC, dI)) (ci := 12) (v := .ref (qBn 0)) (C := RX12) (T := TX12) (N := 59) hx hb hts (fun w h => List.mem_cons_of_mem _ (List.mem_append_right _ (List.mem_append_left _ h))) hown hK hP 0 rfl rfl 28 (by decide) (hts (.fieldLink RX12 59 "SagMemoryModel" "byNow" "[I") (wl_mem 11 rfl)) (fun _ h9 => h9) rfl dX12_lays_81 ?_
              refine lv_iload_n hx hb dX12_lays_84 rfl (lv_at hl 1 rfl) ?_
              refine lv_aload_n hx hb dX12_lays_85 rfl (lv_at hl 0 rfl) ?_
              refine va_get (D := (dC, dI)) (ci := 12) (v := .ref (qCa 0)) (C := RX12) (T := TX12) (N := 59) hx hb hts (fun w h => List.mem_cons_of_mem _ (List.mem_append_right _ (List.mem_append_left _ h))) hown hK hP 0 rfl rfl 19 (by decide) (hts (.fieldLink RX12 40 "SagMemoryModel" "cart" "[I") (wl_mem 10 rfl)) (fun _ h9 => h9) rfl dX12_lays_86 ?_
              refine lv_iconst (v := 2) hx hb dX12_lays_89 (by decide) ?_
              refine lv_iload_n hx hb dX12_lays_90 rfl (lv_at hl 1 rfl) ?_
              refine lv_imul hx hb dX12_lays_91 ?_
              refine lv_topi (fun xz219 exz219 => ?_)
              have fxz219 : xz219.toInt = (2 : Int) * xz57.toInt := by rw [exz219]; exact fb_mulI (x := (2 : Int32)) (y := xz57) (by show -2147483648 ≤ (2 : Int) * xz57.toInt; omega) (by show (2 : Int) * xz57.toInt < 2147483648; omega)
              refine lv_iconst (v := 1) hx hb dX12_lays_92 (by decide) ?_
              refine lv_iadd hx hb dX12_lays_93 ?_
              refine lv_topi (fun xz220 exz220 => ?_)
              have fxz220 : xz220.toInt = xz219.toInt + (1 : Int) := by rw [exz220]; exact fb_addI (x := xz219) (y := (1 : Int32)) (by show -2147483648 ≤ xz219.toInt + (1 : Int); omega) (by show xz219.toInt + (1 : Int) < 2147483648; omega)
              refine va_iald hx hb hK hP 6 0 rfl rfl (vp_in_iff.mpr ⟨by omega, by omega⟩) dX12_lays_94 ?_
              refine lv_topi (fun xz221 exz221 => ?_)
              have bxz221_0 : xz220.toInt % 2 = 1 → 0 ≤ xz221.toInt ∧ xz221.toInt ≤ 2 := by rw [exz221]; exact md_rd (hpCa 0) (by omega)
              refine va_iast hx hb hK hP hD hS 2 0 rfl rfl (vp_in_iff.mpr ⟨by omega, by omega⟩) dX12_lays_95 (fun H locs hP hD hS => ?_)
              obtain ⟨fz222, efz222, hP, hD⟩ : ∃ fz222 : Nat → Int32, fz222 = upd (yz54 0) xz57.toNatClampNeg xz221 ∧ va_P (dC, dI) vwCl (List.flatten [(wMO qO k widthO manyO cellsO movedO tapeO linesO (qHa 0) bridgeO (qCa 0) wardO (qFr 0) (qAc 0) isKeptO (qLn 0) (qBn 0) (qRw 0) memoryO whoseO deepNowO brokenByO brokenAtO goesByO comesToO sagMoreO creakOfO wipedByO deepAtO sagAtO loadAtO orderRowO oftenO lossOneO lossOtherO vz20 tO mO gO), (wmLn qLn k (va_up az55 0 fz218)), (wmBn qBn k (va_up yz54 0 fz222)), (wmRw qRw k rz56)] ++ List.flatten [(wmHa qHa k hHa), (wmFr qFr k aFr), (wmCa qCa k pCa), (wmAc qAc k iAc)]) H ∧ va_D A (List.flatten [(wMO qO k widthO manyO cellsO movedO tapeO linesO (qHa 0) bridgeO (qCa 0) wardO (qFr 0) (qAc 0) isKeptO (qLn 0) (qBn 0) (qRw 0) memoryO whoseO deepNowO brokenByO brokenAtO goesByO comesToO sagMoreO creakOfO wipedByO deepAtO sagAtO loadAtO orderRowO oftenO lossOneO lossOtherO vz20 tO mO gO), (wmLn qLn k (va_up az55 0 fz218)), (wmBn qBn k (va_up yz54 0 fz222)), (wmRw qRw k rz56)] ++ List.flatten [(wmHa qHa k hHa), (wmFr qFr k aFr), (wmCa qCa k pCa), (wmAc qAc k iAc)]) := ⟨_, rfl, hP, hD⟩
              have hfz222 : Rg (-1) 2 fz222 := by rw [efz222]; exact rg_upd (hyz54 0) (by show (-1) ≤ xz221.toInt ∧ xz221.toInt ≤ 2; omega)
              have kfz222 : fz222 xz57.toNatClampNeg = xz221 := by rw [efz222]; exact pk_us
              refine lv_aload_n hx hb dX12_lays_96 rfl (lv_at hl 0 rfl) ?_
              refine va_get (D := (dC, dI)) (ci := 12) (v := .ref (qRw 0)) (C := RX12) (T := TX12) (N := 59) hx hb hts (fun w h => List.mem_cons_of_mem _ (List.mem_append_right _ (List.mem_append_left _ h))) hown hK hP 0 rfl rfl 29 (by decide) (hts (.fieldLink RX12 62 "SagMemoryModel" "row" "[I") (wl_mem 12 rfl)) (fun _ h9 => h9) rfl dX12_lays_97 ?_
              refine lv_iload_n hx hb dX12_lays_100 rfl (lv_at hl 1 rfl) ?_
              refine lv_iload_n hx hb dX12_lays_101 rfl (lv_at hl 1 rfl) ?_
              refine va_iast hx hb hK hP hD hS 3 0 rfl rfl (vp_in_iff.mpr ⟨by omega, by omega⟩) dX12_lays_102 (fun H locs hP hD hS => ?_)
              obtain ⟨fz223, efz223, hP, hD⟩ : ∃ fz223 : Nat → Int32, fz223 = upd (rz56 0) xz57.toNatClampNeg xz57 ∧ va_P (dC, dI) vwCl (List.flatten [(wMO qO k widthO manyO cellsO movedO tapeO linesO (qHa 0) bridgeO (qCa 0) wardO (qFr 0) (qAc 0) isKeptO (qLn 0) (qBn 0) (qRw 0) memoryO whoseO deepNowO brokenByO brokenAtO goesByO comesToO sagMoreO creakOfO wipedByO deepAtO sagAtO loadAtO orderRowO oftenO lossOneO lossOtherO vz20 tO mO gO), (wmLn qLn k (va_up az55 0 fz218)), (wmBn qBn k (va_up yz54 0 fz222)), (wmRw qRw k (va_up rz56 0 fz223))] ++ List.flatten [(wmHa qHa k hHa), (wmFr qFr k aFr), (wmCa qCa k pCa), (wmAc qAc k iAc)]) H ∧ va_D A (List.flatten [(wMO qO k widthO manyO cellsO movedO tapeO linesO (qHa 0) bridgeO (qCa 0) wardO (qFr 0) (qAc 0) isKeptO (qLn 0) (qBn 0) (qRw 0) memoryO whoseO deepNowO brokenByO brokenAtO goesByO comesToO sagMoreO creakOfO wipedByO deepAtO sagAtO loadAtO orderRowO oftenO lossOneO lossOtherO vz20 tO mO gO), (wmLn qLn k (va_up az55 0 fz218)), (wmBn qBn k (va_up yz54 0 fz222)), (wmRw qRw k (va_up rz56 0 fz223))] ++ List.flatten [(wmHa qHa k hHa), (wmFr qFr k aFr), (wmCa qCa k pCa), (wmAc qAc k iAc)]) := ⟨_, rfl, hP, hD⟩
              have hfz223 : Rg 0 6 fz223 := by rw [efz223]; exact rg_upd (hrz56 0) (by show 0 ≤ xz57.toInt ∧ xz57.toInt ≤ 6; omega)
              have kfz223 : fz223 xz57.toNatClampNeg = xz57 := by rw [efz223]; exact pk_us
              obtain ⟨xz224, exz224⟩ : ∃ y : Int32, y = xz57 + Int32.ofInt (1) := ⟨_, rfl⟩
              have fxz224 : xz224.toInt = xz57.toInt + (1) := by rw [exz224]; exact fb_addI (y := Int32.ofInt (1)) (by show -2147483648 ≤ xz57.toInt + (1); omega) (by show xz57.toInt + (1) < 2147483648; omega)
              refine lv_iinc (v := xz224) (lv' := [(1, .int xz224), (0, .ref (qO 0))]) hx hb dX12_lays_103 hl (k := 1) rfl exz224.symm (by decide) rfl (fun ls hl => ?_)
              refine lv_goto (tgt := 58) hx hb dX12_lays_106 (by decide) ?_
              exact ih58 H locs ls (va_up yz54 0 fz222) (va_up az55 0 fz218) (va_up rz56 0 fz223) xz224 (by show (2147483647 - xz224.toInt).toNat < n9_58; omega) (rga_up hyz54 hfz222) (rga_up hrz56 hfz223) (by show 0 ≤ xz224.toInt; omega) hP hD hS (lv_sub hl [1, 0] rfl)
        exact lp58_kz58 _ H locs ls yBn aLn rRw (0 : Int32) (Nat.lt_succ_self _) hyBn hrRw (by show 0 ≤ (0 : Int); omega) hP hD hS (lv_sub hl [1, 0] rfl)
      · skip
        have bz225 := fb_rng xz21
        have zz226 : ¬ xz24.toInt ≤ xz21.toInt := fun h9 => cz25 (zi_le.mpr h9)
        refine lv_aload_n hx hb dX12_lays_33 rfl (lv_at hl 0 rfl) ?_
        refine lv_dup hx hb dX12_lays_34 rfl ?_
        refine va_get (D := (dC, dI)) (ci := 12) (v := .int (vz20 9)) (C := RX12) (T := TX12) (N := 59) hx hb hts (fun w h => List.mem_cons_of_mem _ (List.mem_append_right _ (List.mem_append_left _ h))) hown hK hP 0 rfl rfl 25 (by decide) (hts (.fieldLink RX12 298 "SagMemoryModel" "frosts" "I") (wl_mem 2 rfl)) (fun _ h9 => h9) rfl dX12_lays_35 ?_
        refine lv_iconst (v := 1) hx hb dX12_lays_38 (by decide) ?_
        refine lv_aload_n hx hb dX12_lays_39 rfl (lv_at hl 0 rfl) ?_
        refine va_get (D := (dC, dI)) (ci := 12) (v := .ref (qFr 0)) (C := RX12) (T := TX12) (N := 59) hx hb hts (fun w h => List.mem_cons_of_mem _ (List.mem_append_right _ (List.mem_append_left _ h))) hown hK hP 0 rfl rfl 21 (by decide) (hts (.fieldLink RX12 46 "SagMemoryModel" "frostAt" "[I") (wl_mem 4 rfl)) (fun _ h9 => h9) rfl dX12_lays_40 ?_
        refine lv_iload_n hx hb dX12_lays_43 rfl (lv_at hl 1 rfl) ?_
        refine va_iald hx hb hK hP 5 0 rfl rfl (vp_in_iff.mpr ⟨by omega, by omega⟩) dX12_lays_44 ?_
        refine lv_topi (fun xz227 exz227 => ?_)
        refine lv_ishl hx hb dX12_lays_45 ?_
        refine lv_topi (fun xz228 exz228 => ?_)
        refine lv_ior hx hb dX12_lays_46 ?_
        refine lv_topi (fun xz229 exz229 => ?_)
        refine va_put (D := (dC, dI)) (ci := 12) (v := .int xz229) (ty := .int) (C := RX12) (T := TX12) (N := 59) hx hb hts (fun w h => List.mem_cons_of_mem _ (List.mem_append_right _ (List.mem_append_left _ h))) tyX12 tyX12_ok nmX12 hown hK hP hD hS 0 rfl rfl 25 (by decide) (hts (.fieldLink RX12 298 "SagMemoryModel" "frosts" "I") (wl_mem 2 rfl)) (fun _ h9 => h9) rfl (by decide +kernel) rfl rfl (Nat.le_of_ble_eq_true rfl) dX12_lays_47 (fun H locs hP hD hS => ?_)
        have hP : va_P (dC, dI) vwCl (List.flatten [(wMO qO k widthO manyO cellsO movedO tapeO linesO (qHa 0) bridgeO (qCa 0) wardO (qFr 0) (qAc 0) isKeptO (qLn 0) (qBn 0) (qRw 0) memoryO whoseO deepNowO brokenByO brokenAtO goesByO comesToO sagMoreO creakOfO wipedByO deepAtO sagAtO loadAtO orderRowO oftenO lossOneO lossOtherO (va_up vz20 9 xz229) tO mO gO), (wmLn qLn k aLn), (wmBn qBn k yBn), (wmRw qRw k rRw)] ++ List.flatten [(wmHa qHa k hHa), (wmFr qFr k aFr), (wmCa qCa k pCa), (wmAc qAc k iAc)]) H := hP
        have hD : va_D A (List.flatten [(wMO qO k widthO manyO cellsO movedO tapeO linesO (qHa 0) bridgeO (qCa 0) wardO (qFr 0) (qAc 0) isKeptO (qLn 0) (qBn 0) (qRw 0) memoryO whoseO deepNowO brokenByO brokenAtO goesByO comesToO sagMoreO creakOfO wipedByO deepAtO sagAtO loadAtO orderRowO oftenO lossOneO lossOtherO (va_up vz20 9 xz229) tO mO gO), (wmLn qLn k aLn), (wmBn qBn k yBn), (wmRw qRw k rRw)] ++ List.flatten [(wmHa qHa k hHa), (wmFr qFr k aFr), (wmCa qCa k pCa), (wmAc qAc k iAc)]) := hD
        obtain ⟨xz230, exz230⟩ : ∃ y : Int32, y = xz21 + Int32.ofInt (1) := ⟨_, rfl⟩
        have fxz230 : xz230.toInt = xz21.toInt + (1) := by rw [exz230]; exact fb_addI (y := Int32.ofInt (1)) (by show -2147483648 ≤ xz21.toInt + (1); omega) (by show xz21.toInt + (1) < 2147483648; omega)
        refine lv_iinc (v := xz230) (lv' := [(1, .int xz230), (0, .ref (qO 0))]) hx hb dX12_lays_50 hl (k := 1) rfl exz230.symm (by decide) rfl (fun ls hl => ?_)
        refine lv_goto (tgt := 22) hx hb dX12_lays_53 (by decide) ?_
        exact ih22 H locs ls (va_up vz20 9 xz229) xz230 (by show (2147483647 - xz230.toInt).toNat < n9_22; omega) (by show 0 ≤ xz230.toInt; omega) hP hD hS (lv_sub hl [1, 0] rfl)
  exact lp22_kz22 _ H locs ls (va_up (va_up (va_up vO 8 xz1) 9 (0 : Int32)) 10 (0 : Int32)) (0 : Int32) (Nat.lt_succ_self _) (by show 0 ≤ (0 : Int); omega) hP hD hS (lv_sub hl [1, 0] rfl)
