def wk_c_X12_runs : List Cond := .code yX12_runs cX12_runs 4 none :: ([.methodLink RX12 324 yX12_begin, .instanceMethod yX12_begin, .selects RX12 yX12_begin yX12_begin, .initialized RX12, .methodLink RX12 286 yX12_carts, .instanceMethod yX12_carts, .selects RX12 yX12_carts yX12_carts, .methodLink RX12 327 yX12_turn, .instanceMethod yX12_turn, .selects RX12 yX12_turn yX12_turn, .methodLink RX12 283 yX12_bridges, .instanceMethod yX12_bridges, .selects RX12 yX12_bridges yX12_bridges, .fieldLink RX12 95 "SagMemoryModel" "deepAt" "[I", .fieldLink RX12 71 "SagMemoryModel" "deepNow" "[I", .fieldLink RX12 98 "SagMemoryModel" "sagAt" "[I", .methodLink RX12 317 yX12_sagOf, .instanceMethod yX12_sagOf, .selects RX12 yX12_sagOf yX12_sagOf, .fieldLink RX12 101 "SagMemoryModel" "loadAt" "[I", .fieldLink RX12 65 "SagMemoryModel" "memory" "[I"] ++ (wk_c_X12_begin ++ (wk_c_X12_carts ++ (wk_c_X12_turn ++ (wk_c_X12_bridges ++ (wsX120 ++ (wk_c_X12_sagOf ++ [])))))))
theorem wkg_c_X12_runs : wk_c_X12_runs.all goodWord = true := by decide +kernel
set_option maxHeartbeats 4000000 in
set_option maxRecDepth 100000 in
theorem c_X12_runs (l : Launch) (dC : Nat → ClassId) (dI : Nat → Nat → Nat) (k : Nat → ClassId) (sz : Nat) (qO : Nat → Nat) (widthO : Nat) (manyO : Nat) (cellsO : Nat) (movedO : Nat) (tapeO : Nat) (linesO : Nat) (cartO : Nat) (frostAtO : Nat) (actO : Nat) (isKeptO : Nat) (orderRowO : Nat) (oftenO : Nat) (lossOneO : Nat) (lossOtherO : Nat) (vO : Nat → Int32) (tO : Nat → Int32) (mO : Nat → Int32) (gO : Nat → Int64) (qHa : Nat → Nat) (hHa : Nat → Nat → Int32) (qWa : Nat → Nat) (jWa : Nat → Nat → Int32) (qBn : Nat → Nat) (yBn : Nat → Nat → Int32) (qLn : Nat → Nat) (aLn : Nat → Nat → Int32) (qBr : Nat → Nat) (aBr : Nat → Nat → Int32) (qRw : Nat → Nat) (rRw : Nat → Nat → Int32) (qGb : Nat → Nat) (yGb : Nat → Nat → Int32) (qCt : Nat → Nat) (aCt : Nat → Nat → Int32) (qSm : Nat → Nat) (aSm : Nat → Nat → Int32) (qCo : Nat → Nat) (aCo : Nat → Nat → Int32) (qWb : Nat → Nat) (aWb : Nat → Nat → Int32) (qDn : Nat → Nat) (uDn : Nat → Nat → Int32) (qMe : Nat → Nat) (aMe : Nat → Nat → Int32) (qWh : Nat → Nat) (aWh : Nat → Nat → Int32) (qBb : Nat → Nat) (aBb : Nat → Nat → Int32) (qBa : Nat → Nat) (aBa : Nat → Nat → Int32) (qDa : Nat → Nat) (oDa : Nat → Nat → Int32) (qSa : Nat → Nat) (aSa : Nat → Nat → Int32) (qLa : Nat → Nat) (aLa : Nat → Nat → Int32) (htO : Rg 0 700 tO) (hmO : Rg (-1) 127 mO) (hhHa : Pa_h hHa) (hjWa : Pa_j jWa) (hyBn : RgA (-1) 2 yBn) (hrRw : RgA 0 6 rRw) (hyGb : RgA (-1) 2 yGb) (huDn : RuA 8 uDn) (hoDa : RgA 0 7 oDa) : Met l yX12_runs wk_c_X12_runs ({ frames := 3, cells := 0, slots := 0, locals := 71 }) (va_Pc [.ref (qO 0)] (fun U => U.heap.size = sz ∧ va_P (dC, dI) vwCl (List.flatten [(wmGb qGb k yGb), (wmCt qCt k aCt), (wmSm qSm k aSm), (wmCo qCo k aCo), (wmWb qWb k aWb), (wmDn qDn k uDn), (wmMe qMe k aMe), (wmWh qWh k aWh), (wmBb qBb k aBb), (wmBa qBa k aBa), (wmDa qDa k oDa), (wmSa qSa k aSa), (wmLa qLa k aLa)] ++ List.flatten [(wMO qO k widthO manyO cellsO movedO tapeO linesO (qHa 0) (qBr 0) cartO (qWa 0) frostAtO actO isKeptO (qLn 0) (qBn 0) (qRw 0) (qMe 0) (qWh 0) (qDn 0) (qBb 0) (qBa 0) (qGb 0) (qCt 0) (qSm 0) (qCo 0) (qWb 0) (qDa 0) (qSa 0) (qLa 0) orderRowO oftenO lossOneO lossOtherO vO tO mO gO), (wmHa qHa k hHa), (wmWa qWa k jWa), (wmBn qBn k yBn), (wmLn qLn k aLn), (wmBr qBr k aBr), (wmRw qRw k rRw)]) U.heap ∧ va_K (dC, dI) vwCl (tK k) U ∧ va_D (fun _ => True) (List.flatten [(wmGb qGb k yGb), (wmCt qCt k aCt), (wmSm qSm k aSm), (wmCo qCo k aCo), (wmWb qWb k aWb), (wmDn qDn k uDn), (wmMe qMe k aMe), (wmWh qWh k aWh), (wmBb qBb k aBb), (wmBa qBa k aBa), (wmDa qDa k oDa), (wmSa qSa k aSa), (wmLa qLa k aLa)] ++ List.flatten [(wMO qO k widthO manyO cellsO movedO tapeO linesO (qHa 0) (qBr 0) cartO (qWa 0) frostAtO actO isKeptO (qLn 0) (qBn 0) (qRw 0) (qMe 0) (qWh 0) (qDn 0) (qBb 0) (qBa 0) (qGb 0) (qCt 0) (qSm 0) (qCo 0) (qWb 0) (qDa 0) (qSa 0) (qLa 0) orderRowO oftenO lossOneO lossOtherO vO tO mO gO), (wmHa qHa k hHa), (wmWa qWa k jWa), (wmBn qBn k yBn), (wmLn qLn k aLn), (wmBr qBr k aBr), (wmRw qRw k rRw)]))) (va_Qv (fun _ : Unit => True) (fun (_ : Unit) (t : State) => ∃ (yGb' : Nat → Nat → Int32) (aCt' : Nat → Nat → Int32) (aSm' : Nat → Nat → Int32) (aCo' : Nat → Nat → Int32) (aWb' : Nat → Nat → Int32) (uDn' : Nat → Nat → Int32) (aMe' : Nat → Nat → Int32) (aWh' : Nat → Nat → Int32) (aBb' : Nat → Nat → Int32) (aBa' : Nat → Nat → Int32) (oDa' : Nat → Nat → Int32) (aSa' : Nat → Nat → Int32) (aLa' : Nat → Nat → Int32), RgA (-1) 2 yGb' ∧ RuA 8 uDn' ∧ RgA 0 7 oDa' ∧ va_P (dC, dI) vwCl (List.flatten [(wmGb qGb k yGb'), (wmCt qCt k aCt'), (wmSm qSm k aSm'), (wmCo qCo k aCo'), (wmWb qWb k aWb'), (wmDn qDn k uDn'), (wmMe qMe k aMe'), (wmWh qWh k aWh'), (wmBb qBb k aBb'), (wmBa qBa k aBa'), (wmDa qDa k oDa'), (wmSa qSa k aSa'), (wmLa qLa k aLa')] ++ List.flatten [(wMO qO k widthO manyO cellsO movedO tapeO linesO (qHa 0) (qBr 0) cartO (qWa 0) frostAtO actO isKeptO (qLn 0) (qBn 0) (qRw 0) (qMe 0) (qWh 0) (qDn 0) (qBb 0) (qBa 0) (qGb 0) (qCt 0) (qSm 0) (qCo 0) (qWb 0) (qDa 0) (qSa 0) (qLa 0) orderRowO oftenO lossOneO lossOtherO vO tO mO gO), (wmHa qHa k hHa), (wmWa qWa k jWa), (wmBn qBn k yBn), (wmLn qLn k aLn), (wmBr qBr k aBr), (wmRw qRw k rRw)]) t.heap) (va_A (List.flatten [(wmGb qGb k yGb), (wmCt qCt k aCt), (wmSm qSm k aSm), (wmCo qCo k aCo), (wmWb qWb k aWb), (wmDn qDn k uDn), (wmMe qMe k aMe), (wmWh qWh k aWh), (wmBb qBb k aBb), (wmBa qBa k aBa), (wmDa qDa k oDa), (wmSa qSa k aSa), (wmLa qLa k aLa)] ++ List.flatten [(wMO qO k widthO manyO cellsO movedO tapeO linesO (qHa 0) (qBr 0) cartO (qWa 0) frostAtO actO isKeptO (qLn 0) (qBn 0) (qRw 0) (qMe 0) (qWh 0) (qDn 0) (qBb 0) (qBa 0) (qGb 0) (qCt 0) (qSm 0) (qCo 0) (qWb 0) (qDa 0) (qSa 0) (qLa 0) orderRowO oftenO lossOneO lossOtherO vO tO mO gO), (wmHa qHa k hHa), (wmWa qWa k jWa), (wmBn qBn k yBn), (wmLn qLn k aLn), (wmBr qBr k aBr), (wmRw qRw k rRw)]) sz)) 0 0 (va_A (List.flatten [(wmGb qGb k yGb), (wmCt qCt k aCt), (wmSm qSm k aSm), (wmCo qCo k aCo), (wmWb qWb k aWb), (wmDn qDn k uDn), (wmMe qMe k aMe), (wmWh qWh k aWh), (wmBb qBb k aBb), (wmBa qBa k aBa), (wmDa qDa k oDa), (wmSa qSa k aSa), (wmLa qLa k aLa)] ++ List.flatten [(wMO qO k widthO manyO cellsO movedO tapeO linesO (qHa 0) (qBr 0) cartO (qWa 0) frostAtO actO isKeptO (qLn 0) (qBn 0) (qRw 0) (qMe 0) (qWh 0) (qDn 0) (qBb 0) (qBa 0) (qGb 0) (qCt 0) (qSm 0) (qCo 0) (qWb 0) (qDa 0) (qSa 0) (qLa 0) orderRowO oftenO lossOneO lossOtherO vO tO mO gO), (wmHa qHa k hHa), (wmWa qWa k jWa), (wmBn qBn k yBn), (wmLn qLn k aLn), (wmBr qBr k aBr), (wmRw qRw k rRw)]) sz) := by
  refine Met.ofW (cc := cX12_runs) (maxL := 4) (ret := none) (by decide) rfl ?_
  intro p e s m args below meth c s₁ B hml hv
  obtain ⟨rfl, hsz, hP, hK, hD0⟩ := hv
  have hx := B.exec
  have hb := B.bytes
  have hr := B.returns
  have hts := atoms_spec (ws := wk_c_X12_runs) B.pre
  have hown : s.vm.findClass RX12 = some m.cls := findClass_of_methodNamed B.named
  have hlocks := B.notSynchronized
  subst hsz
  have hD := hD0.self (sz := s.heap.size)
  generalize hAe : va_A (List.flatten [(wmGb qGb k yGb), (wmCt qCt k aCt), (wmSm qSm k aSm), (wmCo qCo k aCo), (wmWb qWb k aWb), (wmDn qDn k uDn), (wmMe qMe k aMe), (wmWh qWh k aWh), (wmBb qBb k aBb), (wmBa qBa k aBa), (wmDa qDa k oDa), (wmSa qSa k aSa), (wmLa qLa k aLa)] ++ List.flatten [(wMO qO k widthO manyO cellsO movedO tapeO linesO (qHa 0) (qBr 0) cartO (qWa 0) frostAtO actO isKeptO (qLn 0) (qBn 0) (qRw 0) (qMe 0) (qWh 0) (qDn 0) (qBb 0) (qBa 0) (qGb 0) (qCt 0) (qSm 0) (qCo 0) (qWb 0) (qDa 0) (qSa 0) (qLa 0) orderRowO oftenO lossOneO lossOtherO vO tO mO gO), (wmHa qHa k hHa), (wmWa qWa k jWa), (wmBn qBn k yBn), (wmLn qLn k aLn), (wmBr qBr k aBr), (wmRw qRw k rRw)]) s.heap.size = A at hD ⊢
  have hA : ∀ q : Nat, s.heap.size ≤ q → A q := fun q h => by rw [← hAe]; exact Or.inr h
  have hS : va_S A s.heap s.heap [] := va_S.rf
  have hP : va_P (dC, dI) vwCl (List.flatten [(wmGb qGb k yGb), (wmCt qCt k aCt), (wmSm qSm k aSm), (wmCo qCo k aCo), (wmWb qWb k aWb), (wmDn qDn k uDn), (wmMe qMe k aMe), (wmWh qWh k aWh), (wmBb qBb k aBb), (wmBa qBa k aBa), (wmDa qDa k oDa), (wmSa qSa k aSa), (wmLa qLa k aLa)] ++ List.flatten [(wMO qO k widthO manyO cellsO movedO tapeO linesO (qHa 0) (qBr 0) cartO (qWa 0) frostAtO actO isKeptO (qLn 0) (qBn 0) (qRw 0) (qMe 0) (qWh 0) (qDn 0) (qBb 0) (qBa 0) (qGb 0) (qCt 0) (qSm 0) (qCo 0) (qWb 0) (qDa 0) (qSa 0) (qLa 0) orderRowO oftenO lossOneO lossOtherO vO tO mO gO), (wmHa qHa k hHa), (wmWa qWa k jWa), (wmBn qBn k yBn), (wmLn qLn k aLn), (wmBr qBr k aBr), (wmRw qRw k rRw)]) s.heap := hP
  have hl := lv_entry ([.ref (qO 0)]) (n := 4) (Nat.le_of_ble_eq_true rfl)
  rw [lg_entry_eq]
  generalize (lg_sl ([.ref (qO 0)]) ++ List.replicate (4 - (lg_sl ([.ref (qO 0)])).length) Slot.unset).toArray = ls at hl ⊢
  have hl : lv_has ls 4 [(0, .ref (qO 0))] := hl
  refine w_gen (fun Q hQ => ?_)
  refine lv_aload_n hx hb dX12_runs_0 rfl (lv_at hl 0 rfl) ?_
  have hPc := hP.sub (ws' := (List.flatten [(wmDn qDn k uDn), (wmBb qBb k aBb), (wmBa qBa k aBa)] ++ List.flatten [(wMO qO k widthO manyO cellsO movedO tapeO linesO (qHa 0) (qBr 0) cartO (qWa 0) frostAtO actO isKeptO (qLn 0) (qBn 0) (qRw 0) (qMe 0) (qWh 0) (qDn 0) (qBb 0) (qBa 0) (qGb 0) (qCt 0) (qSm 0) (qCo 0) (qWb 0) (qDa 0) (qSa 0) (qLa 0) orderRowO oftenO lossOneO lossOtherO vO tO mO gO)])) [5, 8, 9, 13] rfl
  have hC : [5, 8, 9, 13].map (fun i => (List.flatten [(wmGb qGb k yGb), (wmCt qCt k aCt), (wmSm qSm k aSm), (wmCo qCo k aCo), (wmWb qWb k aWb), (wmDn qDn k uDn), (wmMe qMe k aMe), (wmWh qWh k aWh), (wmBb qBb k aBb), (wmBa qBa k aBa), (wmDa qDa k oDa), (wmSa qSa k aSa), (wmLa qLa k aLa)] ++ List.flatten [(wMO qO k widthO manyO cellsO movedO tapeO linesO (qHa 0) (qBr 0) cartO (qWa 0) frostAtO actO isKeptO (qLn 0) (qBn 0) (qRw 0) (qMe 0) (qWh 0) (qDn 0) (qBb 0) (qBa 0) (qGb 0) (qCt 0) (qSm 0) (qCo 0) (qWb 0) (qDa 0) (qSa 0) (qLa 0) orderRowO oftenO lossOneO lossOtherO vO tO mO gO), (wmHa qHa k hHa), (wmWa qWa k jWa), (wmBn qBn k yBn), (wmLn qLn k aLn), (wmBr qBr k aBr), (wmRw qRw k rRw)])[i]?) = (List.flatten [(wmDn qDn k uDn), (wmBb qBb k aBb), (wmBa qBa k aBa)] ++ List.flatten [(wMO qO k widthO manyO cellsO movedO tapeO linesO (qHa 0) (qBr 0) cartO (qWa 0) frostAtO actO isKeptO (qLn 0) (qBn 0) (qRw 0) (qMe 0) (qWh 0) (qDn 0) (qBb 0) (qBa 0) (qGb 0) (qCt 0) (qSm 0) (qCo 0) (qWb 0) (qDa 0) (qSa 0) (qLa 0) orderRowO oftenO lossOneO lossOtherO vO tO mO gO)]).map some := rfl
  have hDc := hD.sub [5, 8, 9, 13] (by decide) hC
  have hFc := va_free hD hS hA [5, 8, 9, 13] hC
  refine va_callv (va_runV (As := []) (rest := []) ⟨hx, hb, hml, hown, hts⟩ (c_X12_begin l dC dI k s.heap.size qO widthO manyO cellsO movedO tapeO linesO (qHa 0) (qBr 0) cartO (qWa 0) frostAtO actO isKeptO (qLn 0) (qBn 0) (qRw 0) (qMe 0) (qWh 0) (qGb 0) (qCt 0) (qSm 0) (qCo 0) (qWb 0) (qDa 0) (qSa 0) (qLa 0) orderRowO oftenO lossOneO lossOtherO vO tO mO gO qDn uDn qBb aBb qBa aBa htO hmO huDn) (cwV 0 hts (gk_V (wl_mem 0 rfl) (wl_mem 1 rfl) (wl_mem 2 rfl) (wl_mem 3 rfl) (fun w h => List.mem_cons_of_mem _ (List.mem_append_right _ (List.mem_append_left _ h))) wkg_c_X12_begin) rfl rfl rfl (by decide +kernel) ⟨Nat.le_of_ble_eq_true rfl, Nat.le_of_ble_eq_true rfl⟩) ⟨fun a U g mk q => by obtain ⟨q0, q1, qP, qK, qD⟩ := q; exact ⟨q0, q1, qP, va_K.moved (u := U) (U := U.calling g mk a) (Vm.Alike.refl U.vm) qK, qD⟩, va_recv hK hPc (ci := 12) (q0 := 3) rfl rfl, fun U hU hW => ⟨rfl, by rw [hU], by rw [hU]; exact hPc, va_K.moved hW.alike hK, hDc.weaken (fun _ _ _ _ => trivial)⟩⟩ rfl rfl hl.1 rfl (lv_room (Nat.le_of_ble_eq_true rfl)) dX12_runs_1 ⟨Nat.le_of_ble_eq_true rfl, Nat.le_of_ble_eq_true rfl⟩) hS (fun q _ h => hFc q h) hFc (fun u t H1 locs ht hvm gz1 hB hz1 hk1 hS => ?_)
  obtain ⟨uz3, az4, az5, huz3, hP1⟩ := hB
  rw [ht] at hP1
  obtain ⟨hP, hD⟩ := w_callR hP hD hk1 hP1 [5, 8, 9] rfl rfl (wk_memC [13] rfl) rfl [none, none, none, none, none, some 0, none, none, some 1, some 2, none, none, none] rfl rfl
  clear hPc hC hDc hFc hk1 hP1
  generalize H1 = H at hP hS ⊢
  have hP : va_P (dC, dI) vwCl (List.flatten [(wmGb qGb k yGb), (wmCt qCt k aCt), (wmSm qSm k aSm), (wmCo qCo k aCo), (wmWb qWb k aWb), (wmDn qDn k uz3), (wmMe qMe k aMe), (wmWh qWh k aWh), (wmBb qBb k az4), (wmBa qBa k az5), (wmDa qDa k oDa), (wmSa qSa k aSa), (wmLa qLa k aLa)] ++ List.flatten [(wMO qO k widthO manyO cellsO movedO tapeO linesO (qHa 0) (qBr 0) cartO (qWa 0) frostAtO actO isKeptO (qLn 0) (qBn 0) (qRw 0) (qMe 0) (qWh 0) (qDn 0) (qBb 0) (qBa 0) (qGb 0) (qCt 0) (qSm 0) (qCo 0) (qWb 0) (qDa 0) (qSa 0) (qLa 0) orderRowO oftenO lossOneO lossOtherO vO tO mO gO), (wmHa qHa k hHa), (wmWa qWa k jWa), (wmBn qBn k yBn), (wmLn qLn k aLn), (wmBr qBr k aBr), (wmRw qRw k rRw)]) H := hP
  have hD : va_D A (List.flatten [(wmGb qGb k yGb), (wmCt qCt k aCt), (wmSm qSm k aSm), (wmCo qCo k aCo), (wmWb qWb k aWb), (wmDn qDn k uz3), (wmMe qMe k aMe), (wmWh qWh k aWh), (wmBb qBb k az4), (wmBa qBa k az5), (wmDa qDa k oDa), (wmSa qSa k aSa), (wmLa qLa k aLa)] ++ List.flatten [(wMO qO k widthO manyO cellsO movedO tapeO linesO (qHa 0) (qBr 0) cartO (qWa 0) frostAtO actO isKeptO (qLn 0) (qBn 0) (qRw 0) (qMe 0) (qWh 0) (qDn 0) (qBb 0) (qBa 0) (qGb 0) (qCt 0) (qSm 0) (qCo 0) (qWb 0) (qDa 0) (qSa 0) (qLa 0) orderRowO oftenO lossOneO lossOtherO vO tO mO gO), (wmHa qHa k hHa), (wmWa qWa k jWa), (wmBn qBn k yBn), (wmLn qLn k aLn), (wmBr qBr k aBr), (wmRw qRw k rRw)]) := hD
  refine W.widen (k := 0) (n := 0) (Nat.le_refl 0) (Nat.le_refl 0) ?_
  refine lv_iconst (v := 0) hx hb dX12_runs_4 (by decide) ?_
  refine lv_istore_n (lv' := [(1, .int 0), (0, .ref (qO 0))]) hx hb dX12_runs_5 rfl hl (by decide) rfl (fun ls hl => ?_)
  have lp6_kz206 : ∀ (n9_6 : Nat) (H : Heap) (locs : List Loc) (ls : Array Slot) (az192 : Nat → Nat → Int32) (az193 : Nat → Nat → Int32) (az194 : Nat → Nat → Int32) (az195 : Nat → Nat → Int32) (oz196 : Nat → Nat → Int32) (uz197 : Nat → Nat → Int32) (yz198 : Nat → Nat → Int32) (az199 : Nat → Nat → Int32) (az200 : Nat → Nat → Int32) (az201 : Nat → Nat → Int32) (az202 : Nat → Nat → Int32) (az203 : Nat → Nat → Int32) (az204 : Nat → Nat → Int32) (xz205 : Int32), (2147483647 - xz205.toInt).toNat < n9_6 → RgA 0 7 oz196 → RuA xz205.toInt uz197 → RgA (-1) 2 yz198 → 0 ≤ xz205.toInt → 0 ≤ xz205.toInt ∧ xz205.toInt ≤ 7 → va_P (dC, dI) vwCl (List.flatten [(wmGb qGb k yz198), (wmCt qCt k az195), (wmSm qSm k az202), (wmCo qCo k az194), (wmWb qWb k az203), (wmDn qDn k uz197), (wmMe qMe k az200), (wmWh qWh k az204), (wmBb qBb k az193), (wmBa qBa k az192), (wmDa qDa k oz196), (wmSa qSa k az201), (wmLa qLa k az199)] ++ List.flatten [(wMO qO k widthO manyO cellsO movedO tapeO linesO (qHa 0) (qBr 0) cartO (qWa 0) frostAtO actO isKeptO (qLn 0) (qBn 0) (qRw 0) (qMe 0) (qWh 0) (qDn 0) (qBb 0) (qBa 0) (qGb 0) (qCt 0) (qSm 0) (qCo 0) (qWb 0) (qDa 0) (qSa 0) (qLa 0) orderRowO oftenO lossOneO lossOtherO vO tO mO gO), (wmHa qHa k hHa), (wmWa qWa k jWa), (wmBn qBn k yBn), (wmLn qLn k aLn), (wmBr qBr k aBr), (wmRw qRw k rRw)]) H → va_D A (List.flatten [(wmGb qGb k yz198), (wmCt qCt k az195), (wmSm qSm k az202), (wmCo qCo k az194), (wmWb qWb k az203), (wmDn qDn k uz197), (wmMe qMe k az200), (wmWh qWh k az204), (wmBb qBb k az193), (wmBa qBa k az192), (wmDa qDa k oz196), (wmSa qSa k az201), (wmLa qLa k az199)] ++ List.flatten [(wMO qO k widthO manyO cellsO movedO tapeO linesO (qHa 0) (qBr 0) cartO (qWa 0) frostAtO actO isKeptO (qLn 0) (qBn 0) (qRw 0) (qMe 0) (qWh 0) (qDn 0) (qBb 0) (qBa 0) (qGb 0) (qCt 0) (qSm 0) (qCo 0) (qWb 0) (qDa 0) (qSa 0) (qLa 0) orderRowO oftenO lossOneO lossOtherO vO tO mO gO), (wmHa qHa k hHa), (wmWa qWa k jWa), (wmBn qBn k yBn), (wmLn qLn k aLn), (wmBr qBr k aBr), (wmRw qRw k rRw)]) → va_S A s.heap H locs → lv_has ls 4 [(0, .ref (qO 0)), (1, .int xz205)] → W p l e (headSpec wk_c_X12_runs ({ frames := 3, cells := 0, slots := 0, locals := 71 })).room s m ([.ref (qO 0)] : List Value).toArray below meth c H locs 0 0 Q (F0 m 6 ls []) := by
    intro n9_6
    induction n9_6 with
    | zero => intro H locs ls az192 az193 az194 az195 oz196 uz197 yz198 az199 az200 az201 az202 az203 az204 xz205 hm; exact absurd hm (Nat.not_lt_zero _)
    | succ n9_6 ih6 =>
      intro H locs ls az192 az193 az194 az195 oz196 uz197 yz198 az199 az200 az201 az202 az203 az204 xz205 hm6 hoz196 huz197 hyz198 jz207 jz208 hP hD hS hl
      refine lv_iload_n hx hb dX12_runs_6 rfl (lv_at hl 1 rfl) ?_
      refine lv_aload_n hx hb dX12_runs_7 rfl (lv_at hl 0 rfl) ?_
      have hPc := hP.sub (ws' := (List.flatten [(wMO qO k widthO manyO cellsO movedO tapeO linesO (qHa 0) (qBr 0) cartO (qWa 0) frostAtO actO isKeptO (qLn 0) (qBn 0) (qRw 0) (qMe 0) (qWh 0) (qDn 0) (qBb 0) (qBa 0) (qGb 0) (qCt 0) (qSm 0) (qCo 0) (qWb 0) (qDa 0) (qSa 0) (qLa 0) orderRowO oftenO lossOneO lossOtherO vO tO mO gO), (wmHa qHa k hHa)])) [13, 14] rfl
      refine vp_callSi (va_Run.run (va_runV (As := []) (rest := [.int xz205]) ⟨hx, hb, hml, hown, hts⟩ (c_X12_carts l dC dI k qO widthO manyO cellsO movedO tapeO linesO (qBr 0) cartO (qWa 0) frostAtO actO isKeptO (qLn 0) (qBn 0) (qRw 0) (qMe 0) (qWh 0) (qDn 0) (qBb 0) (qBa 0) (qGb 0) (qCt 0) (qSm 0) (qCo 0) (qWb 0) (qDa 0) (qSa 0) (qLa 0) orderRowO oftenO lossOneO lossOtherO vO tO mO gO qHa hHa htO hmO hhHa) (cwV 0 hts (gk_V (wl_mem 4 rfl) (wl_mem 5 rfl) (wl_mem 6 rfl) (wl_mem 3 rfl) (fun w h => List.mem_cons_of_mem _ (List.mem_append_right _ (List.mem_append_right _ (List.mem_append_left _ h)))) wkg_c_X12_carts) rfl rfl rfl (by decide +kernel) ⟨Nat.le_of_ble_eq_true rfl, Nat.le_of_ble_eq_true rfl⟩) ⟨fun a U g mk q => by obtain ⟨q0, qP, qK⟩ := q; exact ⟨q0, qP, va_K.moved (u := U) (U := U.calling g mk a) (Vm.Alike.refl U.vm) qK⟩, va_recv hK hPc (ci := 12) (q0 := 0) rfl rfl, fun U hU hW => ⟨rfl, by rw [hU]; exact hPc, va_K.moved hW.alike hK⟩⟩ rfl rfl hl.1 rfl (lv_room (Nat.le_of_ble_eq_true rfl)) dX12_runs_8 ⟨Nat.le_of_ble_eq_true rfl, Nat.le_of_ble_eq_true rfl⟩)) (fun rz210 gz209 => ?_)
      clear hPc
      obtain ⟨pz211, pz212⟩ := gz209
      have pz211 : 0 ≤ rz210.toInt ∧ rz210.toInt ≤ 7 := pz211
      have pz212 : rz210.toInt = ((hHa 0) 4).toInt := pz212
      refine lv_icmp_ge (tgt := 116) hx hb dX12_runs_11 (by decide) (fun cz213 => ?_) (fun cz213 => ?_)
      · skip
        have zz214 : rz210.toInt ≤ xz205.toInt := zi_le.mp cz213
        rw [hQ]
        exact W.vret hx hb hr (fun t ht hW => ⟨⟨(), rfl, trivial, yz198, az195, az202, az194, az203, uz197, az200, az204, az193, az192, oz196, az201, az199, hyz198, (ru_wk huz197 (by show (xz205.toInt : Int) ≤ 8; omega)), hoz196, by rw [ht]; exact hP⟩, hS.F ht⟩) hS.2.2 dX12_runs_116
      · skip
        have zz215 : ¬ rz210.toInt ≤ xz205.toInt := fun h9 => cz213 (zi_le.mpr h9)
        refine lv_aload_n hx hb dX12_runs_14 rfl (lv_at hl 0 rfl) ?_
        refine lv_iload_n hx hb dX12_runs_15 rfl (lv_at hl 1 rfl) ?_
        have hPc := hP.sub (ws' := (List.flatten [(wmGb qGb k yz198), (wmCt qCt k az195), (wmSm qSm k az202), (wmCo qCo k az194), (wmWb qWb k az203), (wmDn qDn k uz197), (wmMe qMe k az200), (wmWh qWh k az204), (wmBb qBb k az193), (wmBa qBa k az192)] ++ List.flatten [(wMO qO k widthO manyO cellsO movedO tapeO linesO (qHa 0) (qBr 0) cartO (qWa 0) frostAtO actO isKeptO (qLn 0) (qBn 0) (qRw 0) (qMe 0) (qWh 0) (qDn 0) (qBb 0) (qBa 0) (qGb 0) (qCt 0) (qSm 0) (qCo 0) (qWb 0) (qDa 0) (qSa 0) (qLa 0) orderRowO oftenO lossOneO lossOtherO vO tO mO gO), (wmHa qHa k hHa), (wmWa qWa k jWa), (wmBn qBn k yBn), (wmLn qLn k aLn), (wmBr qBr k aBr), (wmRw qRw k rRw)])) [0, 1, 2, 3, 4, 5, 6, 7, 8, 9, 13, 14, 15, 16, 17, 18, 19] rfl
        have hC : [0, 1, 2, 3, 4, 5, 6, 7, 8, 9, 13, 14, 15, 16, 17, 18, 19].map (fun i => (List.flatten [(wmGb qGb k yz198), (wmCt qCt k az195), (wmSm qSm k az202), (wmCo qCo k az194), (wmWb qWb k az203), (wmDn qDn k uz197), (wmMe qMe k az200), (wmWh qWh k az204), (wmBb qBb k az193), (wmBa qBa k az192), (wmDa qDa k oz196), (wmSa qSa k az201), (wmLa qLa k az199)] ++ List.flatten [(wMO qO k widthO manyO cellsO movedO tapeO linesO (qHa 0) (qBr 0) cartO (qWa 0) frostAtO actO isKeptO (qLn 0) (qBn 0) (qRw 0) (qMe 0) (qWh 0) (qDn 0) (qBb 0) (qBa 0) (qGb 0) (qCt 0) (qSm 0) (qCo 0) (qWb 0) (qDa 0) (qSa 0) (qLa 0) orderRowO oftenO lossOneO lossOtherO vO tO mO gO), (wmHa qHa k hHa), (wmWa qWa k jWa), (wmBn qBn k yBn), (wmLn qLn k aLn), (wmBr qBr k aBr), (wmRw qRw k rRw)])[i]?) = (List.flatten [(wmGb qGb k yz198), (wmCt qCt k az195), (wmSm qSm k az202), (wmCo qCo k az194), (wmWb qWb k az203), (wmDn qDn k uz197), (wmMe qMe k az200), (wmWh qWh k az204), (wmBb qBb k az193), (wmBa qBa k az192)] ++ List.flatten [(wMO qO k widthO manyO cellsO movedO tapeO linesO (qHa 0) (qBr 0) cartO (qWa 0) frostAtO actO isKeptO (qLn 0) (qBn 0) (qRw 0) (qMe 0) (qWh 0) (qDn 0) (qBb 0) (qBa 0) (qGb 0) (qCt 0) (qSm 0) (qCo 0) (qWb 0) (qDa 0) (qSa 0) (qLa 0) orderRowO oftenO lossOneO lossOtherO vO tO mO gO), (wmHa qHa k hHa), (wmWa qWa k jWa), (wmBn qBn k yBn), (wmLn qLn k aLn), (wmBr qBr k aBr), (wmRw qRw k rRw)]).map some := rfl
        have hDc := hD.sub [0, 1, 2, 3, 4, 5, 6, 7, 8, 9, 13, 14, 15, 16, 17, 18, 19] (by decide) hC
        have hFc := va_free hD hS hA [0, 1, 2, 3, 4, 5, 6, 7, 8, 9, 13, 14, 15, 16, 17, 18, 19] hC
        refine va_callv (va_runV (As := [.int xz205]) (rest := []) ⟨hx, hb, hml, hown, hts⟩ (c_X12_turn l dC dI k H.size qO widthO manyO cellsO movedO tapeO linesO cartO frostAtO actO isKeptO (qDa 0) (qSa 0) (qLa 0) orderRowO oftenO lossOneO lossOtherO vO tO mO gO qHa hHa qWa jWa qBn yBn qLn aLn qBr aBr qRw rRw qGb yz198 qCt az195 qSm az202 qCo az194 qWb az203 qDn uz197 qMe az200 qWh az204 qBb az193 qBa az192 xz205 xz205.toInt htO hmO hhHa hjWa hyBn hrRw hyz198 huz197 (by show 0 ≤ xz205.toInt ∧ xz205.toInt ≤ 6; omega) (by show 0 ≤ xz205.toInt ∧ xz205.toInt ≤ 7; omega)) (cwV 1 hts (gk_V (wl_mem 7 rfl) (wl_mem 8 rfl) (wl_mem 9 rfl) (wl_mem 3 rfl) (fun w h => List.mem_cons_of_mem _ (List.mem_append_right _ (List.mem_append_right _ (List.mem_append_right _ (List.mem_append_left _ h))))) wkg_c_X12_turn) rfl rfl rfl (by decide +kernel) ⟨Nat.le_of_ble_eq_true rfl, Nat.le_of_ble_eq_true rfl⟩) ⟨fun a U g mk q => by obtain ⟨q0, q1, qP, qK, qD⟩ := q; exact ⟨q0, q1, qP, va_K.moved (u := U) (U := U.calling g mk a) (Vm.Alike.refl U.vm) qK, qD⟩, va_recv hK hPc (ci := 12) (q0 := 10) rfl rfl, fun U hU hW => ⟨rfl, by rw [hU], by rw [hU]; exact hPc, va_K.moved hW.alike hK, hDc.weaken (fun _ _ _ _ => trivial)⟩⟩ rfl rfl hl.1 rfl (lv_room (Nat.le_of_ble_eq_true rfl)) dX12_runs_16 ⟨Nat.le_of_ble_eq_true rfl, Nat.le_of_ble_eq_true rfl⟩) hS (fun q _ h => hFc q h) hFc (fun u t H1 locs ht hvm gz216 hB hz1 hk1 hS => ?_)
        obtain ⟨yz218, az219, az220, az221, az222, uz223, az224, az225, az226, az227, hyz218, huz223, hP1⟩ := hB
        rw [ht] at hP1
        obtain ⟨hP, hD⟩ := w_callR hP hD hk1 hP1 [0, 1, 2, 3, 4, 5, 6, 7, 8, 9] rfl rfl (wk_memC [13, 14, 15, 16, 17, 18, 19] rfl) rfl [some 0, some 1, some 2, some 3, some 4, some 5, some 6, some 7, some 8, some 9, none, none, none] rfl rfl
        clear hPc hC hDc hFc hk1 hP1
        generalize H1 = H at hP hS ⊢
        have hP : va_P (dC, dI) vwCl (List.flatten [(wmGb qGb k yz218), (wmCt qCt k az219), (wmSm qSm k az220), (wmCo qCo k az221), (wmWb qWb k az222), (wmDn qDn k uz223), (wmMe qMe k az224), (wmWh qWh k az225), (wmBb qBb k az226), (wmBa qBa k az227), (wmDa qDa k oz196), (wmSa qSa k az201), (wmLa qLa k az199)] ++ List.flatten [(wMO qO k widthO manyO cellsO movedO tapeO linesO (qHa 0) (qBr 0) cartO (qWa 0) frostAtO actO isKeptO (qLn 0) (qBn 0) (qRw 0) (qMe 0) (qWh 0) (qDn 0) (qBb 0) (qBa 0) (qGb 0) (qCt 0) (qSm 0) (qCo 0) (qWb 0) (qDa 0) (qSa 0) (qLa 0) orderRowO oftenO lossOneO lossOtherO vO tO mO gO), (wmHa qHa k hHa), (wmWa qWa k jWa), (wmBn qBn k yBn), (wmLn qLn k aLn), (wmBr qBr k aBr), (wmRw qRw k rRw)]) H := hP
        have hD : va_D A (List.flatten [(wmGb qGb k yz218), (wmCt qCt k az219), (wmSm qSm k az220), (wmCo qCo k az221), (wmWb qWb k az222), (wmDn qDn k uz223), (wmMe qMe k az224), (wmWh qWh k az225), (wmBb qBb k az226), (wmBa qBa k az227), (wmDa qDa k oz196), (wmSa qSa k az201), (wmLa qLa k az199)] ++ List.flatten [(wMO qO k widthO manyO cellsO movedO tapeO linesO (qHa 0) (qBr 0) cartO (qWa 0) frostAtO actO isKeptO (qLn 0) (qBn 0) (qRw 0) (qMe 0) (qWh 0) (qDn 0) (qBb 0) (qBa 0) (qGb 0) (qCt 0) (qSm 0) (qCo 0) (qWb 0) (qDa 0) (qSa 0) (qLa 0) orderRowO oftenO lossOneO lossOtherO vO tO mO gO), (wmHa qHa k hHa), (wmWa qWa k jWa), (wmBn qBn k yBn), (wmLn qLn k aLn), (wmBr qBr k aBr), (wmRw qRw k rRw)]) := hD
        refine W.widen (k := 0) (n := 0) (Nat.le_refl 0) (Nat.le_refl 0) ?_
        refine lv_iconst (v := 0) hx hb dX12_runs_19 (by decide) ?_
        refine lv_istore_n (lv' := [(2, .int 0), (0, .ref (qO 0)), (1, .int xz205)]) hx hb dX12_runs_20 rfl hl (by decide) rfl (fun ls hl => ?_)
        have lp21_kz312 : ∀ (n9_21 : Nat) (H : Heap) (locs : List Loc) (ls : Array Slot) (oz308 : Nat → Nat → Int32) (az309 : Nat → Nat → Int32) (az310 : Nat → Nat → Int32) (xz311 : Int32), (2147483647 - xz311.toInt).toNat < n9_21 → RgA 0 7 oz308 → 0 ≤ xz311.toInt → va_P (dC, dI) vwCl (List.flatten [(wmGb qGb k yz218), (wmCt qCt k az219), (wmSm qSm k az220), (wmCo qCo k az221), (wmWb qWb k az222), (wmDn qDn k uz223), (wmMe qMe k az224), (wmWh qWh k az225), (wmBb qBb k az226), (wmBa qBa k az227), (wmDa qDa k oz308), (wmSa qSa k az310), (wmLa qLa k az309)] ++ List.flatten [(wMO qO k widthO manyO cellsO movedO tapeO linesO (qHa 0) (qBr 0) cartO (qWa 0) frostAtO actO isKeptO (qLn 0) (qBn 0) (qRw 0) (qMe 0) (qWh 0) (qDn 0) (qBb 0) (qBa 0) (qGb 0) (qCt 0) (qSm 0) (qCo 0) (qWb 0) (qDa 0) (qSa 0) (qLa 0) orderRowO oftenO lossOneO lossOtherO vO tO mO gO), (wmHa qHa k hHa), (wmWa qWa k jWa), (wmBn qBn k yBn), (wmLn qLn k aLn), (wmBr qBr k aBr), (wmRw qRw k rRw)]) H → va_D A (List.flatten [(wmGb qGb k yz218), (wmCt qCt k az219), (wmSm qSm k az220), (wmCo qCo k az221), (wmWb qWb k az222), (wmDn qDn k uz223), (wmMe qMe k az224), (wmWh qWh k az225), (wmBb qBb k az226), (wmBa qBa k az227), (wmDa qDa k oz308), (wmSa qSa k az310), (wmLa qLa k az309)] ++ List.flatten [(wMO qO k widthO manyO cellsO movedO tapeO linesO (qHa 0) (qBr 0) cartO (qWa 0) frostAtO actO isKeptO (qLn 0) (qBn 0) (qRw 0) (qMe 0) (qWh 0) (qDn 0) (qBb 0) (qBa 0) (qGb 0) (qCt 0) (qSm 0) (qCo 0) (qWb 0) (qDa 0) (qSa 0) (qLa 0) orderRowO oftenO lossOneO lossOtherO vO tO mO gO), (wmHa qHa k hHa), (wmWa qWa k jWa), (wmBn qBn k yBn), (wmLn qLn k aLn), (wmBr qBr k aBr), (wmRw qRw k rRw)]) → va_S A s.heap H locs → lv_has ls 4 [(0, .ref (qO 0)), (1, .int xz205), (2, .int xz311)] → W p l e (headSpec wk_c_X12_runs ({ frames := 3, cells := 0, slots := 0, locals := 71 })).room s m ([.ref (qO 0)] : List Value).toArray below meth c H locs 0 0 Q (F0 m 21 ls []) := by
          intro n9_21
          induction n9_21 with
          | zero => intro H locs ls oz308 az309 az310 xz311 hm; exact absurd hm (Nat.not_lt_zero _)
          | succ n9_21 ih21 =>
            intro H locs ls oz308 az309 az310 xz311 hm21 hoz308 jz313 hP hD hS hl
            refine lv_iload_n hx hb dX12_runs_21 rfl (lv_at hl 2 rfl) ?_
            refine lv_aload_n hx hb dX12_runs_22 rfl (lv_at hl 0 rfl) ?_
            have hPc := hP.sub (ws' := (List.flatten [(wMO qO k widthO manyO cellsO movedO tapeO linesO (qHa 0) (qBr 0) cartO (qWa 0) frostAtO actO isKeptO (qLn 0) (qBn 0) (qRw 0) (qMe 0) (qWh 0) (qDn 0) (qBb 0) (qBa 0) (qGb 0) (qCt 0) (qSm 0) (qCo 0) (qWb 0) (qDa 0) (qSa 0) (qLa 0) orderRowO oftenO lossOneO lossOtherO vO tO mO gO), (wmHa qHa k hHa)])) [13, 14] rfl
            refine vp_callSi (va_Run.run (va_runV (As := []) (rest := [.int xz311]) ⟨hx, hb, hml, hown, hts⟩ (c_X12_bridges l dC dI k qO widthO manyO cellsO movedO tapeO linesO (qBr 0) cartO (qWa 0) frostAtO actO isKeptO (qLn 0) (qBn 0) (qRw 0) (qMe 0) (qWh 0) (qDn 0) (qBb 0) (qBa 0) (qGb 0) (qCt 0) (qSm 0) (qCo 0) (qWb 0) (qDa 0) (qSa 0) (qLa 0) orderRowO oftenO lossOneO lossOtherO vO tO mO gO qHa hHa htO hmO hhHa) (cwV 0 hts (gk_V (wl_mem 10 rfl) (wl_mem 11 rfl) (wl_mem 12 rfl) (wl_mem 3 rfl) (fun w h => List.mem_cons_of_mem _ (List.mem_append_right _ (List.mem_append_right _ (List.mem_append_right _ (List.mem_append_right _ (List.mem_append_left _ h)))))) wkg_c_X12_bridges) rfl rfl rfl (by decide +kernel) ⟨Nat.le_of_ble_eq_true rfl, Nat.le_of_ble_eq_true rfl⟩) ⟨fun a U g mk q => by obtain ⟨q0, qP, qK⟩ := q; exact ⟨q0, qP, va_K.moved (u := U) (U := U.calling g mk a) (Vm.Alike.refl U.vm) qK⟩, va_recv hK hPc (ci := 12) (q0 := 0) rfl rfl, fun U hU hW => ⟨rfl, by rw [hU]; exact hPc, va_K.moved hW.alike hK⟩⟩ rfl rfl hl.1 rfl (lv_room (Nat.le_of_ble_eq_true rfl)) dX12_runs_23 ⟨Nat.le_of_ble_eq_true rfl, Nat.le_of_ble_eq_true rfl⟩)) (fun rz315 gz314 => ?_)
            clear hPc
            have pz316 := gz314
            have pz316 : 0 ≤ rz315.toInt ∧ rz315.toInt ≤ 3 := pz316
            refine lv_icmp_ge (tgt := 110) hx hb dX12_runs_26 (by decide) (fun cz317 => ?_) (fun cz317 => ?_)
            · skip
              have bz318 := fb_rng xz311
              have zz319 : rz315.toInt ≤ xz311.toInt := zi_le.mp cz317
              obtain ⟨xz320, exz320⟩ : ∃ y : Int32, y = xz205 + Int32.ofInt (1) := ⟨_, rfl⟩
              have fxz320 : xz320.toInt = xz205.toInt + (1) := by rw [exz320]; exact fb_addI (y := Int32.ofInt (1)) (by show -2147483648 ≤ xz205.toInt + (1); omega) (by show xz205.toInt + (1) < 2147483648; omega)
              refine lv_iinc (v := xz320) (lv' := [(1, .int xz320), (0, .ref (qO 0)), (2, .int xz311)]) hx hb dX12_runs_110 hl (k := 1) rfl exz320.symm (by decide) rfl (fun ls hl => ?_)
              refine lv_goto (tgt := 6) hx hb dX12_runs_113 (by decide) ?_
              exact ih6 H locs ls az227 az226 az221 az219 oz308 uz223 yz218 az309 az224 az310 az220 az222 az225 xz320 (by show (2147483647 - xz320.toInt).toNat < n9_6; omega) hoz308 (ru_wk huz223 (by show (xz205.toInt + 1 : Int) ≤ xz320.toInt; omega)) hyz218 (by show 0 ≤ xz320.toInt; omega) (by show 0 ≤ xz320.toInt ∧ xz320.toInt ≤ 7; omega) hP hD hS (lv_sub hl [1, 0] rfl)
            · skip
              have bz321 := fb_rng xz311
              have zz322 : ¬ rz315.toInt ≤ xz311.toInt := fun h9 => cz317 (zi_le.mpr h9)
              refine lv_aload_n hx hb dX12_runs_29 rfl (lv_at hl 0 rfl) ?_
              refine va_get (D := (dC, dI)) (ci := 12) (v := .ref (qDa 0)) (C := RX12) (T := TX12) (N := 59) hx hb hts (fun w h => List.mem_cons_of_mem _ (List.mem_append_right _ (List.mem_append_right _ (List.mem_append_right _ (List.mem_append_right _ (List.mem_append_right _ (List.mem_append_left _ h))))))) hown hK hP 13 rfl rfl 40 (by decide) (hts (.fieldLink RX12 95 "SagMemoryModel" "deepAt" "[I") (wl_mem 13 rfl)) (fun _ h9 => h9) rfl dX12_runs_30 ?_
              refine lv_iconst (v := 3) hx hb dX12_runs_33 (by decide) ?_
              refine lv_iload_n hx hb dX12_runs_34 rfl (lv_at hl 1 rfl) ?_
              refine lv_imul hx hb dX12_runs_35 ?_
              refine lv_topi (fun xz323 exz323 => ?_)
              have fxz323 : xz323.toInt = (3 : Int) * xz205.toInt := by rw [exz323]; exact fb_mulI (x := (3 : Int32)) (y := xz205) (by show -2147483648 ≤ (3 : Int) * xz205.toInt; omega) (by show (3 : Int) * xz205.toInt < 2147483648; omega)
              refine lv_iload_n hx hb dX12_runs_36 rfl (lv_at hl 2 rfl) ?_
              refine lv_iadd hx hb dX12_runs_37 ?_
              refine lv_topi (fun xz324 exz324 => ?_)
              have fxz324 : xz324.toInt = xz323.toInt + xz311.toInt := by rw [exz324]; exact fb_addI (x := xz323) (y := xz311) (by show -2147483648 ≤ xz323.toInt + xz311.toInt; omega) (by show xz323.toInt + xz311.toInt < 2147483648; omega)
              refine lv_aload_n hx hb dX12_runs_38 rfl (lv_at hl 0 rfl) ?_
              refine va_get (D := (dC, dI)) (ci := 12) (v := .ref (qDn 0)) (C := RX12) (T := TX12) (N := 59) hx hb hts (fun w h => List.mem_cons_of_mem _ (List.mem_append_right _ (List.mem_append_right _ (List.mem_append_right _ (List.mem_append_right _ (List.mem_append_right _ (List.mem_append_left _ h))))))) hown hK hP 13 rfl rfl 32 (by decide) (hts (.fieldLink RX12 71 "SagMemoryModel" "deepNow" "[I") (wl_mem 14 rfl)) (fun _ h9 => h9) rfl dX12_runs_39 ?_
              refine lv_iload_n hx hb dX12_runs_42 rfl (lv_at hl 2 rfl) ?_
              refine va_iald hx hb hK hP 5 0 rfl rfl (vp_in_iff.mpr ⟨by omega, by omega⟩) dX12_runs_43 ?_
              refine lv_topi (fun xz325 exz325 => ?_)
              have bxz325 : 0 ≤ xz325.toInt ∧ xz325.toInt ≤ xz205.toInt + 1 := by rw [exz325]; exact ru_rd huz223 (by show 0 ≤ xz311.toInt; omega) (by show xz311.toInt ≤ 2; omega)
              have gxz325 : xz325.toInt = ((uz223 0) xz311.toNatClampNeg).toInt := congrArg Int32.toInt exz325
              refine va_iast hx hb hK hP hD hS 10 0 rfl rfl (vp_in_iff.mpr ⟨by omega, by omega⟩) dX12_runs_44 (fun H locs hP hD hS => ?_)
              obtain ⟨fz326, efz326, hP, hD⟩ : ∃ fz326 : Nat → Int32, fz326 = upd (oz308 0) xz324.toNatClampNeg xz325 ∧ va_P (dC, dI) vwCl (List.flatten [(wmGb qGb k yz218), (wmCt qCt k az219), (wmSm qSm k az220), (wmCo qCo k az221), (wmWb qWb k az222), (wmDn qDn k uz223), (wmMe qMe k az224), (wmWh qWh k az225), (wmBb qBb k az226), (wmBa qBa k az227), (wmDa qDa k (va_up oz308 0 fz326)), (wmSa qSa k az310), (wmLa qLa k az309)] ++ List.flatten [(wMO qO k widthO manyO cellsO movedO tapeO linesO (qHa 0) (qBr 0) cartO (qWa 0) frostAtO actO isKeptO (qLn 0) (qBn 0) (qRw 0) (qMe 0) (qWh 0) (qDn 0) (qBb 0) (qBa 0) (qGb 0) (qCt 0) (qSm 0) (qCo 0) (qWb 0) (qDa 0) (qSa 0) (qLa 0) orderRowO oftenO lossOneO lossOtherO vO tO mO gO), (wmHa qHa k hHa), (wmWa qWa k jWa), (wmBn qBn k yBn), (wmLn qLn k aLn), (wmBr qBr k aBr), (wmRw qRw k rRw)]) H ∧ va_D A (List.flatten [(wmGb qGb k yz218), (wmCt qCt k az219), (wmSm qSm k az220), (wmCo qCo k az221), (wmWb qWb k az222), (wmDn qDn k uz223), (wmMe qMe k az224), (wmWh qWh k az225), (wmBb qBb k az226), (wmBa qBa k az227), (wmDa qDa k (va_up oz308 0 fz326)), (wmSa qSa k az310), (wmLa qLa k az309)] ++ List.flatten [(wMO qO k widthO manyO cellsO movedO tapeO linesO (qHa 0) (qBr 0) cartO (qWa 0) frostAtO actO isKeptO (qLn 0) (qBn 0) (qRw 0) (qMe 0) (qWh 0) (qDn 0) (qBb 0) (qBa 0) (qGb 0) (qCt 0) (qSm 0) (qCo 0) (qWb 0) (qDa 0) (qSa 0) (qLa 0) orderRowO oftenO lossOneO lossOtherO vO tO mO gO), (wmHa qHa k hHa), (wmWa qWa k jWa), (wmBn qBn k yBn), (wmLn qLn k aLn), (wmBr qBr k aBr), (wmRw qRw k rRw)]) := ⟨_, rfl, hP, hD⟩
              have hfz326 : Rg 0 7 fz326 := by rw [efz326]; exact rg_upd (hoz308 0) (by show 0 ≤ xz325.toInt ∧ xz325.toInt ≤ 7; omega)
              have kfz326 : fz326 xz324.toNatClampNeg = xz325 := by rw [efz326]; exact pk_us
              refine lv_aload_n hx hb dX12_runs_45 rfl (lv_at hl 0 rfl) ?_
              refine va_get (D := (dC, dI)) (ci := 12) (v := .ref (qSa 0)) (C := RX12) (T := TX12) (N := 59) hx hb hts (fun w h => List.mem_cons_of_mem _ (List.mem_append_right _ (List.mem_append_right _ (List.mem_append_right _ (List.mem_append_right _ (List.mem_append_right _ (List.mem_append_left _ h))))))) hown hK hP 13 rfl rfl 41 (by decide) (hts (.fieldLink RX12 98 "SagMemoryModel" "sagAt" "[I") (wl_mem 15 rfl)) (fun _ h9 => h9) rfl dX12_runs_46 ?_
              refine lv_iconst (v := 3) hx hb dX12_runs_49 (by decide) ?_
              refine lv_iload_n hx hb dX12_runs_50 rfl (lv_at hl 1 rfl) ?_
              refine lv_imul hx hb dX12_runs_51 ?_
              refine lv_topi (fun xz327 exz327 => ?_)
              have fxz327 : xz327.toInt = (3 : Int) * xz205.toInt := by rw [exz327]; exact fb_mulI (x := (3 : Int32)) (y := xz205) (by show -2147483648 ≤ (3 : Int) * xz205.toInt; omega) (by show (3 : Int) * xz205.toInt < 2147483648; omega)
              refine lv_iload_n hx hb dX12_runs_52 rfl (lv_at hl 2 rfl) ?_
              refine lv_iadd hx hb dX12_runs_53 ?_
              refine lv_topi (fun xz328 exz328 => ?_)
              have fxz328 : xz328.toInt = xz327.toInt + xz311.toInt := by rw [exz328]; exact fb_addI (x := xz327) (y := xz311) (by show -2147483648 ≤ xz327.toInt + xz311.toInt; omega) (by show xz327.toInt + xz311.toInt < 2147483648; omega)
              refine lv_aload_n hx hb dX12_runs_54 rfl (lv_at hl 0 rfl) ?_
              refine lv_iload_n hx hb dX12_runs_55 rfl (lv_at hl 2 rfl) ?_
              have hPc := hP.sub (ws' := (List.flatten [(wMO qO k widthO manyO cellsO movedO tapeO linesO (qHa 0) (qBr 0) cartO (qWa 0) frostAtO actO isKeptO (qLn 0) (qBn 0) (qRw 0) (qMe 0) (qWh 0) (qDn 0) (qBb 0) (qBa 0) (qGb 0) (qCt 0) (qSm 0) (qCo 0) (qWb 0) (qDa 0) (qSa 0) (qLa 0) orderRowO oftenO lossOneO lossOtherO vO tO mO gO), (wmDn qDn k uz223), (wmMe qMe k az224)])) [13, 5, 6] rfl
              refine vp_callSi (va_Run.run (va_runV (As := [.int xz311]) (rest := [.int xz328, .ref (qSa 0)]) ⟨hx, hb, hml, hown, hts⟩ (c_X12_sagOf l dC dI k qO widthO manyO cellsO movedO tapeO linesO (qHa 0) (qBr 0) cartO (qWa 0) frostAtO actO isKeptO (qLn 0) (qBn 0) (qRw 0) (qWh 0) (qBb 0) (qBa 0) (qGb 0) (qCt 0) (qSm 0) (qCo 0) (qWb 0) (qDa 0) (qSa 0) (qLa 0) orderRowO oftenO lossOneO lossOtherO vO tO mO gO qDn uz223 qMe az224 xz311 htO hmO (ru_wk huz223 (by show (xz205.toInt + 1 : Int) ≤ 8; omega)) (by show 0 ≤ xz311.toInt ∧ xz311.toInt ≤ 2; omega)) (cwV 1 hts (gk_V (wl_mem 16 rfl) (wl_mem 17 rfl) (wl_mem 18 rfl) (wl_mem 3 rfl) (fun w h => List.mem_cons_of_mem _ (List.mem_append_right _ (List.mem_append_right _ (List.mem_append_right _ (List.mem_append_right _ (List.mem_append_right _ (List.mem_append_right _ (List.mem_append_left _ h)))))))) wkg_c_X12_sagOf) rfl rfl rfl (by decide +kernel) ⟨Nat.le_of_ble_eq_true rfl, Nat.le_of_ble_eq_true rfl⟩) ⟨fun a U g mk q => by obtain ⟨q0, qP, qK⟩ := q; exact ⟨q0, qP, va_K.moved (u := U) (U := U.calling g mk a) (Vm.Alike.refl U.vm) qK⟩, va_recv hK hPc (ci := 12) (q0 := 0) rfl rfl, fun U hU hW => ⟨rfl, by rw [hU]; exact hPc, va_K.moved hW.alike hK⟩⟩ rfl rfl hl.1 rfl (lv_room (Nat.le_of_ble_eq_true rfl)) dX12_runs_56 ⟨Nat.le_of_ble_eq_true rfl, Nat.le_of_ble_eq_true rfl⟩)) (fun rz330 gz329 => ?_)
              clear hPc
              refine va_iast hx hb hK hP hD hS 11 0 rfl rfl (vp_in_iff.mpr ⟨by omega, by omega⟩) dX12_runs_59 (fun H locs hP hD hS => ?_)
              obtain ⟨fz331, efz331, hP, hD⟩ : ∃ fz331 : Nat → Int32, fz331 = upd (az310 0) xz328.toNatClampNeg rz330 ∧ va_P (dC, dI) vwCl (List.flatten [(wmGb qGb k yz218), (wmCt qCt k az219), (wmSm qSm k az220), (wmCo qCo k az221), (wmWb qWb k az222), (wmDn qDn k uz223), (wmMe qMe k az224), (wmWh qWh k az225), (wmBb qBb k az226), (wmBa qBa k az227), (wmDa qDa k (va_up oz308 0 fz326)), (wmSa qSa k (va_up az310 0 fz331)), (wmLa qLa k az309)] ++ List.flatten [(wMO qO k widthO manyO cellsO movedO tapeO linesO (qHa 0) (qBr 0) cartO (qWa 0) frostAtO actO isKeptO (qLn 0) (qBn 0) (qRw 0) (qMe 0) (qWh 0) (qDn 0) (qBb 0) (qBa 0) (qGb 0) (qCt 0) (qSm 0) (qCo 0) (qWb 0) (qDa 0) (qSa 0) (qLa 0) orderRowO oftenO lossOneO lossOtherO vO tO mO gO), (wmHa qHa k hHa), (wmWa qWa k jWa), (wmBn qBn k yBn), (wmLn qLn k aLn), (wmBr qBr k aBr), (wmRw qRw k rRw)]) H ∧ va_D A (List.flatten [(wmGb qGb k yz218), (wmCt qCt k az219), (wmSm qSm k az220), (wmCo qCo k az221), (wmWb qWb k az222), (wmDn qDn k uz223), (wmMe qMe k az224), (wmWh qWh k az225), (wmBb qBb k az226), (wmBa qBa k az227), (wmDa qDa k (va_up oz308 0 fz326)), (wmSa qSa k (va_up az310 0 fz331)), (wmLa qLa k az309)] ++ List.flatten [(wMO qO k widthO manyO cellsO movedO tapeO linesO (qHa 0) (qBr 0) cartO (qWa 0) frostAtO actO isKeptO (qLn 0) (qBn 0) (qRw 0) (qMe 0) (qWh 0) (qDn 0) (qBb 0) (qBa 0) (qGb 0) (qCt 0) (qSm 0) (qCo 0) (qWb 0) (qDa 0) (qSa 0) (qLa 0) orderRowO oftenO lossOneO lossOtherO vO tO mO gO), (wmHa qHa k hHa), (wmWa qWa k jWa), (wmBn qBn k yBn), (wmLn qLn k aLn), (wmBr qBr k aBr), (wmRw qRw k rRw)]) := ⟨_, rfl, hP, hD⟩
              have kfz331 : fz331 xz328.toNatClampNeg = rz330 := by rw [efz331]; exact pk_us
              refine lv_iconst (v := 0) hx hb dX12_runs_60 (by decide) ?_
              refine lv_istore_n (lv' := [(3, .int 0), (0, .ref (qO 0)), (1, .int xz205), (2, .int xz311)]) hx hb dX12_runs_61 rfl hl (by decide) rfl (fun ls hl => ?_)
              have lp62_kz363 : ∀ (n9_62 : Nat) (H : Heap) (locs : List Loc) (ls : Array Slot) (az361 : Nat → Nat → Int32) (xz362 : Int32), (2147483647 - xz362.toInt).toNat < n9_62 → 0 ≤ xz362.toInt → va_P (dC, dI) vwCl (List.flatten [(wmGb qGb k yz218), (wmCt qCt k az219), (wmSm qSm k az220), (wmCo qCo k az221), (wmWb qWb k az222), (wmDn qDn k uz223), (wmMe qMe k az224), (wmWh qWh k az225), (wmBb qBb k az226), (wmBa qBa k az227), (wmDa qDa k (va_up oz308 0 fz326)), (wmSa qSa k (va_up az310 0 fz331)), (wmLa qLa k az361)] ++ List.flatten [(wMO qO k widthO manyO cellsO movedO tapeO linesO (qHa 0) (qBr 0) cartO (qWa 0) frostAtO actO isKeptO (qLn 0) (qBn 0) (qRw 0) (qMe 0) (qWh 0) (qDn 0) (qBb 0) (qBa 0) (qGb 0) (qCt 0) (qSm 0) (qCo 0) (qWb 0) (qDa 0) (qSa 0) (qLa 0) orderRowO oftenO lossOneO lossOtherO vO tO mO gO), (wmHa qHa k hHa), (wmWa qWa k jWa), (wmBn qBn k yBn), (wmLn qLn k aLn), (wmBr qBr k aBr), (wmRw qRw k rRw)]) H → va_D A (List.flatten [(wmGb qGb k yz218), (wmCt qCt k az219), (wmSm qSm k az220), (wmCo qCo k az221), (wmWb qWb k az222), (wmDn qDn k uz223), (wmMe qMe k az224), (wmWh qWh k az225), (wmBb qBb k az226), (wmBa qBa k az227), (wmDa qDa k (va_up oz308 0 fz326)), (wmSa qSa k (va_up az310 0 fz331)), (wmLa qLa k az361)] ++ List.flatten [(wMO qO k widthO manyO cellsO movedO tapeO linesO (qHa 0) (qBr 0) cartO (qWa 0) frostAtO actO isKeptO (qLn 0) (qBn 0) (qRw 0) (qMe 0) (qWh 0) (qDn 0) (qBb 0) (qBa 0) (qGb 0) (qCt 0) (qSm 0) (qCo 0) (qWb 0) (qDa 0) (qSa 0) (qLa 0) orderRowO oftenO lossOneO lossOtherO vO tO mO gO), (wmHa qHa k hHa), (wmWa qWa k jWa), (wmBn qBn k yBn), (wmLn qLn k aLn), (wmBr qBr k aBr), (wmRw qRw k rRw)]) → va_S A s.heap H locs → lv_has ls 4 [(0, .ref (qO 0)), (1, .int xz205), (2, .int xz311), (3, .int xz362)] → W p l e (headSpec wk_c_X12_runs ({ frames := 3, cells := 0, slots := 0, locals := 71 })).room s m ([.ref (qO 0)] : List Value).toArray below meth c H locs 0 0 Q (F0 m 62 ls []) := by
                intro n9_62
                induction n9_62 with
                | zero => intro H locs ls az361 xz362 hm; exact absurd hm (Nat.not_lt_zero _)
                | succ n9_62 ih62 =>
                  intro H locs ls az361 xz362 hm62 jz364 hP hD hS hl
                  refine lv_iload_n hx hb dX12_runs_62 rfl (lv_at hl 3 rfl) ?_
                  refine lv_aload_n hx hb dX12_runs_63 rfl (lv_at hl 0 rfl) ?_
                  refine va_get (D := (dC, dI)) (ci := 12) (v := .ref (qDn 0)) (C := RX12) (T := TX12) (N := 59) hx hb hts (fun w h => List.mem_cons_of_mem _ (List.mem_append_right _ (List.mem_append_right _ (List.mem_append_right _ (List.mem_append_right _ (List.mem_append_right _ (List.mem_append_left _ h))))))) hown hK hP 13 rfl rfl 32 (by decide) (hts (.fieldLink RX12 71 "SagMemoryModel" "deepNow" "[I") (wl_mem 14 rfl)) (fun _ h9 => h9) rfl dX12_runs_64 ?_
                  refine lv_iload_n hx hb dX12_runs_67 rfl (lv_at hl 2 rfl) ?_
                  refine va_iald hx hb hK hP 5 0 rfl rfl (vp_in_iff.mpr ⟨by omega, by omega⟩) dX12_runs_68 ?_
                  refine lv_topi (fun xz365 exz365 => ?_)
                  have bxz365 : 0 ≤ xz365.toInt ∧ xz365.toInt ≤ xz205.toInt + 1 := by rw [exz365]; exact ru_rd huz223 (by show 0 ≤ xz311.toInt; omega) (by show xz311.toInt ≤ 2; omega)
                  have gxz365 : xz365.toInt = ((uz223 0) xz311.toNatClampNeg).toInt := congrArg Int32.toInt exz365
                  refine lv_icmp_ge (tgt := 104) hx hb dX12_runs_69 (by decide) (fun cz366 => ?_) (fun cz366 => ?_)
                  · skip
                    have bz367 := fb_rng xz362
                    have zz368 : xz365.toInt ≤ xz362.toInt := zi_le.mp cz366
                    obtain ⟨xz369, exz369⟩ : ∃ y : Int32, y = xz311 + Int32.ofInt (1) := ⟨_, rfl⟩
                    have fxz369 : xz369.toInt = xz311.toInt + (1) := by rw [exz369]; exact fb_addI (y := Int32.ofInt (1)) (by show -2147483648 ≤ xz311.toInt + (1); omega) (by show xz311.toInt + (1) < 2147483648; omega)
                    refine lv_iinc (v := xz369) (lv' := [(2, .int xz369), (0, .ref (qO 0)), (1, .int xz205), (3, .int xz362)]) hx hb dX12_runs_104 hl (k := 2) rfl exz369.symm (by decide) rfl (fun ls hl => ?_)
                    refine lv_goto (tgt := 21) hx hb dX12_runs_107 (by decide) ?_
                    exact ih21 H locs ls (va_up oz308 0 fz326) az361 (va_up az310 0 fz331) xz369 (by show (2147483647 - xz369.toInt).toNat < n9_21; omega) (rga_up hoz308 hfz326) (by show 0 ≤ xz369.toInt; omega) hP hD hS (lv_sub hl [1, 2, 0] rfl)
                  · skip
                    have bz370 := fb_rng xz362
                    have zz371 : ¬ xz365.toInt ≤ xz362.toInt := fun h9 => cz366 (zi_le.mpr h9)
                    refine lv_aload_n hx hb dX12_runs_72 rfl (lv_at hl 0 rfl) ?_
                    refine va_get (D := (dC, dI)) (ci := 12) (v := .ref (qLa 0)) (C := RX12) (T := TX12) (N := 59) hx hb hts (fun w h => List.mem_cons_of_mem _ (List.mem_append_right _ (List.mem_append_right _ (List.mem_append_right _ (List.mem_append_right _ (List.mem_append_right _ (List.mem_append_left _ h))))))) hown hK hP 13 rfl rfl 42 (by decide) (hts (.fieldLink RX12 101 "SagMemoryModel" "loadAt" "[I") (wl_mem 19 rfl)) (fun _ h9 => h9) rfl dX12_runs_73 ?_
                    refine lv_bipush (v := 8) hx hb dX12_runs_76 (by decide) ?_
                    refine lv_iconst (v := 3) hx hb dX12_runs_78 (by decide) ?_
                    refine lv_iload_n hx hb dX12_runs_79 rfl (lv_at hl 1 rfl) ?_
                    refine lv_imul hx hb dX12_runs_80 ?_
                    refine lv_topi (fun xz372 exz372 => ?_)
                    have fxz372 : xz372.toInt = (3 : Int) * xz205.toInt := by rw [exz372]; exact fb_mulI (x := (3 : Int32)) (y := xz205) (by show -2147483648 ≤ (3 : Int) * xz205.toInt; omega) (by show (3 : Int) * xz205.toInt < 2147483648; omega)
                    refine lv_iload_n hx hb dX12_runs_81 rfl (lv_at hl 2 rfl) ?_
                    refine lv_iadd hx hb dX12_runs_82 ?_
                    refine lv_topi (fun xz373 exz373 => ?_)
                    have fxz373 : xz373.toInt = xz372.toInt + xz311.toInt := by rw [exz373]; exact fb_addI (x := xz372) (y := xz311) (by show -2147483648 ≤ xz372.toInt + xz311.toInt; omega) (by show xz372.toInt + xz311.toInt < 2147483648; omega)
                    refine lv_imul hx hb dX12_runs_83 ?_
                    refine lv_topi (fun xz374 exz374 => ?_)
                    have fxz374 : xz374.toInt = (8 : Int) * xz373.toInt := by rw [exz374]; exact fb_mulI (x := (8 : Int32)) (y := xz373) (by show -2147483648 ≤ (8 : Int) * xz373.toInt; omega) (by show (8 : Int) * xz373.toInt < 2147483648; omega)
                    refine lv_iload_n hx hb dX12_runs_84 rfl (lv_at hl 3 rfl) ?_
                    refine lv_iadd hx hb dX12_runs_85 ?_
                    refine lv_topi (fun xz375 exz375 => ?_)
                    have fxz375 : xz375.toInt = xz374.toInt + xz362.toInt := by rw [exz375]; exact fb_addI (x := xz374) (y := xz362) (by show -2147483648 ≤ xz374.toInt + xz362.toInt; omega) (by show xz374.toInt + xz362.toInt < 2147483648; omega)
                    refine lv_aload_n hx hb dX12_runs_86 rfl (lv_at hl 0 rfl) ?_
                    refine va_get (D := (dC, dI)) (ci := 12) (v := .ref (qMe 0)) (C := RX12) (T := TX12) (N := 59) hx hb hts (fun w h => List.mem_cons_of_mem _ (List.mem_append_right _ (List.mem_append_right _ (List.mem_append_right _ (List.mem_append_right _ (List.mem_append_right _ (List.mem_append_left _ h))))))) hown hK hP 13 rfl rfl 30 (by decide) (hts (.fieldLink RX12 65 "SagMemoryModel" "memory" "[I") (wl_mem 20 rfl)) (fun _ h9 => h9) rfl dX12_runs_87 ?_
                    refine lv_bipush (v := 8) hx hb dX12_runs_90 (by decide) ?_
                    refine lv_iload_n hx hb dX12_runs_92 rfl (lv_at hl 2 rfl) ?_
                    refine lv_imul hx hb dX12_runs_93 ?_
                    refine lv_topi (fun xz376 exz376 => ?_)
                    have fxz376 : xz376.toInt = (8 : Int) * xz311.toInt := by rw [exz376]; exact fb_mulI (x := (8 : Int32)) (y := xz311) (by show -2147483648 ≤ (8 : Int) * xz311.toInt; omega) (by show (8 : Int) * xz311.toInt < 2147483648; omega)
                    refine lv_iload_n hx hb dX12_runs_94 rfl (lv_at hl 3 rfl) ?_
                    refine lv_iadd hx hb dX12_runs_95 ?_
                    refine lv_topi (fun xz377 exz377 => ?_)
                    have fxz377 : xz377.toInt = xz376.toInt + xz362.toInt := by rw [exz377]; exact fb_addI (x := xz376) (y := xz362) (by show -2147483648 ≤ xz376.toInt + xz362.toInt; omega) (by show xz376.toInt + xz362.toInt < 2147483648; omega)
                    refine va_iald hx hb hK hP 6 0 rfl rfl (vp_in_iff.mpr ⟨by omega, by omega⟩) dX12_runs_96 ?_
                    refine lv_topi (fun xz378 exz378 => ?_)
                    refine va_iast hx hb hK hP hD hS 12 0 rfl rfl (vp_in_iff.mpr ⟨by omega, by omega⟩) dX12_runs_97 (fun H locs hP hD hS => ?_)
                    obtain ⟨fz379, efz379, hP, hD⟩ : ∃ fz379 : Nat → Int32, fz379 = upd (az361 0) xz375.toNatClampNeg xz378 ∧ va_P (dC, dI) vwCl (List.flatten [(wmGb qGb k yz218), (wmCt qCt k az219), (wmSm qSm k az220), (wmCo qCo k az221), (wmWb qWb k az222), (wmDn qDn k uz223), (wmMe qMe k az224), (wmWh qWh k az225), (wmBb qBb k az226), (wmBa qBa k az227), (wmDa qDa k (va_up oz308 0 fz326)), (wmSa qSa k (va_up az310 0 fz331)), (wmLa qLa k (va_up az361 0 fz379))] ++ List.flatten [(wMO qO k widthO manyO cellsO movedO tapeO linesO (qHa 0) (qBr 0) cartO (qWa 0) frostAtO actO isKeptO (qLn 0) (qBn 0) (qRw 0) (qMe 0) (qWh 0) (qDn 0) (qBb 0) (qBa 0) (qGb 0) (qCt 0) (qSm 0) (qCo 0) (qWb 0) (qDa 0) (qSa 0) (qLa 0) orderRowO oftenO lossOneO lossOtherO vO tO mO gO), (wmHa qHa k hHa), (wmWa qWa k jWa), (wmBn qBn k yBn), (wmLn qLn k aLn), (wmBr qBr k aBr), (wmRw qRw k rRw)]) H ∧ va_D A (List.flatten [(wmGb qGb k yz218), (wmCt qCt k az219), (wmSm qSm k az220), (wmCo qCo k az221), (wmWb qWb k az222), (wmDn qDn k uz223), (wmMe qMe k az224), (wmWh qWh k az225), (wmBb qBb k az226), (wmBa qBa k az227), (wmDa qDa k (va_up oz308 0 fz326)), (wmSa qSa k (va_up az310 0 fz331)), (wmLa qLa k (va_up az361 0 fz379))] ++ List.flatten [(wMO qO k widthO manyO cellsO movedO tapeO linesO (qHa 0) (qBr 0) cartO (qWa 0) frostAtO actO isKeptO (qLn 0) (qBn 0) (qRw 0) (qMe 0) (qWh 0) (qDn 0) (qBb 0) (qBa 0) (qGb 0) (qCt 0) (qSm 0) (qCo 0) (qWb 0) (qDa 0) (qSa 0) (qLa 0) orderRowO oftenO lossOneO lossOtherO vO tO mO gO), (wmHa qHa k hHa), (wmWa qWa k jWa), (wmBn qBn k yBn), (wmLn qLn k aLn), (wmBr qBr k aBr), (wmRw qRw k rRw)]) := ⟨_, rfl, hP, hD⟩
                    have kfz379 : fz379 xz375.toNatClampNeg = xz378 := by rw [efz379]; exact pk_us
                    obtain ⟨xz380, exz380⟩ : ∃ y : Int32, y = xz362 + Int32.ofInt (1) := ⟨_, rfl⟩
                    have fxz380 : xz380.toInt = xz362.toInt + (1) := by rw [exz380]; exact fb_addI (y := Int32.ofInt (1)) (by show -2147483648 ≤ xz362.toInt + (1); omega) (by show xz362.toInt + (1) < 2147483648; omega)
                    refine lv_iinc (v := xz380) (lv' := [(3, .int xz380), (0, .ref (qO 0)), (1, .int xz205), (2, .int xz311)]) hx hb dX12_runs_98 hl (k := 3) rfl exz380.symm (by decide) rfl (fun ls hl => ?_)
                    refine lv_goto (tgt := 62) hx hb dX12_runs_101 (by decide) ?_
                    exact ih62 H locs ls (va_up az361 0 fz379) xz380 (by show (2147483647 - xz380.toInt).toNat < n9_62; omega) (by show 0 ≤ xz380.toInt; omega) hP hD hS (lv_sub hl [1, 2, 3, 0] rfl)
              exact lp62_kz363 _ H locs ls az309 (0 : Int32) (Nat.lt_succ_self _) (by show 0 ≤ (0 : Int); omega) hP hD hS (lv_sub hl [1, 2, 3, 0] rfl)
        exact lp21_kz312 _ H locs ls oz196 az199 az201 (0 : Int32) (Nat.lt_succ_self _) hoz196 (by show 0 ≤ (0 : Int); omega) hP hD hS (lv_sub hl [1, 2, 0] rfl)
  exact lp6_kz206 _ H locs ls az5 az4 aCo aCt oDa uz3 yGb aLa aMe aSa aSm aWb aWh (0 : Int32) (Nat.lt_succ_self _) hoDa (ru_wk huz3 (by show (0 : Int) ≤ (0 : Int); omega)) hyGb (by show 0 ≤ (0 : Int); omega) (by show 0 ≤ (0 : Int) ∧ (0 : Int) ≤ 7; omega) hP hD hS (lv_sub hl [1, 0] rfl)
def wk_c_X12_laysNow : List Cond := .code yX12_laysNow cX12_laysNow 1 none :: ([.methodLink RX12 330 yX12_lays, .instanceMethod yX12_lays, .selects RX12 yX12_lays yX12_lays, .initialized RX12, .methodLink RX12 333 yX12_runs, .instanceMethod yX12_runs, .selects RX12 yX12_runs yX12_runs] ++ (wk_c_X12_lays ++ (wk_c_X12_runs ++ [])))
theorem wkg_c_X12_laysNow : wk_c_X12_laysNow.all goodWord = true := by decide +kernel
set_option maxHeartbeats 4000000 in
set_option maxRecDepth 100000 in
theorem c_X12_laysNow (l : Launch) (dC : Nat → ClassId) (dI : Nat → Nat → Nat) (k : Nat → ClassId) (sz : Nat) (qO : Nat → Nat) (widthO : Nat) (manyO : Nat) (cellsO : Nat) (movedO : Nat) (tapeO : Nat) (linesO : Nat) (isKeptO : Nat) (orderRowO : Nat) (oftenO : Nat) (lossOneO : Nat) (lossOtherO : Nat) (vO : Nat → Int32) (tO : Nat → Int32) (mO : Nat → Int32) (gO : Nat → Int64) (qHa : Nat → Nat) (hHa : Nat → Nat → Int32) (qFr : Nat → Nat) (aFr : Nat → Nat → Int32) (qCa : Nat → Nat) (pCa : Nat → Nat → Int32) (qAc : Nat → Nat) (iAc : Nat → Nat → Int32) (qLn : Nat → Nat) (aLn : Nat → Nat → Int32) (qBn : Nat → Nat) (yBn : Nat → Nat → Int32) (qRw : Nat → Nat) (rRw : Nat → Nat → Int32) (qWa : Nat → Nat) (jWa : Nat → Nat → Int32) (qBr : Nat → Nat) (aBr : Nat → Nat → Int32) (qGb : Nat → Nat) (yGb : Nat → Nat → Int32) (qCt : Nat → Nat) (aCt : Nat → Nat → Int32) (qSm : Nat → Nat) (aSm : Nat → Nat → Int32) (qCo : Nat → Nat) (aCo : Nat → Nat → Int32) (qWb : Nat → Nat) (aWb : Nat → Nat → Int32) (qDn : Nat → Nat) (uDn : Nat → Nat → Int32) (qMe : Nat → Nat) (aMe : Nat → Nat → Int32) (qWh : Nat → Nat) (aWh : Nat → Nat → Int32) (qBb : Nat → Nat) (aBb : Nat → Nat → Int32) (qBa : Nat → Nat) (aBa : Nat → Nat → Int32) (qDa : Nat → Nat) (oDa : Nat → Nat → Int32) (qSa : Nat → Nat) (aSa : Nat → Nat → Int32) (qLa : Nat → Nat) (aLa : Nat → Nat → Int32) (htO : Rg 0 700 tO) (hmO : Rg (-1) 127 mO) (hhHa : Pa_h hHa) (hpCa : Pa_p pCa) (hiAc : Pa_i iAc) (hyBn : RgA (-1) 2 yBn) (hrRw : RgA 0 6 rRw) (hjWa : Pa_j jWa) (hyGb : RgA (-1) 2 yGb) (huDn : RuA 8 uDn) (hoDa : RgA 0 7 oDa) : Met l yX12_laysNow wk_c_X12_laysNow ({ frames := 4, cells := 0, slots := 0, locals := 94 }) (va_Pc [.ref (qO 0)] (fun U => U.heap.size = sz ∧ va_P (dC, dI) vwCl (List.flatten [(wMO qO k widthO manyO cellsO movedO tapeO linesO (qHa 0) (qBr 0) (qCa 0) (qWa 0) (qFr 0) (qAc 0) isKeptO (qLn 0) (qBn 0) (qRw 0) (qMe 0) (qWh 0) (qDn 0) (qBb 0) (qBa 0) (qGb 0) (qCt 0) (qSm 0) (qCo 0) (qWb 0) (qDa 0) (qSa 0) (qLa 0) orderRowO oftenO lossOneO lossOtherO vO tO mO gO), (wmLn qLn k aLn), (wmBn qBn k yBn), (wmRw qRw k rRw), (wmGb qGb k yGb), (wmCt qCt k aCt), (wmSm qSm k aSm), (wmCo qCo k aCo), (wmWb qWb k aWb), (wmDn qDn k uDn), (wmMe qMe k aMe), (wmWh qWh k aWh), (wmBb qBb k aBb), (wmBa qBa k aBa), (wmDa qDa k oDa), (wmSa qSa k aSa), (wmLa qLa k aLa)] ++ List.flatten [(wmHa qHa k hHa), (wmFr qFr k aFr), (wmCa qCa k pCa), (wmAc qAc k iAc), (wmWa qWa k jWa), (wmBr qBr k aBr)]) U.heap ∧ va_K (dC, dI) vwCl (tK k) U ∧ va_D (fun _ => True) (List.flatten [(wMO qO k widthO manyO cellsO movedO tapeO linesO (qHa 0) (qBr 0) (qCa 0) (qWa 0) (qFr 0) (qAc 0) isKeptO (qLn 0) (qBn 0) (qRw 0) (qMe 0) (qWh 0) (qDn 0) (qBb 0) (qBa 0) (qGb 0) (qCt 0) (qSm 0) (qCo 0) (qWb 0) (qDa 0) (qSa 0) (qLa 0) orderRowO oftenO lossOneO lossOtherO vO tO mO gO), (wmLn qLn k aLn), (wmBn qBn k yBn), (wmRw qRw k rRw), (wmGb qGb k yGb), (wmCt qCt k aCt), (wmSm qSm k aSm), (wmCo qCo k aCo), (wmWb qWb k aWb), (wmDn qDn k uDn), (wmMe qMe k aMe), (wmWh qWh k aWh), (wmBb qBb k aBb), (wmBa qBa k aBa), (wmDa qDa k oDa), (wmSa qSa k aSa), (wmLa qLa k aLa)] ++ List.flatten [(wmHa qHa k hHa), (wmFr qFr k aFr), (wmCa qCa k pCa), (wmAc qAc k iAc), (wmWa qWa k jWa), (wmBr qBr k aBr)]))) (va_Qv (fun _ : Unit => True) (fun (_ : Unit) (t : State) => ∃ (vO' : Nat → Int32) (tO' : Nat → Int32) (mO' : Nat → Int32) (gO' : Nat → Int64) (aLn' : Nat → Nat → Int32) (yBn' : Nat → Nat → Int32) (rRw' : Nat → Nat → Int32) (yGb' : Nat → Nat → Int32) (aCt' : Nat → Nat → Int32) (aSm' : Nat → Nat → Int32) (aCo' : Nat → Nat → Int32) (aWb' : Nat → Nat → Int32) (uDn' : Nat → Nat → Int32) (aMe' : Nat → Nat → Int32) (aWh' : Nat → Nat → Int32) (aBb' : Nat → Nat → Int32) (aBa' : Nat → Nat → Int32) (oDa' : Nat → Nat → Int32) (aSa' : Nat → Nat → Int32) (aLa' : Nat → Nat → Int32), Rg 0 700 tO' ∧ Rg (-1) 127 mO' ∧ RgA (-1) 2 yBn' ∧ RgA 0 6 rRw' ∧ RgA (-1) 2 yGb' ∧ RuA 8 uDn' ∧ RgA 0 7 oDa' ∧ va_P (dC, dI) vwCl (List.flatten [(wMO qO k widthO manyO cellsO movedO tapeO linesO (qHa 0) (qBr 0) (qCa 0) (qWa 0) (qFr 0) (qAc 0) isKeptO (qLn 0) (qBn 0) (qRw 0) (qMe 0) (qWh 0) (qDn 0) (qBb 0) (qBa 0) (qGb 0) (qCt 0) (qSm 0) (qCo 0) (qWb 0) (qDa 0) (qSa 0) (qLa 0) orderRowO oftenO lossOneO lossOtherO vO' tO' mO' gO'), (wmLn qLn k aLn'), (wmBn qBn k yBn'), (wmRw qRw k rRw'), (wmGb qGb k yGb'), (wmCt qCt k aCt'), (wmSm qSm k aSm'), (wmCo qCo k aCo'), (wmWb qWb k aWb'), (wmDn qDn k uDn'), (wmMe qMe k aMe'), (wmWh qWh k aWh'), (wmBb qBb k aBb'), (wmBa qBa k aBa'), (wmDa qDa k oDa'), (wmSa qSa k aSa'), (wmLa qLa k aLa')] ++ List.flatten [(wmHa qHa k hHa), (wmFr qFr k aFr), (wmCa qCa k pCa), (wmAc qAc k iAc), (wmWa qWa k jWa), (wmBr qBr k aBr)]) t.heap) (va_A (List.flatten [(wMO qO k widthO manyO cellsO movedO tapeO linesO (qHa 0) (qBr 0) (qCa 0) (qWa 0) (qFr 0) (qAc 0) isKeptO (qLn 0) (qBn 0) (qRw 0) (qMe 0) (qWh 0) (qDn 0) (qBb 0) (qBa 0) (qGb 0) (qCt 0) (qSm 0) (qCo 0) (qWb 0) (qDa 0) (qSa 0) (qLa 0) orderRowO oftenO lossOneO lossOtherO vO tO mO gO), (wmLn qLn k aLn), (wmBn qBn k yBn), (wmRw qRw k rRw), (wmGb qGb k yGb), (wmCt qCt k aCt), (wmSm qSm k aSm), (wmCo qCo k aCo), (wmWb qWb k aWb), (wmDn qDn k uDn), (wmMe qMe k aMe), (wmWh qWh k aWh), (wmBb qBb k aBb), (wmBa qBa k aBa), (wmDa qDa k oDa), (wmSa qSa k aSa), (wmLa qLa k aLa)] ++ List.flatten [(wmHa qHa k hHa), (wmFr qFr k aFr), (wmCa qCa k pCa), (wmAc qAc k iAc), (wmWa qWa k jWa), (wmBr qBr k aBr)]) sz)) 0 0 (va_A (List.flatten [(wMO qO k widthO manyO cellsO movedO tapeO linesO (qHa 0) (qBr 0) (qCa 0) (qWa 0) (qFr 0) (qAc 0) isKeptO (qLn 0) (qBn 0) (qRw 0) (qMe 0) (qWh 0) (qDn 0) (qBb 0) (qBa 0) (qGb 0) (qCt 0) (qSm 0) (qCo 0) (qWb 0) (qDa 0) (qSa 0) (qLa 0) orderRowO oftenO lossOneO lossOtherO vO tO mO gO), (wmLn qLn k aLn), (wmBn qBn k yBn), (wmRw qRw k rRw), (wmGb qGb k yGb), (wmCt qCt k aCt), (wmSm qSm k aSm), (wmCo qCo k aCo), (wmWb qWb k aWb), (wmDn qDn k uDn), (wmMe qMe k aMe), (wmWh qWh k aWh), (wmBb qBb k aBb), (wmBa qBa k aBa), (wmDa qDa k oDa), (wmSa qSa k aSa), (wmLa qLa k aLa)] ++ List.flatten [(wmHa qHa k hHa), (wmFr qFr k aFr), (wmCa qCa k pCa), (wmAc qAc k iAc), (wmWa qWa k jWa), (wmBr qBr k aBr)]) sz) := by
  refine Met.ofW (cc := cX12_laysNow) (maxL := 1) (ret := none) (by decide) rfl ?_
  intro p e s m args below meth c s₁ B hml hv
  obtain ⟨rfl, hsz, hP, hK, hD0⟩ := hv
  have hx := B.exec
  have hb := B.bytes
  have hr := B.returns
  have hts := atoms_spec (ws := wk_c_X12_laysNow) B.pre
  have hown : s.vm.findClass RX12 = some m.cls := findClass_of_methodNamed B.named
  have hlocks := B.notSynchronized
  subst hsz
  have hD := hD0.self (sz := s.heap.size)
  generalize hAe : va_A (List.flatten [(wMO qO k widthO manyO cellsO movedO tapeO linesO (qHa 0) (qBr 0) (qCa 0) (qWa 0) (qFr 0) (qAc 0) isKeptO (qLn 0) (qBn 0) (qRw 0) (qMe 0) (qWh 0) (qDn 0) (qBb 0) (qBa 0) (qGb 0) (qCt 0) (qSm 0) (qCo 0) (qWb 0) (qDa 0) (qSa 0) (qLa 0) orderRowO oftenO lossOneO lossOtherO vO tO mO gO), (wmLn qLn k aLn), (wmBn qBn k yBn), (wmRw qRw k rRw), (wmGb qGb k yGb), (wmCt qCt k aCt), (wmSm qSm k aSm), (wmCo qCo k aCo), (wmWb qWb k aWb), (wmDn qDn k uDn), (wmMe qMe k aMe), (wmWh qWh k aWh), (wmBb qBb k aBb), (wmBa qBa k aBa), (wmDa qDa k oDa), (wmSa qSa k aSa), (wmLa qLa k aLa)] ++ List.flatten [(wmHa qHa k hHa), (wmFr qFr k aFr), (wmCa qCa k pCa), (wmAc qAc k iAc), (wmWa qWa k jWa), (wmBr qBr k aBr)]) s.heap.size = A at hD ⊢
  have hA : ∀ q : Nat, s.heap.size ≤ q → A q := fun q h => by rw [← hAe]; exact Or.inr h
  have hS : va_S A s.heap s.heap [] := va_S.rf
  have hP : va_P (dC, dI) vwCl (List.flatten [(wMO qO k widthO manyO cellsO movedO tapeO linesO (qHa 0) (qBr 0) (qCa 0) (qWa 0) (qFr 0) (qAc 0) isKeptO (qLn 0) (qBn 0) (qRw 0) (qMe 0) (qWh 0) (qDn 0) (qBb 0) (qBa 0) (qGb 0) (qCt 0) (qSm 0) (qCo 0) (qWb 0) (qDa 0) (qSa 0) (qLa 0) orderRowO oftenO lossOneO lossOtherO vO tO mO gO), (wmLn qLn k aLn), (wmBn qBn k yBn), (wmRw qRw k rRw), (wmGb qGb k yGb), (wmCt qCt k aCt), (wmSm qSm k aSm), (wmCo qCo k aCo), (wmWb qWb k aWb), (wmDn qDn k uDn), (wmMe qMe k aMe), (wmWh qWh k aWh), (wmBb qBb k aBb), (wmBa qBa k aBa), (wmDa qDa k oDa), (wmSa qSa k aSa), (wmLa qLa k aLa)] ++ List.flatten [(wmHa qHa k hHa), (wmFr qFr k aFr), (wmCa qCa k pCa), (wmAc qAc k iAc), (wmWa qWa k jWa), (wmBr qBr k aBr)]) s.heap := hP
  have hl := lv_entry ([.ref (qO 0)]) (n := 1) (Nat.le_of_ble_eq_true rfl)
  rw [lg_entry_eq]
  generalize (lg_sl ([.ref (qO 0)]) ++ List.replicate (1 - (lg_sl ([.ref (qO 0)])).length) Slot.unset).toArray = ls at hl ⊢
  have hl : lv_has ls 1 [(0, .ref (qO 0))] := hl
  refine w_gen (fun Q hQ => ?_)
  refine lv_aload_n hx hb dX12_laysNow_0 rfl (lv_at hl 0 rfl) ?_
  have hPc := hP.sub (ws' := (List.flatten [(wMO qO k widthO manyO cellsO movedO tapeO linesO (qHa 0) (qBr 0) (qCa 0) (qWa 0) (qFr 0) (qAc 0) isKeptO (qLn 0) (qBn 0) (qRw 0) (qMe 0) (qWh 0) (qDn 0) (qBb 0) (qBa 0) (qGb 0) (qCt 0) (qSm 0) (qCo 0) (qWb 0) (qDa 0) (qSa 0) (qLa 0) orderRowO oftenO lossOneO lossOtherO vO tO mO gO), (wmLn qLn k aLn), (wmBn qBn k yBn), (wmRw qRw k rRw)] ++ List.flatten [(wmHa qHa k hHa), (wmFr qFr k aFr), (wmCa qCa k pCa), (wmAc qAc k iAc)])) [0, 1, 2, 3, 17, 18, 19, 20] rfl
  have hC : [0, 1, 2, 3, 17, 18, 19, 20].map (fun i => (List.flatten [(wMO qO k widthO manyO cellsO movedO tapeO linesO (qHa 0) (qBr 0) (qCa 0) (qWa 0) (qFr 0) (qAc 0) isKeptO (qLn 0) (qBn 0) (qRw 0) (qMe 0) (qWh 0) (qDn 0) (qBb 0) (qBa 0) (qGb 0) (qCt 0) (qSm 0) (qCo 0) (qWb 0) (qDa 0) (qSa 0) (qLa 0) orderRowO oftenO lossOneO lossOtherO vO tO mO gO), (wmLn qLn k aLn), (wmBn qBn k yBn), (wmRw qRw k rRw), (wmGb qGb k yGb), (wmCt qCt k aCt), (wmSm qSm k aSm), (wmCo qCo k aCo), (wmWb qWb k aWb), (wmDn qDn k uDn), (wmMe qMe k aMe), (wmWh qWh k aWh), (wmBb qBb k aBb), (wmBa qBa k aBa), (wmDa qDa k oDa), (wmSa qSa k aSa), (wmLa qLa k aLa)] ++ List.flatten [(wmHa qHa k hHa), (wmFr qFr k aFr), (wmCa qCa k pCa), (wmAc qAc k iAc), (wmWa qWa k jWa), (wmBr qBr k aBr)])[i]?) = (List.flatten [(wMO qO k widthO manyO cellsO movedO tapeO linesO (qHa 0) (qBr 0) (qCa 0) (qWa 0) (qFr 0) (qAc 0) isKeptO (qLn 0) (qBn 0) (qRw 0) (qMe 0) (qWh 0) (qDn 0) (qBb 0) (qBa 0) (qGb 0) (qCt 0) (qSm 0) (qCo 0) (qWb 0) (qDa 0) (qSa 0) (qLa 0) orderRowO oftenO lossOneO lossOtherO vO tO mO gO), (wmLn qLn k aLn), (wmBn qBn k yBn), (wmRw qRw k rRw)] ++ List.flatten [(wmHa qHa k hHa), (wmFr qFr k aFr), (wmCa qCa k pCa), (wmAc qAc k iAc)]).map some := rfl
  have hDc := hD.sub [0, 1, 2, 3, 17, 18, 19, 20] (by decide) hC
  have hFc := va_free hD hS hA [0, 1, 2, 3, 17, 18, 19, 20] hC
  refine va_callv (va_runV (As := []) (rest := []) ⟨hx, hb, hml, hown, hts⟩ (c_X12_lays l dC dI k s.heap.size qO widthO manyO cellsO movedO tapeO linesO (qBr 0) (qWa 0) isKeptO (qMe 0) (qWh 0) (qDn 0) (qBb 0) (qBa 0) (qGb 0) (qCt 0) (qSm 0) (qCo 0) (qWb 0) (qDa 0) (qSa 0) (qLa 0) orderRowO oftenO lossOneO lossOtherO vO tO mO gO qHa hHa qFr aFr qCa pCa qAc iAc qLn aLn qBn yBn qRw rRw htO hmO hhHa hpCa hiAc hyBn hrRw) (cwV 0 hts (gk_V (wl_mem 0 rfl) (wl_mem 1 rfl) (wl_mem 2 rfl) (wl_mem 3 rfl) (fun w h => List.mem_cons_of_mem _ (List.mem_append_right _ (List.mem_append_left _ h))) wkg_c_X12_lays) rfl rfl rfl (by decide +kernel) ⟨Nat.le_of_ble_eq_true rfl, Nat.le_of_ble_eq_true rfl⟩) ⟨fun a U g mk q => by obtain ⟨q0, q1, qP, qK, qD⟩ := q; exact ⟨q0, q1, qP, va_K.moved (u := U) (U := U.calling g mk a) (Vm.Alike.refl U.vm) qK, qD⟩, va_recv hK hPc (ci := 12) (q0 := 0) rfl rfl, fun U hU hW => ⟨rfl, by rw [hU], by rw [hU]; exact hPc, va_K.moved hW.alike hK, hDc.weaken (fun _ _ _ _ => trivial)⟩⟩ rfl rfl hl.1 rfl (lv_room (Nat.le_of_ble_eq_true rfl)) dX12_laysNow_1 ⟨Nat.le_of_ble_eq_true rfl, Nat.le_of_ble_eq_true rfl⟩) hS (fun q _ h => hFc q h) hFc (fun u t H1 locs ht hvm gz1 hB hz1 hk1 hS => ?_)
  obtain ⟨vz3, tz4, mz5, gz6, az7, yz8, rz9, htz4, hmz5, hyz8, hrz9, hP1⟩ := hB
  rw [ht] at hP1
  obtain ⟨hP, hD⟩ := w_callR hP hD hk1 hP1 [0, 1, 2, 3] rfl rfl (wk_memC [17, 18, 19, 20] rfl) rfl [some 0, some 1, some 2, some 3, none, none, none, none, none, none, none, none, none, none, none, none, none] rfl rfl
  clear hPc hC hDc hFc hk1 hP1
  generalize H1 = H at hP hS ⊢
  have hP : va_P (dC, dI) vwCl (List.flatten [(wMO qO k widthO manyO cellsO movedO tapeO linesO (qHa 0) (qBr 0) (qCa 0) (qWa 0) (qFr 0) (qAc 0) isKeptO (qLn 0) (qBn 0) (qRw 0) (qMe 0) (qWh 0) (qDn 0) (qBb 0) (qBa 0) (qGb 0) (qCt 0) (qSm 0) (qCo 0) (qWb 0) (qDa 0) (qSa 0) (qLa 0) orderRowO oftenO lossOneO lossOtherO vz3 tz4 mz5 gz6), (wmLn qLn k az7), (wmBn qBn k yz8), (wmRw qRw k rz9), (wmGb qGb k yGb), (wmCt qCt k aCt), (wmSm qSm k aSm), (wmCo qCo k aCo), (wmWb qWb k aWb), (wmDn qDn k uDn), (wmMe qMe k aMe), (wmWh qWh k aWh), (wmBb qBb k aBb), (wmBa qBa k aBa), (wmDa qDa k oDa), (wmSa qSa k aSa), (wmLa qLa k aLa)] ++ List.flatten [(wmHa qHa k hHa), (wmFr qFr k aFr), (wmCa qCa k pCa), (wmAc qAc k iAc), (wmWa qWa k jWa), (wmBr qBr k aBr)]) H := hP
  have hD : va_D A (List.flatten [(wMO qO k widthO manyO cellsO movedO tapeO linesO (qHa 0) (qBr 0) (qCa 0) (qWa 0) (qFr 0) (qAc 0) isKeptO (qLn 0) (qBn 0) (qRw 0) (qMe 0) (qWh 0) (qDn 0) (qBb 0) (qBa 0) (qGb 0) (qCt 0) (qSm 0) (qCo 0) (qWb 0) (qDa 0) (qSa 0) (qLa 0) orderRowO oftenO lossOneO lossOtherO vz3 tz4 mz5 gz6), (wmLn qLn k az7), (wmBn qBn k yz8), (wmRw qRw k rz9), (wmGb qGb k yGb), (wmCt qCt k aCt), (wmSm qSm k aSm), (wmCo qCo k aCo), (wmWb qWb k aWb), (wmDn qDn k uDn), (wmMe qMe k aMe), (wmWh qWh k aWh), (wmBb qBb k aBb), (wmBa qBa k aBa), (wmDa qDa k oDa), (wmSa qSa k aSa), (wmLa qLa k aLa)] ++ List.flatten [(wmHa qHa k hHa), (wmFr qFr k aFr), (wmCa qCa k pCa), (wmAc qAc k iAc), (wmWa qWa k jWa), (wmBr qBr k aBr)]) := hD
  refine W.widen (k := 0) (n := 0) (Nat.le_refl 0) (Nat.le_refl 0) ?_
  refine lv_aload_n hx hb dX12_laysNow_4 rfl (lv_at hl 0 rfl) ?_
  have hPc := hP.sub (ws' := (List.flatten [(wmGb qGb k yGb), (wmCt qCt k aCt), (wmSm qSm k aSm), (wmCo qCo k aCo), (wmWb qWb k aWb), (wmDn qDn k uDn), (wmMe qMe k aMe), (wmWh qWh k aWh), (wmBb qBb k aBb), (wmBa qBa k aBa), (wmDa qDa k oDa), (wmSa qSa k aSa), (wmLa qLa k aLa)] ++ List.flatten [(wMO qO k widthO manyO cellsO movedO tapeO linesO (qHa 0) (qBr 0) (qCa 0) (qWa 0) (qFr 0) (qAc 0) isKeptO (qLn 0) (qBn 0) (qRw 0) (qMe 0) (qWh 0) (qDn 0) (qBb 0) (qBa 0) (qGb 0) (qCt 0) (qSm 0) (qCo 0) (qWb 0) (qDa 0) (qSa 0) (qLa 0) orderRowO oftenO lossOneO lossOtherO vz3 tz4 mz5 gz6), (wmHa qHa k hHa), (wmWa qWa k jWa), (wmBn qBn k yz8), (wmLn qLn k az7), (wmBr qBr k aBr), (wmRw qRw k rz9)])) [4, 5, 6, 7, 8, 9, 10, 11, 12, 13, 14, 15, 16, 0, 17, 21, 2, 1, 22, 3] rfl
  have hC : [4, 5, 6, 7, 8, 9, 10, 11, 12, 13, 14, 15, 16, 0, 17, 21, 2, 1, 22, 3].map (fun i => (List.flatten [(wMO qO k widthO manyO cellsO movedO tapeO linesO (qHa 0) (qBr 0) (qCa 0) (qWa 0) (qFr 0) (qAc 0) isKeptO (qLn 0) (qBn 0) (qRw 0) (qMe 0) (qWh 0) (qDn 0) (qBb 0) (qBa 0) (qGb 0) (qCt 0) (qSm 0) (qCo 0) (qWb 0) (qDa 0) (qSa 0) (qLa 0) orderRowO oftenO lossOneO lossOtherO vz3 tz4 mz5 gz6), (wmLn qLn k az7), (wmBn qBn k yz8), (wmRw qRw k rz9), (wmGb qGb k yGb), (wmCt qCt k aCt), (wmSm qSm k aSm), (wmCo qCo k aCo), (wmWb qWb k aWb), (wmDn qDn k uDn), (wmMe qMe k aMe), (wmWh qWh k aWh), (wmBb qBb k aBb), (wmBa qBa k aBa), (wmDa qDa k oDa), (wmSa qSa k aSa), (wmLa qLa k aLa)] ++ List.flatten [(wmHa qHa k hHa), (wmFr qFr k aFr), (wmCa qCa k pCa), (wmAc qAc k iAc), (wmWa qWa k jWa), (wmBr qBr k aBr)])[i]?) = (List.flatten [(wmGb qGb k yGb), (wmCt qCt k aCt), (wmSm qSm k aSm), (wmCo qCo k aCo), (wmWb qWb k aWb), (wmDn qDn k uDn), (wmMe qMe k aMe), (wmWh qWh k aWh), (wmBb qBb k aBb), (wmBa qBa k aBa), (wmDa qDa k oDa), (wmSa qSa k aSa), (wmLa qLa k aLa)] ++ List.flatten [(wMO qO k widthO manyO cellsO movedO tapeO linesO (qHa 0) (qBr 0) (qCa 0) (qWa 0) (qFr 0) (qAc 0) isKeptO (qLn 0) (qBn 0) (qRw 0) (qMe 0) (qWh 0) (qDn 0) (qBb 0) (qBa 0) (qGb 0) (qCt 0) (qSm 0) (qCo 0) (qWb 0) (qDa 0) (qSa 0) (qLa 0) orderRowO oftenO lossOneO lossOtherO vz3 tz4 mz5 gz6), (wmHa qHa k hHa), (wmWa qWa k jWa), (wmBn qBn k yz8), (wmLn qLn k az7), (wmBr qBr k aBr), (wmRw qRw k rz9)]).map some := rfl
  have hDc := hD.sub [4, 5, 6, 7, 8, 9, 10, 11, 12, 13, 14, 15, 16, 0, 17, 21, 2, 1, 22, 3] (by decide) hC
  have hFc := va_free hD hS hA [4, 5, 6, 7, 8, 9, 10, 11, 12, 13, 14, 15, 16, 0, 17, 21, 2, 1, 22, 3] hC
  refine va_callv (va_runV (As := []) (rest := []) ⟨hx, hb, hml, hown, hts⟩ (c_X12_runs l dC dI k H.size qO widthO manyO cellsO movedO tapeO linesO (qCa 0) (qFr 0) (qAc 0) isKeptO orderRowO oftenO lossOneO lossOtherO vz3 tz4 mz5 gz6 qHa hHa qWa jWa qBn yz8 qLn az7 qBr aBr qRw rz9 qGb yGb qCt aCt qSm aSm qCo aCo qWb aWb qDn uDn qMe aMe qWh aWh qBb aBb qBa aBa qDa oDa qSa aSa qLa aLa htz4 hmz5 hhHa hjWa hyz8 hrz9 hyGb huDn hoDa) (cwV 0 hts (gk_V (wl_mem 4 rfl) (wl_mem 5 rfl) (wl_mem 6 rfl) (wl_mem 3 rfl) (fun w h => List.mem_cons_of_mem _ (List.mem_append_right _ (List.mem_append_right _ (List.mem_append_left _ h)))) wkg_c_X12_runs) rfl rfl rfl (by decide +kernel) ⟨Nat.le_of_ble_eq_true rfl, Nat.le_of_ble_eq_true rfl⟩) ⟨fun a U g mk q => by obtain ⟨q0, q1, qP, qK, qD⟩ := q; exact ⟨q0, q1, qP, va_K.moved (u := U) (U := U.calling g mk a) (Vm.Alike.refl U.vm) qK, qD⟩, va_recv hK hPc (ci := 12) (q0 := 13) rfl rfl, fun U hU hW => ⟨rfl, by rw [hU], by rw [hU]; exact hPc, va_K.moved hW.alike hK, hDc.weaken (fun _ _ _ _ => trivial)⟩⟩ rfl rfl hl.1 rfl (lv_room (Nat.le_of_ble_eq_true rfl)) dX12_laysNow_5 ⟨Nat.le_of_ble_eq_true rfl, Nat.le_of_ble_eq_true rfl⟩) hS (fun q _ h => hFc q h) hFc (fun u t H1 locs ht hvm gz10 hB hz1 hk1 hS => ?_)
  obtain ⟨yz12, az13, az14, az15, az16, uz17, az18, az19, az20, az21, oz22, az23, az24, hyz12, huz17, hoz22, hP1⟩ := hB
  rw [ht] at hP1
  obtain ⟨hP, hD⟩ := w_callR hP hD hk1 hP1 [4, 5, 6, 7, 8, 9, 10, 11, 12, 13, 14, 15, 16] rfl rfl (wk_memC [0, 17, 21, 2, 1, 22, 3] rfl) rfl [none, none, none, none, some 0, some 1, some 2, some 3, some 4, some 5, some 6, some 7, some 8, some 9, some 10, some 11, some 12] rfl rfl
  clear hPc hC hDc hFc hk1 hP1
  generalize H1 = H at hP hS ⊢
  have hP : va_P (dC, dI) vwCl (List.flatten [(wMO qO k widthO manyO cellsO movedO tapeO linesO (qHa 0) (qBr 0) (qCa 0) (qWa 0) (qFr 0) (qAc 0) isKeptO (qLn 0) (qBn 0) (qRw 0) (qMe 0) (qWh 0) (qDn 0) (qBb 0) (qBa 0) (qGb 0) (qCt 0) (qSm 0) (qCo 0) (qWb 0) (qDa 0) (qSa 0) (qLa 0) orderRowO oftenO lossOneO lossOtherO vz3 tz4 mz5 gz6), (wmLn qLn k az7), (wmBn qBn k yz8), (wmRw qRw k rz9), (wmGb qGb k yz12), (wmCt qCt k az13), (wmSm qSm k az14), (wmCo qCo k az15), (wmWb qWb k az16), (wmDn qDn k uz17), (wmMe qMe k az18), (wmWh qWh k az19), (wmBb qBb k az20), (wmBa qBa k az21), (wmDa qDa k oz22), (wmSa qSa k az23), (wmLa qLa k az24)] ++ List.flatten [(wmHa qHa k hHa), (wmFr qFr k aFr), (wmCa qCa k pCa), (wmAc qAc k iAc), (wmWa qWa k jWa), (wmBr qBr k aBr)]) H := hP
  have hD : va_D A (List.flatten [(wMO qO k widthO manyO cellsO movedO tapeO linesO (qHa 0) (qBr 0) (qCa 0) (qWa 0) (qFr 0) (qAc 0) isKeptO (qLn 0) (qBn 0) (qRw 0) (qMe 0) (qWh 0) (qDn 0) (qBb 0) (qBa 0) (qGb 0) (qCt 0) (qSm 0) (qCo 0) (qWb 0) (qDa 0) (qSa 0) (qLa 0) orderRowO oftenO lossOneO lossOtherO vz3 tz4 mz5 gz6), (wmLn qLn k az7), (wmBn qBn k yz8), (wmRw qRw k rz9), (wmGb qGb k yz12), (wmCt qCt k az13), (wmSm qSm k az14), (wmCo qCo k az15), (wmWb qWb k az16), (wmDn qDn k uz17), (wmMe qMe k az18), (wmWh qWh k az19), (wmBb qBb k az20), (wmBa qBa k az21), (wmDa qDa k oz22), (wmSa qSa k az23), (wmLa qLa k az24)] ++ List.flatten [(wmHa qHa k hHa), (wmFr qFr k aFr), (wmCa qCa k pCa), (wmAc qAc k iAc), (wmWa qWa k jWa), (wmBr qBr k aBr)]) := hD
  refine W.widen (k := 0) (n := 0) (Nat.le_refl 0) (Nat.le_refl 0) ?_
  rw [hQ]
  exact W.vret hx hb hr (fun t ht hW => ⟨⟨(), rfl, trivial, vz3, tz4, mz5, gz6, az7, yz8, rz9, yz12, az13, az14, az15, az16, uz17, az18, az19, az20, az21, oz22, az23, az24, htz4, hmz5, hyz8, hrz9, hyz12, huz17, hoz22, by rw [ht]; exact hP⟩, hS.F ht⟩) hS.2.2 dX12_laysNow_8
def wk_c_X12_sagAll : List Cond := .code yX12_sagAll cX12_sagAll 3 (some .int) :: ([.methodLink RX12 283 yX12_bridges, .instanceMethod yX12_bridges, .selects RX12 yX12_bridges yX12_bridges, .initialized RX12, .methodLink RX12 317 yX12_sagOf, .instanceMethod yX12_sagOf, .selects RX12 yX12_sagOf yX12_sagOf] ++ (wk_c_X12_bridges ++ (wk_c_X12_sagOf ++ [])))
theorem wkg_c_X12_sagAll : wk_c_X12_sagAll.all goodWord = true := by decide +kernel
set_option maxHeartbeats 4000000 in
set_option maxRecDepth 100000 in
theorem c_X12_sagAll (l : Launch) (dC : Nat → ClassId) (dI : Nat → Nat → Nat) (k : Nat → ClassId) (qO : Nat → Nat) (widthO : Nat) (manyO : Nat) (cellsO : Nat) (movedO : Nat) (tapeO : Nat) (linesO : Nat) (bridgeO : Nat) (cartO : Nat) (wardO : Nat) (frostAtO : Nat) (actO : Nat) (isKeptO : Nat) (loadNowO : Nat) (byNowO : Nat) (rowO : Nat) (whoseO : Nat) (brokenByO : Nat) (brokenAtO : Nat) (goesByO : Nat) (comesToO : Nat) (sagMoreO : Nat) (creakOfO : Nat) (wipedByO : Nat) (deepAtO : Nat) (sagAtO : Nat) (loadAtO : Nat) (orderRowO : Nat) (oftenO : Nat) (lossOneO : Nat) (lossOtherO : Nat) (vO : Nat → Int32) (tO : Nat → Int32) (mO : Nat → Int32) (gO : Nat → Int64) (qHa : Nat → Nat) (hHa : Nat → Nat → Int32) (qDn : Nat → Nat) (uDn : Nat → Nat → Int32) (qMe : Nat → Nat) (aMe : Nat → Nat → Int32) (htO : Rg 0 700 tO) (hmO : Rg (-1) 127 mO) (hhHa : Pa_h hHa) (huDn : RuA 8 uDn) : Met l yX12_sagAll wk_c_X12_sagAll ({ frames := 1, cells := 0, slots := 0, locals := 23 }) (va_Pc [.ref (qO 0)] (fun U => va_P (dC, dI) vwCl (List.flatten [(wMO qO k widthO manyO cellsO movedO tapeO linesO (qHa 0) bridgeO cartO wardO frostAtO actO isKeptO loadNowO byNowO rowO (qMe 0) whoseO (qDn 0) brokenByO brokenAtO goesByO comesToO sagMoreO creakOfO wipedByO deepAtO sagAtO loadAtO orderRowO oftenO lossOneO lossOtherO vO tO mO gO), (wmHa qHa k hHa), (wmDn qDn k uDn), (wmMe qMe k aMe)]) U.heap ∧ va_K (dC, dI) vwCl (tK k) U)) (vp_Si (fun r : Int32 => True)) 0 0 (fun _ => False) := by
  refine Met.ofW (cc := cX12_sagAll) (maxL := 3) (ret := (some .int)) (by decide) rfl ?_
  intro p e s m args below meth c s₁ B hml hv
  obtain ⟨rfl, hP, hK⟩ := hv
  have hx := B.exec
  have hb := B.bytes
  have hr := B.returns
  have hts := atoms_spec (ws := wk_c_X12_sagAll) B.pre
  have hown : s.vm.findClass RX12 = some m.cls := findClass_of_methodNamed B.named
  have hlocks := B.notSynchronized
  have hP : va_P (dC, dI) vwCl (List.flatten [(wMO qO k widthO manyO cellsO movedO tapeO linesO (qHa 0) bridgeO cartO wardO frostAtO actO isKeptO loadNowO byNowO rowO (qMe 0) whoseO (qDn 0) brokenByO brokenAtO goesByO comesToO sagMoreO creakOfO wipedByO deepAtO sagAtO loadAtO orderRowO oftenO lossOneO lossOtherO vO tO mO gO), (wmHa qHa k hHa), (wmDn qDn k uDn), (wmMe qMe k aMe)]) s.heap := hP
  have hl := lv_entry ([.ref (qO 0)]) (n := 3) (Nat.le_of_ble_eq_true rfl)
  rw [lg_entry_eq]
  generalize (lg_sl ([.ref (qO 0)]) ++ List.replicate (3 - (lg_sl ([.ref (qO 0)])).length) Slot.unset).toArray = ls at hl ⊢
  have hl : lv_has ls 3 [(0, .ref (qO 0))] := hl
  refine w_gen (fun Q hQ => ?_)
  refine lv_iconst (v := 0) hx hb dX12_sagAll_0 (by decide) ?_
  refine lv_istore_n (lv' := [(1, .int 0), (0, .ref (qO 0))]) hx hb dX12_sagAll_1 rfl hl (by decide) rfl (fun ls hl => ?_)
  refine lv_iconst (v := 0) hx hb dX12_sagAll_2 (by decide) ?_
  refine lv_istore_n (lv' := [(2, .int 0), (1, .int 0), (0, .ref (qO 0))]) hx hb dX12_sagAll_3 rfl hl (by decide) rfl (fun ls hl => ?_)
  have lp4_kz17 : ∀ (n9_4 : Nat) (ls : Array Slot) (xz15 : Int32) (xz16 : Int32), (2147483647 - xz16.toInt).toNat < n9_4 → 0 ≤ xz16.toInt → lv_has ls 3 [(0, .ref (qO 0)), (1, .int xz15), (2, .int xz16)] → W p l e (headSpec wk_c_X12_sagAll ({ frames := 1, cells := 0, slots := 0, locals := 23 })).room s m ([.ref (qO 0)] : List Value).toArray below meth c s.heap [] 0 0 Q (F0 m 4 ls []) := by
    intro n9_4
    induction n9_4 with
    | zero => intro ls xz15 xz16 hm; exact absurd hm (Nat.not_lt_zero _)
    | succ n9_4 ih4 =>
      intro ls xz15 xz16 hm4 jz18 hl
      refine lv_iload_n hx hb dX12_sagAll_4 rfl (lv_at hl 2 rfl) ?_
      refine lv_aload_n hx hb dX12_sagAll_5 rfl (lv_at hl 0 rfl) ?_
      have hPc := hP.sub (ws' := (List.flatten [(wMO qO k widthO manyO cellsO movedO tapeO linesO (qHa 0) bridgeO cartO wardO frostAtO actO isKeptO loadNowO byNowO rowO (qMe 0) whoseO (qDn 0) brokenByO brokenAtO goesByO comesToO sagMoreO creakOfO wipedByO deepAtO sagAtO loadAtO orderRowO oftenO lossOneO lossOtherO vO tO mO gO), (wmHa qHa k hHa)])) [0, 1] rfl
      refine vp_callSi (va_Run.run (va_runV (As := []) (rest := [.int xz16]) ⟨hx, hb, hml, hown, hts⟩ (c_X12_bridges l dC dI k qO widthO manyO cellsO movedO tapeO linesO bridgeO cartO wardO frostAtO actO isKeptO loadNowO byNowO rowO (qMe 0) whoseO (qDn 0) brokenByO brokenAtO goesByO comesToO sagMoreO creakOfO wipedByO deepAtO sagAtO loadAtO orderRowO oftenO lossOneO lossOtherO vO tO mO gO qHa hHa htO hmO hhHa) (cwV 0 hts (gk_V (wl_mem 0 rfl) (wl_mem 1 rfl) (wl_mem 2 rfl) (wl_mem 3 rfl) (fun w h => List.mem_cons_of_mem _ (List.mem_append_right _ (List.mem_append_left _ h))) wkg_c_X12_bridges) rfl rfl rfl (by decide +kernel) ⟨Nat.le_of_ble_eq_true rfl, Nat.le_of_ble_eq_true rfl⟩) ⟨fun a U g mk q => by obtain ⟨q0, qP, qK⟩ := q; exact ⟨q0, qP, va_K.moved (u := U) (U := U.calling g mk a) (Vm.Alike.refl U.vm) qK⟩, va_recv hK hPc (ci := 12) (q0 := 0) rfl rfl, fun U hU hW => ⟨rfl, by rw [hU]; exact hPc, va_K.moved hW.alike hK⟩⟩ rfl rfl hl.1 rfl (lv_room (Nat.le_of_ble_eq_true rfl)) dX12_sagAll_6 ⟨Nat.le_of_ble_eq_true rfl, Nat.le_of_ble_eq_true rfl⟩)) (fun rz20 gz19 => ?_)
      clear hPc
      have pz21 := gz19
      have pz21 : 0 ≤ rz20.toInt ∧ rz20.toInt ≤ 3 := pz21
      refine lv_icmp_ge (tgt := 26) hx hb dX12_sagAll_9 (by decide) (fun cz22 => ?_) (fun cz22 => ?_)
      · skip
        have bz23 := fb_rng xz16
        have zz24 : rz20.toInt ≤ xz16.toInt := zi_le.mp cz22
        refine lv_iload_n hx hb dX12_sagAll_26 rfl (lv_at hl 1 rfl) ?_
        rw [hQ]
        exact W.iret (v := xz15) hx hb hr (fun t ht hW => ⟨xz15, rfl, trivial, ht⟩) (fun _ h => absurd h List.not_mem_nil) dX12_sagAll_27
      · skip
        have bz25 := fb_rng xz16
        have zz26 : ¬ rz20.toInt ≤ xz16.toInt := fun h9 => cz22 (zi_le.mpr h9)
        refine lv_iload_n hx hb dX12_sagAll_12 rfl (lv_at hl 1 rfl) ?_
        refine lv_aload_n hx hb dX12_sagAll_13 rfl (lv_at hl 0 rfl) ?_
        refine lv_iload_n hx hb dX12_sagAll_14 rfl (lv_at hl 2 rfl) ?_
        have hPc := hP.sub (ws' := (List.flatten [(wMO qO k widthO manyO cellsO movedO tapeO linesO (qHa 0) bridgeO cartO wardO frostAtO actO isKeptO loadNowO byNowO rowO (qMe 0) whoseO (qDn 0) brokenByO brokenAtO goesByO comesToO sagMoreO creakOfO wipedByO deepAtO sagAtO loadAtO orderRowO oftenO lossOneO lossOtherO vO tO mO gO), (wmDn qDn k uDn), (wmMe qMe k aMe)])) [0, 2, 3] rfl
        refine vp_callSi (va_Run.run (va_runV (As := [.int xz16]) (rest := [.int xz15]) ⟨hx, hb, hml, hown, hts⟩ (c_X12_sagOf l dC dI k qO widthO manyO cellsO movedO tapeO linesO (qHa 0) bridgeO cartO wardO frostAtO actO isKeptO loadNowO byNowO rowO whoseO brokenByO brokenAtO goesByO comesToO sagMoreO creakOfO wipedByO deepAtO sagAtO loadAtO orderRowO oftenO lossOneO lossOtherO vO tO mO gO qDn uDn qMe aMe xz16 htO hmO huDn (by show 0 ≤ xz16.toInt ∧ xz16.toInt ≤ 2; omega)) (cwV 1 hts (gk_V (wl_mem 4 rfl) (wl_mem 5 rfl) (wl_mem 6 rfl) (wl_mem 3 rfl) (fun w h => List.mem_cons_of_mem _ (List.mem_append_right _ (List.mem_append_right _ (List.mem_append_left _ h)))) wkg_c_X12_sagOf) rfl rfl rfl (by decide +kernel) ⟨Nat.le_of_ble_eq_true rfl, Nat.le_of_ble_eq_true rfl⟩) ⟨fun a U g mk q => by obtain ⟨q0, qP, qK⟩ := q; exact ⟨q0, qP, va_K.moved (u := U) (U := U.calling g mk a) (Vm.Alike.refl U.vm) qK⟩, va_recv hK hPc (ci := 12) (q0 := 0) rfl rfl, fun U hU hW => ⟨rfl, by rw [hU]; exact hPc, va_K.moved hW.alike hK⟩⟩ rfl rfl hl.1 rfl (lv_room (Nat.le_of_ble_eq_true rfl)) dX12_sagAll_15 ⟨Nat.le_of_ble_eq_true rfl, Nat.le_of_ble_eq_true rfl⟩)) (fun rz28 gz27 => ?_)
        clear hPc
        refine lv_iadd hx hb dX12_sagAll_18 ?_
        refine lv_topi (fun xz29 exz29 => ?_)
        refine lv_istore_n (lv' := [(1, .int xz29), (0, .ref (qO 0)), (2, .int xz16)]) hx hb dX12_sagAll_19 rfl hl (by decide) rfl (fun ls hl => ?_)
        obtain ⟨xz30, exz30⟩ : ∃ y : Int32, y = xz16 + Int32.ofInt (1) := ⟨_, rfl⟩
        have fxz30 : xz30.toInt = xz16.toInt + (1) := by rw [exz30]; exact fb_addI (y := Int32.ofInt (1)) (by show -2147483648 ≤ xz16.toInt + (1); omega) (by show xz16.toInt + (1) < 2147483648; omega)
        refine lv_iinc (v := xz30) (lv' := [(2, .int xz30), (1, .int xz29), (0, .ref (qO 0))]) hx hb dX12_sagAll_20 hl (k := 2) rfl exz30.symm (by decide) rfl (fun ls hl => ?_)
        refine lv_goto (tgt := 4) hx hb dX12_sagAll_23 (by decide) ?_
        exact ih4 ls xz29 xz30 (by show (2147483647 - xz30.toInt).toNat < n9_4; omega) (by show 0 ≤ xz30.toInt; omega) (lv_sub hl [2, 1, 0] rfl)
  exact lp4_kz17 _ ls (0 : Int32) (0 : Int32) (Nat.lt_succ_self _) (by show 0 ≤ (0 : Int); omega) (lv_sub hl [2, 1, 0] rfl)
def wk_c_X12_sagsNow : List Cond := .code yX12_sagsNow cX12_sagsNow 1 (some .int) :: ([.methodLink RX12 336 yX12_laysNow, .instanceMethod yX12_laysNow, .selects RX12 yX12_laysNow yX12_laysNow, .initialized RX12, .methodLink RX12 339 yX12_sagAll, .instanceMethod yX12_sagAll, .selects RX12 yX12_sagAll yX12_sagAll] ++ (wk_c_X12_laysNow ++ (wk_c_X12_sagAll ++ [])))
theorem wkg_c_X12_sagsNow : wk_c_X12_sagsNow.all goodWord = true := by decide +kernel
set_option maxHeartbeats 4000000 in
set_option maxRecDepth 100000 in
theorem c_X12_sagsNow (l : Launch) (dC : Nat → ClassId) (dI : Nat → Nat → Nat) (k : Nat → ClassId) (sz : Nat) (qO : Nat → Nat) (widthO : Nat) (manyO : Nat) (cellsO : Nat) (movedO : Nat) (tapeO : Nat) (linesO : Nat) (isKeptO : Nat) (orderRowO : Nat) (oftenO : Nat) (lossOneO : Nat) (lossOtherO : Nat) (vO : Nat → Int32) (tO : Nat → Int32) (mO : Nat → Int32) (gO : Nat → Int64) (qHa : Nat → Nat) (hHa : Nat → Nat → Int32) (qFr : Nat → Nat) (aFr : Nat → Nat → Int32) (qCa : Nat → Nat) (pCa : Nat → Nat → Int32) (qAc : Nat → Nat) (iAc : Nat → Nat → Int32) (qLn : Nat → Nat) (aLn : Nat → Nat → Int32) (qBn : Nat → Nat) (yBn : Nat → Nat → Int32) (qRw : Nat → Nat) (rRw : Nat → Nat → Int32) (qWa : Nat → Nat) (jWa : Nat → Nat → Int32) (qBr : Nat → Nat) (aBr : Nat → Nat → Int32) (qGb : Nat → Nat) (yGb : Nat → Nat → Int32) (qCt : Nat → Nat) (aCt : Nat → Nat → Int32) (qSm : Nat → Nat) (aSm : Nat → Nat → Int32) (qCo : Nat → Nat) (aCo : Nat → Nat → Int32) (qWb : Nat → Nat) (aWb : Nat → Nat → Int32) (qDn : Nat → Nat) (uDn : Nat → Nat → Int32) (qMe : Nat → Nat) (aMe : Nat → Nat → Int32) (qWh : Nat → Nat) (aWh : Nat → Nat → Int32) (qBb : Nat → Nat) (aBb : Nat → Nat → Int32) (qBa : Nat → Nat) (aBa : Nat → Nat → Int32) (qDa : Nat → Nat) (oDa : Nat → Nat → Int32) (qSa : Nat → Nat) (aSa : Nat → Nat → Int32) (qLa : Nat → Nat) (aLa : Nat → Nat → Int32) (htO : Rg 0 700 tO) (hmO : Rg (-1) 127 mO) (hhHa : Pa_h hHa) (hpCa : Pa_p pCa) (hiAc : Pa_i iAc) (hyBn : RgA (-1) 2 yBn) (hrRw : RgA 0 6 rRw) (hjWa : Pa_j jWa) (hyGb : RgA (-1) 2 yGb) (huDn : RuA 8 uDn) (hoDa : RgA 0 7 oDa) : Met l yX12_sagsNow wk_c_X12_sagsNow ({ frames := 5, cells := 0, slots := 0, locals := 114 }) (va_Pc [.ref (qO 0)] (fun U => U.heap.size = sz ∧ va_P (dC, dI) vwCl (List.flatten [(wMO qO k widthO manyO cellsO movedO tapeO linesO (qHa 0) (qBr 0) (qCa 0) (qWa 0) (qFr 0) (qAc 0) isKeptO (qLn 0) (qBn 0) (qRw 0) (qMe 0) (qWh 0) (qDn 0) (qBb 0) (qBa 0) (qGb 0) (qCt 0) (qSm 0) (qCo 0) (qWb 0) (qDa 0) (qSa 0) (qLa 0) orderRowO oftenO lossOneO lossOtherO vO tO mO gO), (wmLn qLn k aLn), (wmBn qBn k yBn), (wmRw qRw k rRw), (wmGb qGb k yGb), (wmCt qCt k aCt), (wmSm qSm k aSm), (wmCo qCo k aCo), (wmWb qWb k aWb), (wmDn qDn k uDn), (wmMe qMe k aMe), (wmWh qWh k aWh), (wmBb qBb k aBb), (wmBa qBa k aBa), (wmDa qDa k oDa), (wmSa qSa k aSa), (wmLa qLa k aLa)] ++ List.flatten [(wmHa qHa k hHa), (wmFr qFr k aFr), (wmCa qCa k pCa), (wmAc qAc k iAc), (wmWa qWa k jWa), (wmBr qBr k aBr)]) U.heap ∧ va_K (dC, dI) vwCl (tK k) U ∧ va_D (fun _ => True) (List.flatten [(wMO qO k widthO manyO cellsO movedO tapeO linesO (qHa 0) (qBr 0) (qCa 0) (qWa 0) (qFr 0) (qAc 0) isKeptO (qLn 0) (qBn 0) (qRw 0) (qMe 0) (qWh 0) (qDn 0) (qBb 0) (qBa 0) (qGb 0) (qCt 0) (qSm 0) (qCo 0) (qWb 0) (qDa 0) (qSa 0) (qLa 0) orderRowO oftenO lossOneO lossOtherO vO tO mO gO), (wmLn qLn k aLn), (wmBn qBn k yBn), (wmRw qRw k rRw), (wmGb qGb k yGb), (wmCt qCt k aCt), (wmSm qSm k aSm), (wmCo qCo k aCo), (wmWb qWb k aWb), (wmDn qDn k uDn), (wmMe qMe k aMe), (wmWh qWh k aWh), (wmBb qBb k aBb), (wmBa qBa k aBa), (wmDa qDa k oDa), (wmSa qSa k aSa), (wmLa qLa k aLa)] ++ List.flatten [(wmHa qHa k hHa), (wmFr qFr k aFr), (wmCa qCa k pCa), (wmAc qAc k iAc), (wmWa qWa k jWa), (wmBr qBr k aBr)]))) (va_Qi (fun (r : Int32) (_ : Unit) => True) (fun (_ : Unit) (t : State) => ∃ (vO' : Nat → Int32) (tO' : Nat → Int32) (mO' : Nat → Int32) (gO' : Nat → Int64) (aLn' : Nat → Nat → Int32) (yBn' : Nat → Nat → Int32) (rRw' : Nat → Nat → Int32) (yGb' : Nat → Nat → Int32) (aCt' : Nat → Nat → Int32) (aSm' : Nat → Nat → Int32) (aCo' : Nat → Nat → Int32) (aWb' : Nat → Nat → Int32) (uDn' : Nat → Nat → Int32) (aMe' : Nat → Nat → Int32) (aWh' : Nat → Nat → Int32) (aBb' : Nat → Nat → Int32) (aBa' : Nat → Nat → Int32) (oDa' : Nat → Nat → Int32) (aSa' : Nat → Nat → Int32) (aLa' : Nat → Nat → Int32), Rg 0 700 tO' ∧ Rg (-1) 127 mO' ∧ RgA (-1) 2 yBn' ∧ RgA 0 6 rRw' ∧ RgA (-1) 2 yGb' ∧ RuA 8 uDn' ∧ RgA 0 7 oDa' ∧ va_P (dC, dI) vwCl (List.flatten [(wMO qO k widthO manyO cellsO movedO tapeO linesO (qHa 0) (qBr 0) (qCa 0) (qWa 0) (qFr 0) (qAc 0) isKeptO (qLn 0) (qBn 0) (qRw 0) (qMe 0) (qWh 0) (qDn 0) (qBb 0) (qBa 0) (qGb 0) (qCt 0) (qSm 0) (qCo 0) (qWb 0) (qDa 0) (qSa 0) (qLa 0) orderRowO oftenO lossOneO lossOtherO vO' tO' mO' gO'), (wmLn qLn k aLn'), (wmBn qBn k yBn'), (wmRw qRw k rRw'), (wmGb qGb k yGb'), (wmCt qCt k aCt'), (wmSm qSm k aSm'), (wmCo qCo k aCo'), (wmWb qWb k aWb'), (wmDn qDn k uDn'), (wmMe qMe k aMe'), (wmWh qWh k aWh'), (wmBb qBb k aBb'), (wmBa qBa k aBa'), (wmDa qDa k oDa'), (wmSa qSa k aSa'), (wmLa qLa k aLa')] ++ List.flatten [(wmHa qHa k hHa), (wmFr qFr k aFr), (wmCa qCa k pCa), (wmAc qAc k iAc), (wmWa qWa k jWa), (wmBr qBr k aBr)]) t.heap) (va_A (List.flatten [(wMO qO k widthO manyO cellsO movedO tapeO linesO (qHa 0) (qBr 0) (qCa 0) (qWa 0) (qFr 0) (qAc 0) isKeptO (qLn 0) (qBn 0) (qRw 0) (qMe 0) (qWh 0) (qDn 0) (qBb 0) (qBa 0) (qGb 0) (qCt 0) (qSm 0) (qCo 0) (qWb 0) (qDa 0) (qSa 0) (qLa 0) orderRowO oftenO lossOneO lossOtherO vO tO mO gO), (wmLn qLn k aLn), (wmBn qBn k yBn), (wmRw qRw k rRw), (wmGb qGb k yGb), (wmCt qCt k aCt), (wmSm qSm k aSm), (wmCo qCo k aCo), (wmWb qWb k aWb), (wmDn qDn k uDn), (wmMe qMe k aMe), (wmWh qWh k aWh), (wmBb qBb k aBb), (wmBa qBa k aBa), (wmDa qDa k oDa), (wmSa qSa k aSa), (wmLa qLa k aLa)] ++ List.flatten [(wmHa qHa k hHa), (wmFr qFr k aFr), (wmCa qCa k pCa), (wmAc qAc k iAc), (wmWa qWa k jWa), (wmBr qBr k aBr)]) sz)) 0 0 (va_A (List.flatten [(wMO qO k widthO manyO cellsO movedO tapeO linesO (qHa 0) (qBr 0) (qCa 0) (qWa 0) (qFr 0) (qAc 0) isKeptO (qLn 0) (qBn 0) (qRw 0) (qMe 0) (qWh 0) (qDn 0) (qBb 0) (qBa 0) (qGb 0) (qCt 0) (qSm 0) (qCo 0) (qWb 0) (qDa 0) (qSa 0) (qLa 0) orderRowO oftenO lossOneO lossOtherO vO tO mO gO), (wmLn qLn k aLn), (wmBn qBn k yBn), (wmRw qRw k rRw), (wmGb qGb k yGb), (wmCt qCt k aCt), (wmSm qSm k aSm), (wmCo qCo k aCo), (wmWb qWb k aWb), (wmDn qDn k uDn), (wmMe qMe k aMe), (wmWh qWh k aWh), (wmBb qBb k aBb), (wmBa qBa k aBa), (wmDa qDa k oDa), (wmSa qSa k aSa), (wmLa qLa k aLa)] ++ List.flatten [(wmHa qHa k hHa), (wmFr qFr k aFr), (wmCa qCa k pCa), (wmAc qAc k iAc), (wmWa qWa k jWa), (wmBr qBr k aBr)]) sz) := by
  refine Met.ofW (cc := cX12_sagsNow) (maxL := 1) (ret := (some .int)) (by decide) rfl ?_
  intro p e s m args below meth c s₁ B hml hv
  obtain ⟨rfl, hsz, hP, hK, hD0⟩ := hv
  have hx := B.exec
  have hb := B.bytes
  have hr := B.returns
  have hts := atoms_spec (ws := wk_c_X12_sagsNow) B.pre
  have hown : s.vm.findClass RX12 = some m.cls := findClass_of_methodNamed B.named
  have hlocks := B.notSynchronized
  subst hsz
  have hD := hD0.self (sz := s.heap.size)
  generalize hAe : va_A (List.flatten [(wMO qO k widthO manyO cellsO movedO tapeO linesO (qHa 0) (qBr 0) (qCa 0) (qWa 0) (qFr 0) (qAc 0) isKeptO (qLn 0) (qBn 0) (qRw 0) (qMe 0) (qWh 0) (qDn 0) (qBb 0) (qBa 0) (qGb 0) (qCt 0) (qSm 0) (qCo 0) (qWb 0) (qDa 0) (qSa 0) (qLa 0) orderRowO oftenO lossOneO lossOtherO vO tO mO gO), (wmLn qLn k aLn), (wmBn qBn k yBn), (wmRw qRw k rRw), (wmGb qGb k yGb), (wmCt qCt k aCt), (wmSm qSm k aSm), (wmCo qCo k aCo), (wmWb qWb k aWb), (wmDn qDn k uDn), (wmMe qMe k aMe), (wmWh qWh k aWh), (wmBb qBb k aBb), (wmBa qBa k aBa), (wmDa qDa k oDa), (wmSa qSa k aSa), (wmLa qLa k aLa)] ++ List.flatten [(wmHa qHa k hHa), (wmFr qFr k aFr), (wmCa qCa k pCa), (wmAc qAc k iAc), (wmWa qWa k jWa), (wmBr qBr k aBr)]) s.heap.size = A at hD ⊢
  have hA : ∀ q : Nat, s.heap.size ≤ q → A q := fun q h => by rw [← hAe]; exact Or.inr h
  have hS : va_S A s.heap s.heap [] := va_S.rf
  have hP : va_P (dC, dI) vwCl (List.flatten [(wMO qO k widthO manyO cellsO movedO tapeO linesO (qHa 0) (qBr 0) (qCa 0) (qWa 0) (qFr 0) (qAc 0) isKeptO (qLn 0) (qBn 0) (qRw 0) (qMe 0) (qWh 0) (qDn 0) (qBb 0) (qBa 0) (qGb 0) (qCt 0) (qSm 0) (qCo 0) (qWb 0) (qDa 0) (qSa 0) (qLa 0) orderRowO oftenO lossOneO lossOtherO vO tO mO gO), (wmLn qLn k aLn), (wmBn qBn k yBn), (wmRw qRw k rRw), (wmGb qGb k yGb), (wmCt qCt k aCt), (wmSm qSm k aSm), (wmCo qCo k aCo), (wmWb qWb k aWb), (wmDn qDn k uDn), (wmMe qMe k aMe), (wmWh qWh k aWh), (wmBb qBb k aBb), (wmBa qBa k aBa), (wmDa qDa k oDa), (wmSa qSa k aSa), (wmLa qLa k aLa)] ++ List.flatten [(wmHa qHa k hHa), (wmFr qFr k aFr), (wmCa qCa k pCa), (wmAc qAc k iAc), (wmWa qWa k jWa), (wmBr qBr k aBr)]) s.heap := hP
  have hl := lv_entry ([.ref (qO 0)]) (n := 1) (Nat.le_of_ble_eq_true rfl)
  rw [lg_entry_eq]
  generalize (lg_sl ([.ref (qO 0)]) ++ List.replicate (1 - (lg_sl ([.ref (qO 0)])).length) Slot.unset).toArray = ls at hl ⊢
  have hl : lv_has ls 1 [(0, .ref (qO 0))] := hl
  refine w_gen (fun Q hQ => ?_)
  refine lv_aload_n hx hb dX12_sagsNow_0 rfl (lv_at hl 0 rfl) ?_
  have hPc := hP
  have hDc : va_D A (List.flatten [(wMO qO k widthO manyO cellsO movedO tapeO linesO (qHa 0) (qBr 0) (qCa 0) (qWa 0) (qFr 0) (qAc 0) isKeptO (qLn 0) (qBn 0) (qRw 0) (qMe 0) (qWh 0) (qDn 0) (qBb 0) (qBa 0) (qGb 0) (qCt 0) (qSm 0) (qCo 0) (qWb 0) (qDa 0) (qSa 0) (qLa 0) orderRowO oftenO lossOneO lossOtherO vO tO mO gO), (wmLn qLn k aLn), (wmBn qBn k yBn), (wmRw qRw k rRw), (wmGb qGb k yGb), (wmCt qCt k aCt), (wmSm qSm k aSm), (wmCo qCo k aCo), (wmWb qWb k aWb), (wmDn qDn k uDn), (wmMe qMe k aMe), (wmWh qWh k aWh), (wmBb qBb k aBb), (wmBa qBa k aBa), (wmDa qDa k oDa), (wmSa qSa k aSa), (wmLa qLa k aLa)] ++ List.flatten [(wmHa qHa k hHa), (wmFr qFr k aFr), (wmCa qCa k pCa), (wmAc qAc k iAc), (wmWa qWa k jWa), (wmBr qBr k aBr)]) := wc_subD hD [0, 1, 2, 3, 4, 5, 6, 7, 8, 9, 10, 11, 12, 13, 14, 15, 16, 17, 18, 19, 20, 21, 22] rfl rfl
  have hFc := wc_free hDc hS hA
  refine va_callv (va_runV (As := []) (rest := []) ⟨hx, hb, hml, hown, hts⟩ (c_X12_laysNow l dC dI k s.heap.size qO widthO manyO cellsO movedO tapeO linesO isKeptO orderRowO oftenO lossOneO lossOtherO vO tO mO gO qHa hHa qFr aFr qCa pCa qAc iAc qLn aLn qBn yBn qRw rRw qWa jWa qBr aBr qGb yGb qCt aCt qSm aSm qCo aCo qWb aWb qDn uDn qMe aMe qWh aWh qBb aBb qBa aBa qDa oDa qSa aSa qLa aLa htO hmO hhHa hpCa hiAc hyBn hrRw hjWa hyGb huDn hoDa) (cwV 0 hts (gk_V (wl_mem 0 rfl) (wl_mem 1 rfl) (wl_mem 2 rfl) (wl_mem 3 rfl) (fun w h => List.mem_cons_of_mem _ (List.mem_append_right _ (List.mem_append_left _ h))) wkg_c_X12_laysNow) rfl rfl rfl (by decide +kernel) ⟨Nat.le_of_ble_eq_true rfl, Nat.le_of_ble_eq_true rfl⟩) ⟨fun a U g mk q => by obtain ⟨q0, q1, qP, qK, qD⟩ := q; exact ⟨q0, q1, qP, va_K.moved (u := U) (U := U.calling g mk a) (Vm.Alike.refl U.vm) qK, qD⟩, va_recv hK hPc (ci := 12) (q0 := 0) rfl rfl, fun U hU hW => ⟨rfl, by rw [hU], by rw [hU]; exact hPc, va_K.moved hW.alike hK, hDc.weaken (fun _ _ _ _ => trivial)⟩⟩ rfl rfl hl.1 rfl (lv_room (Nat.le_of_ble_eq_true rfl)) dX12_sagsNow_1 ⟨Nat.le_of_ble_eq_true rfl, Nat.le_of_ble_eq_true rfl⟩) hS (fun q _ h => hFc q h) hFc (fun u t H1 locs ht hvm gz1 hB hz1 hk1 hS => ?_)
  obtain ⟨vz3, tz4, mz5, gz6, az7, yz8, rz9, yz10, az11, az12, az13, az14, uz15, az16, az17, az18, az19, oz20, az21, az22, htz4, hmz5, hyz8, hrz9, hyz10, huz15, hoz20, hP1⟩ := hB
  rw [ht] at hP1
  obtain ⟨hP, hD⟩ := w_callR hP hD hk1 hP1 [0, 1, 2, 3, 4, 5, 6, 7, 8, 9, 10, 11, 12, 13, 14, 15, 16] rfl rfl (wk_memC [17, 18, 19, 20, 21, 22] rfl) rfl [some 0, some 1, some 2, some 3, some 4, some 5, some 6, some 7, some 8, some 9, some 10, some 11, some 12, some 13, some 14, some 15, some 16] rfl rfl
  clear hPc hDc hFc hk1 hP1
  generalize H1 = H at hP hS ⊢
  have hP : va_P (dC, dI) vwCl (List.flatten [(wMO qO k widthO manyO cellsO movedO tapeO linesO (qHa 0) (qBr 0) (qCa 0) (qWa 0) (qFr 0) (qAc 0) isKeptO (qLn 0) (qBn 0) (qRw 0) (qMe 0) (qWh 0) (qDn 0) (qBb 0) (qBa 0) (qGb 0) (qCt 0) (qSm 0) (qCo 0) (qWb 0) (qDa 0) (qSa 0) (qLa 0) orderRowO oftenO lossOneO lossOtherO vz3 tz4 mz5 gz6), (wmLn qLn k az7), (wmBn qBn k yz8), (wmRw qRw k rz9), (wmGb qGb k yz10), (wmCt qCt k az11), (wmSm qSm k az12), (wmCo qCo k az13), (wmWb qWb k az14), (wmDn qDn k uz15), (wmMe qMe k az16), (wmWh qWh k az17), (wmBb qBb k az18), (wmBa qBa k az19), (wmDa qDa k oz20), (wmSa qSa k az21), (wmLa qLa k az22)] ++ List.flatten [(wmHa qHa k hHa), (wmFr qFr k aFr), (wmCa qCa k pCa), (wmAc qAc k iAc), (wmWa qWa k jWa), (wmBr qBr k aBr)]) H := hP
  have hD : va_D A (List.flatten [(wMO qO k widthO manyO cellsO movedO tapeO linesO (qHa 0) (qBr 0) (qCa 0) (qWa 0) (qFr 0) (qAc 0) isKeptO (qLn 0) (qBn 0) (qRw 0) (qMe 0) (qWh 0) (qDn 0) (qBb 0) (qBa 0) (qGb 0) (qCt 0) (qSm 0) (qCo 0) (qWb 0) (qDa 0) (qSa 0) (qLa 0) orderRowO oftenO lossOneO lossOtherO vz3 tz4 mz5 gz6), (wmLn qLn k az7), (wmBn qBn k yz8), (wmRw qRw k rz9), (wmGb qGb k yz10), (wmCt qCt k az11), (wmSm qSm k az12), (wmCo qCo k az13), (wmWb qWb k az14), (wmDn qDn k uz15), (wmMe qMe k az16), (wmWh qWh k az17), (wmBb qBb k az18), (wmBa qBa k az19), (wmDa qDa k oz20), (wmSa qSa k az21), (wmLa qLa k az22)] ++ List.flatten [(wmHa qHa k hHa), (wmFr qFr k aFr), (wmCa qCa k pCa), (wmAc qAc k iAc), (wmWa qWa k jWa), (wmBr qBr k aBr)]) := hD
  refine W.widen (k := 0) (n := 0) (Nat.le_refl 0) (Nat.le_refl 0) ?_
  refine lv_aload_n hx hb dX12_sagsNow_4 rfl (lv_at hl 0 rfl) ?_
  have hPc := hP.sub (ws' := (List.flatten [(wMO qO k widthO manyO cellsO movedO tapeO linesO (qHa 0) (qBr 0) (qCa 0) (qWa 0) (qFr 0) (qAc 0) isKeptO (qLn 0) (qBn 0) (qRw 0) (qMe 0) (qWh 0) (qDn 0) (qBb 0) (qBa 0) (qGb 0) (qCt 0) (qSm 0) (qCo 0) (qWb 0) (qDa 0) (qSa 0) (qLa 0) orderRowO oftenO lossOneO lossOtherO vz3 tz4 mz5 gz6), (wmHa qHa k hHa), (wmDn qDn k uz15), (wmMe qMe k az16)])) [0, 17, 9, 10] rfl
  refine vp_callSi (va_Run.run (va_runV (As := []) (rest := []) ⟨hx, hb, hml, hown, hts⟩ (c_X12_sagAll l dC dI k qO widthO manyO cellsO movedO tapeO linesO (qBr 0) (qCa 0) (qWa 0) (qFr 0) (qAc 0) isKeptO (qLn 0) (qBn 0) (qRw 0) (qWh 0) (qBb 0) (qBa 0) (qGb 0) (qCt 0) (qSm 0) (qCo 0) (qWb 0) (qDa 0) (qSa 0) (qLa 0) orderRowO oftenO lossOneO lossOtherO vz3 tz4 mz5 gz6 qHa hHa qDn uz15 qMe az16 htz4 hmz5 hhHa huz15) (cwV 0 hts (gk_V (wl_mem 4 rfl) (wl_mem 5 rfl) (wl_mem 6 rfl) (wl_mem 3 rfl) (fun w h => List.mem_cons_of_mem _ (List.mem_append_right _ (List.mem_append_right _ (List.mem_append_left _ h)))) wkg_c_X12_sagAll) rfl rfl rfl (by decide +kernel) ⟨Nat.le_of_ble_eq_true rfl, Nat.le_of_ble_eq_true rfl⟩) ⟨fun a U g mk q => by obtain ⟨q0, qP, qK⟩ := q; exact ⟨q0, qP, va_K.moved (u := U) (U := U.calling g mk a) (Vm.Alike.refl U.vm) qK⟩, va_recv hK hPc (ci := 12) (q0 := 0) rfl rfl, fun U hU hW => ⟨rfl, by rw [hU]; exact hPc, va_K.moved hW.alike hK⟩⟩ rfl rfl hl.1 rfl (lv_room (Nat.le_of_ble_eq_true rfl)) dX12_sagsNow_5 ⟨Nat.le_of_ble_eq_true rfl, Nat.le_of_ble_eq_true rfl⟩)) (fun rz24 gz23 => ?_)
  clear hPc
  rw [hQ]
  exact W.iret (v := rz24) hx hb hr (fun t ht hW => ⟨⟨rz24, (), rfl, trivial, vz3, tz4, mz5, gz6, az7, yz8, rz9, yz10, az11, az12, az13, az14, uz15, az16, az17, az18, az19, oz20, az21, az22, htz4, hmz5, hyz8, hrz9, hyz10, huz15, hoz20, by rw [ht]; exact hP⟩, hS.F ht⟩) hS.2.2 dX12_sagsNow_8
def wk_c_X12_overAll : List Cond := .code yX12_overAll cX12_overAll 3 (some .int) :: ([.methodLink RX12 286 yX12_carts, .instanceMethod yX12_carts, .selects RX12 yX12_carts yX12_carts, .initialized RX12, .fieldLink RX12 80 "SagMemoryModel" "goesBy" "[I"] ++ (wk_c_X12_carts ++ (wsX120 ++ [])))
theorem wkg_c_X12_overAll : wk_c_X12_overAll.all goodWord = true := by decide +kernel
set_option maxHeartbeats 4000000 in
set_option maxRecDepth 100000 in
theorem c_X12_overAll (l : Launch) (dC : Nat → ClassId) (dI : Nat → Nat → Nat) (k : Nat → ClassId) (qO : Nat → Nat) (widthO : Nat) (manyO : Nat) (cellsO : Nat) (movedO : Nat) (tapeO : Nat) (linesO : Nat) (bridgeO : Nat) (cartO : Nat) (wardO : Nat) (frostAtO : Nat) (actO : Nat) (isKeptO : Nat) (loadNowO : Nat) (byNowO : Nat) (rowO : Nat) (memoryO : Nat) (whoseO : Nat) (deepNowO : Nat) (brokenByO : Nat) (brokenAtO : Nat) (comesToO : Nat) (sagMoreO : Nat) (creakOfO : Nat) (wipedByO : Nat) (deepAtO : Nat) (sagAtO : Nat) (loadAtO : Nat) (orderRowO : Nat) (oftenO : Nat) (lossOneO : Nat) (lossOtherO : Nat) (vO : Nat → Int32) (tO : Nat → Int32) (mO : Nat → Int32) (gO : Nat → Int64) (qHa : Nat → Nat) (hHa : Nat → Nat → Int32) (qGb : Nat → Nat) (yGb : Nat → Nat → Int32) (htO : Rg 0 700 tO) (hmO : Rg (-1) 127 mO) (hhHa : Pa_h hHa) (hyGb : RgA (-1) 2 yGb) : Met l yX12_overAll wk_c_X12_overAll ({ frames := 1, cells := 0, slots := 0, locals := 20 }) (va_Pc [.ref (qO 0)] (fun U => va_P (dC, dI) vwCl (List.flatten [(wMO qO k widthO manyO cellsO movedO tapeO linesO (qHa 0) bridgeO cartO wardO frostAtO actO isKeptO loadNowO byNowO rowO memoryO whoseO deepNowO brokenByO brokenAtO (qGb 0) comesToO sagMoreO creakOfO wipedByO deepAtO sagAtO loadAtO orderRowO oftenO lossOneO lossOtherO vO tO mO gO), (wmHa qHa k hHa), (wmGb qGb k yGb)]) U.heap ∧ va_K (dC, dI) vwCl (tK k) U)) (vp_Si (fun r : Int32 => True)) 0 0 (fun _ => False) := by
  refine Met.ofW (cc := cX12_overAll) (maxL := 3) (ret := (some .int)) (by decide) rfl ?_
  intro p e s m args below meth c s₁ B hml hv
  obtain ⟨rfl, hP, hK⟩ := hv
  have hx := B.exec
  have hb := B.bytes
  have hr := B.returns
  have hts := atoms_spec (ws := wk_c_X12_overAll) B.pre
  have hown : s.vm.findClass RX12 = some m.cls := findClass_of_methodNamed B.named
  have hlocks := B.notSynchronized
  have hP : va_P (dC, dI) vwCl (List.flatten [(wMO qO k widthO manyO cellsO movedO tapeO linesO (qHa 0) bridgeO cartO wardO frostAtO actO isKeptO loadNowO byNowO rowO memoryO whoseO deepNowO brokenByO brokenAtO (qGb 0) comesToO sagMoreO creakOfO wipedByO deepAtO sagAtO loadAtO orderRowO oftenO lossOneO lossOtherO vO tO mO gO), (wmHa qHa k hHa), (wmGb qGb k yGb)]) s.heap := hP
  have hl := lv_entry ([.ref (qO 0)]) (n := 3) (Nat.le_of_ble_eq_true rfl)
  rw [lg_entry_eq]
  generalize (lg_sl ([.ref (qO 0)]) ++ List.replicate (3 - (lg_sl ([.ref (qO 0)])).length) Slot.unset).toArray = ls at hl ⊢
  have hl : lv_has ls 3 [(0, .ref (qO 0))] := hl
  refine w_gen (fun Q hQ => ?_)
  refine lv_iconst (v := 0) hx hb dX12_overAll_0 (by decide) ?_
  refine lv_istore_n (lv' := [(1, .int 0), (0, .ref (qO 0))]) hx hb dX12_overAll_1 rfl hl (by decide) rfl (fun ls hl => ?_)
  refine lv_iconst (v := 0) hx hb dX12_overAll_2 (by decide) ?_
  refine lv_istore_n (lv' := [(2, .int 0), (1, .int 0), (0, .ref (qO 0))]) hx hb dX12_overAll_3 rfl hl (by decide) rfl (fun ls hl => ?_)
  have lp4_kz31 : ∀ (n9_4 : Nat) (ls : Array Slot) (xz29 : Int32) (xz30 : Int32), (2147483647 - xz30.toInt).toNat < n9_4 → 0 ≤ xz30.toInt → lv_has ls 3 [(0, .ref (qO 0)), (1, .int xz29), (2, .int xz30)] → W p l e (headSpec wk_c_X12_overAll ({ frames := 1, cells := 0, slots := 0, locals := 20 })).room s m ([.ref (qO 0)] : List Value).toArray below meth c s.heap [] 0 0 Q (F0 m 4 ls []) := by
    intro n9_4
    induction n9_4 with
    | zero => intro ls xz29 xz30 hm; exact absurd hm (Nat.not_lt_zero _)
    | succ n9_4 ih4 =>
      intro ls xz29 xz30 hm4 jz32 hl
      refine lv_iload_n hx hb dX12_overAll_4 rfl (lv_at hl 2 rfl) ?_
      refine lv_aload_n hx hb dX12_overAll_5 rfl (lv_at hl 0 rfl) ?_
      have hPc := hP.sub (ws' := (List.flatten [(wMO qO k widthO manyO cellsO movedO tapeO linesO (qHa 0) bridgeO cartO wardO frostAtO actO isKeptO loadNowO byNowO rowO memoryO whoseO deepNowO brokenByO brokenAtO (qGb 0) comesToO sagMoreO creakOfO wipedByO deepAtO sagAtO loadAtO orderRowO oftenO lossOneO lossOtherO vO tO mO gO), (wmHa qHa k hHa)])) [0, 1] rfl
      refine vp_callSi (va_Run.run (va_runV (As := []) (rest := [.int xz30]) ⟨hx, hb, hml, hown, hts⟩ (c_X12_carts l dC dI k qO widthO manyO cellsO movedO tapeO linesO bridgeO cartO wardO frostAtO actO isKeptO loadNowO byNowO rowO memoryO whoseO deepNowO brokenByO brokenAtO (qGb 0) comesToO sagMoreO creakOfO wipedByO deepAtO sagAtO loadAtO orderRowO oftenO lossOneO lossOtherO vO tO mO gO qHa hHa htO hmO hhHa) (cwV 0 hts (gk_V (wl_mem 0 rfl) (wl_mem 1 rfl) (wl_mem 2 rfl) (wl_mem 3 rfl) (fun w h => List.mem_cons_of_mem _ (List.mem_append_right _ (List.mem_append_left _ h))) wkg_c_X12_carts) rfl rfl rfl (by decide +kernel) ⟨Nat.le_of_ble_eq_true rfl, Nat.le_of_ble_eq_true rfl⟩) ⟨fun a U g mk q => by obtain ⟨q0, qP, qK⟩ := q; exact ⟨q0, qP, va_K.moved (u := U) (U := U.calling g mk a) (Vm.Alike.refl U.vm) qK⟩, va_recv hK hPc (ci := 12) (q0 := 0) rfl rfl, fun U hU hW => ⟨rfl, by rw [hU]; exact hPc, va_K.moved hW.alike hK⟩⟩ rfl rfl hl.1 rfl (lv_room (Nat.le_of_ble_eq_true rfl)) dX12_overAll_6 ⟨Nat.le_of_ble_eq_true rfl, Nat.le_of_ble_eq_true rfl⟩)) (fun rz34 gz33 => ?_)
      clear hPc
      obtain ⟨pz35, pz36⟩ := gz33
      have pz35 : 0 ≤ rz34.toInt ∧ rz34.toInt ≤ 7 := pz35
      have pz36 : rz34.toInt = ((hHa 0) 4).toInt := pz36
      refine lv_icmp_ge (tgt := 36) hx hb dX12_overAll_9 (by decide) (fun cz37 => ?_) (fun cz37 => ?_)
      · skip
        have bz38 := fb_rng xz30
        have zz39 : rz34.toInt ≤ xz30.toInt := zi_le.mp cz37
        refine lv_iload_n hx hb dX12_overAll_36 rfl (lv_at hl 1 rfl) ?_
        rw [hQ]
        exact W.iret (v := xz29) hx hb hr (fun t ht hW => ⟨xz29, rfl, trivial, ht⟩) (fun _ h => absurd h List.not_mem_nil) dX12_overAll_37
      · skip
        have bz40 := fb_rng xz30
        have zz41 : ¬ rz34.toInt ≤ xz30.toInt := fun h9 => cz37 (zi_le.mpr h9)
        refine lv_iload_n hx hb dX12_overAll_12 rfl (lv_at hl 1 rfl) ?_
        refine lv_aload_n hx hb dX12_overAll_13 rfl (lv_at hl 0 rfl) ?_
        refine va_get (D := (dC, dI)) (ci := 12) (v := .ref (qGb 0)) (C := RX12) (T := TX12) (N := 59) hx hb hts (fun w h => List.mem_cons_of_mem _ (List.mem_append_right _ (List.mem_append_right _ (List.mem_append_left _ h)))) hown hK hP 0 rfl rfl 35 (by decide) (hts (.fieldLink RX12 80 "SagMemoryModel" "goesBy" "[I") (wl_mem 4 rfl)) (fun _ h9 => h9) rfl dX12_overAll_14 ?_
        refine lv_iload_n hx hb dX12_overAll_17 rfl (lv_at hl 2 rfl) ?_
        refine va_iald hx hb hK hP 2 0 rfl rfl (vp_in_iff.mpr ⟨by omega, by omega⟩) dX12_overAll_18 ?_
        refine lv_topi (fun xz42 exz42 => ?_)
        have bxz42 : (-1) ≤ xz42.toInt ∧ xz42.toInt ≤ 2 := by rw [exz42]; exact (hyGb 0) _
        refine lv_iconst (v := (-1)) hx hb dX12_overAll_19 (by decide) ?_
        refine lv_icmp_ne (tgt := 27) hx hb dX12_overAll_20 (by decide) (fun cz51 => ?_) (fun cz51 => ?_)
        · skip
          have zz52 : ¬ xz42.toInt = (-1 : Int) := fun h9 => cz51 (zi_eq.mpr h9)
          refine lv_iconst (v := 1) hx hb dX12_overAll_27 (by decide) ?_
          refine lv_iadd hx hb dX12_overAll_28 ?_
          refine lv_topi (fun xz53 exz53 => ?_)
          refine lv_istore_n (lv' := [(1, .int xz53), (0, .ref (qO 0)), (2, .int xz30)]) hx hb dX12_overAll_29 rfl hl (by decide) rfl (fun ls hl => ?_)
          obtain ⟨xz54, exz54⟩ : ∃ y : Int32, y = xz30 + Int32.ofInt (1) := ⟨_, rfl⟩
          have fxz54 : xz54.toInt = xz30.toInt + (1) := by rw [exz54]; exact fb_addI (y := Int32.ofInt (1)) (by show -2147483648 ≤ xz30.toInt + (1); omega) (by show xz30.toInt + (1) < 2147483648; omega)
          refine lv_iinc (v := xz54) (lv' := [(2, .int xz54), (1, .int xz53), (0, .ref (qO 0))]) hx hb dX12_overAll_30 hl (k := 2) rfl exz54.symm (by decide) rfl (fun ls hl => ?_)
          refine lv_goto (tgt := 4) hx hb dX12_overAll_33 (by decide) ?_
          exact ih4 ls xz53 xz54 (by show (2147483647 - xz54.toInt).toNat < n9_4; omega) (by show 0 ≤ xz54.toInt; omega) (lv_sub hl [2, 1, 0] rfl)
        · skip
          have zz55 : xz42.toInt = (-1 : Int) := zi_eq.mp cz51
          refine lv_iconst (v := 0) hx hb dX12_overAll_23 (by decide) ?_
          refine lv_goto (tgt := 28) hx hb dX12_overAll_24 (by decide) ?_
          refine lv_iadd hx hb dX12_overAll_28 ?_
          have bz56 := fb_rng xz29
          refine lv_topi (fun xz57 exz57 => ?_)
          have fxz57 : xz57.toInt = xz29.toInt + (0 : Int) := by rw [exz57]; exact fb_addI (x := xz29) (y := (0 : Int32)) (by show -2147483648 ≤ xz29.toInt + (0 : Int); omega) (by show xz29.toInt + (0 : Int) < 2147483648; omega)
          refine lv_istore_n (lv' := [(1, .int xz57), (0, .ref (qO 0)), (2, .int xz30)]) hx hb dX12_overAll_29 rfl hl (by decide) rfl (fun ls hl => ?_)
          obtain ⟨xz58, exz58⟩ : ∃ y : Int32, y = xz30 + Int32.ofInt (1) := ⟨_, rfl⟩
          have fxz58 : xz58.toInt = xz30.toInt + (1) := by rw [exz58]; exact fb_addI (y := Int32.ofInt (1)) (by show -2147483648 ≤ xz30.toInt + (1); omega) (by show xz30.toInt + (1) < 2147483648; omega)
          refine lv_iinc (v := xz58) (lv' := [(2, .int xz58), (1, .int xz57), (0, .ref (qO 0))]) hx hb dX12_overAll_30 hl (k := 2) rfl exz58.symm (by decide) rfl (fun ls hl => ?_)
          refine lv_goto (tgt := 4) hx hb dX12_overAll_33 (by decide) ?_
          exact ih4 ls xz57 xz58 (by show (2147483647 - xz58.toInt).toNat < n9_4; omega) (by show 0 ≤ xz58.toInt; omega) (lv_sub hl [2, 1, 0] rfl)
  exact lp4_kz31 _ ls (0 : Int32) (0 : Int32) (Nat.lt_succ_self _) (by show 0 ≤ (0 : Int); omega) (lv_sub hl [2, 1, 0] rfl)
def wk_c_X12_paysOf : List Cond := .code yX12_paysOf cX12_paysOf 2 (some .int) :: ([.fieldLink RX12 80 "SagMemoryModel" "goesBy" "[I", .fieldLink RX12 86 "SagMemoryModel" "sagMore" "[I", .fieldLink RX12 37 "SagMemoryModel" "bridge" "[I"] ++ (wsX120 ++ []))
theorem wkg_c_X12_paysOf : wk_c_X12_paysOf.all goodWord = true := by decide +kernel
set_option maxHeartbeats 4000000 in
set_option maxRecDepth 100000 in
theorem c_X12_paysOf (l : Launch) (dC : Nat → ClassId) (dI : Nat → Nat → Nat) (k : Nat → ClassId) (qO : Nat → Nat) (widthO : Nat) (manyO : Nat) (cellsO : Nat) (movedO : Nat) (tapeO : Nat) (linesO : Nat) (hasO : Nat) (cartO : Nat) (wardO : Nat) (frostAtO : Nat) (actO : Nat) (isKeptO : Nat) (loadNowO : Nat) (byNowO : Nat) (rowO : Nat) (memoryO : Nat) (whoseO : Nat) (deepNowO : Nat) (brokenByO : Nat) (brokenAtO : Nat) (comesToO : Nat) (creakOfO : Nat) (wipedByO : Nat) (deepAtO : Nat) (sagAtO : Nat) (loadAtO : Nat) (orderRowO : Nat) (oftenO : Nat) (lossOneO : Nat) (lossOtherO : Nat) (vO : Nat → Int32) (tO : Nat → Int32) (mO : Nat → Int32) (gO : Nat → Int64) (qGb : Nat → Nat) (yGb : Nat → Nat → Int32) (qSm : Nat → Nat) (aSm : Nat → Nat → Int32) (qBr : Nat → Nat) (aBr : Nat → Nat → Int32) (p1 : Int32) (htO : Rg 0 700 tO) (hmO : Rg (-1) 127 mO) (hyGb : RgA (-1) 2 yGb) (hp0 : 0 ≤ p1.toInt ∧ p1.toInt ≤ 6) : Met l yX12_paysOf wk_c_X12_paysOf ({ frames := 0, cells := 0, slots := 0, locals := 0 }) (va_Pc [.ref (qO 0), .int p1] (fun U => va_P (dC, dI) vwCl (List.flatten [(wMO qO k widthO manyO cellsO movedO tapeO linesO hasO (qBr 0) cartO wardO frostAtO actO isKeptO loadNowO byNowO rowO memoryO whoseO deepNowO brokenByO brokenAtO (qGb 0) comesToO (qSm 0) creakOfO wipedByO deepAtO sagAtO loadAtO orderRowO oftenO lossOneO lossOtherO vO tO mO gO), (wmGb qGb k yGb), (wmSm qSm k aSm), (wmBr qBr k aBr)]) U.heap ∧ va_K (dC, dI) vwCl (tK k) U)) (vp_Si (fun r : Int32 => True)) 0 0 (fun _ => False) := by
  refine Met.ofW (cc := cX12_paysOf) (maxL := 2) (ret := (some .int)) (by decide) rfl ?_
  intro p e s m args below meth c s₁ B hml hv
  obtain ⟨rfl, hP, hK⟩ := hv
  have hx := B.exec
  have hb := B.bytes
  have hr := B.returns
  have hts := atoms_spec (ws := wk_c_X12_paysOf) B.pre
  have hown : s.vm.findClass RX12 = some m.cls := findClass_of_methodNamed B.named
  have hlocks := B.notSynchronized
  have hP : va_P (dC, dI) vwCl (List.flatten [(wMO qO k widthO manyO cellsO movedO tapeO linesO hasO (qBr 0) cartO wardO frostAtO actO isKeptO loadNowO byNowO rowO memoryO whoseO deepNowO brokenByO brokenAtO (qGb 0) comesToO (qSm 0) creakOfO wipedByO deepAtO sagAtO loadAtO orderRowO oftenO lossOneO lossOtherO vO tO mO gO), (wmGb qGb k yGb), (wmSm qSm k aSm), (wmBr qBr k aBr)]) s.heap := hP
  have hl := lv_entry ([.ref (qO 0), .int p1]) (n := 2) (Nat.le_of_ble_eq_true rfl)
  rw [lg_entry_eq]
  generalize (lg_sl ([.ref (qO 0), .int p1]) ++ List.replicate (2 - (lg_sl ([.ref (qO 0), .int p1])).length) Slot.unset).toArray = ls at hl ⊢
  have hl : lv_has ls 2 [(0, .ref (qO 0)), (1, .int p1)] := hl
  refine w_gen (fun Q hQ => ?_)
  refine lv_aload_n hx hb dX12_paysOf_0 rfl (lv_at hl 0 rfl) ?_
  refine va_get (D := (dC, dI)) (ci := 12) (v := .ref (qGb 0)) (C := RX12) (T := TX12) (N := 59) hx hb hts (fun w h => List.mem_cons_of_mem _ (List.mem_append_right _ (List.mem_append_left _ h))) hown hK hP 0 rfl rfl 35 (by decide) (hts (.fieldLink RX12 80 "SagMemoryModel" "goesBy" "[I") (wl_mem 0 rfl)) (fun _ h9 => h9) rfl dX12_paysOf_1 ?_
  refine lv_iload_n hx hb dX12_paysOf_4 rfl (lv_at hl 1 rfl) ?_
  refine va_iald hx hb hK hP 1 0 rfl rfl (vp_in_iff.mpr ⟨by omega, by omega⟩) dX12_paysOf_5 ?_
  refine lv_topi (fun xz1 exz1 => ?_)
  have bxz1 : (-1) ≤ xz1.toInt ∧ xz1.toInt ≤ 2 := by rw [exz1]; exact (hyGb 0) _
  refine lv_iconst (v := (-1)) hx hb dX12_paysOf_6 (by decide) ?_
  refine lv_icmp_eq (tgt := 19) hx hb dX12_paysOf_7 (by decide) (fun cz2 => ?_) (fun cz2 => ?_)
  · skip
    have zz3 : xz1.toInt = (-1 : Int) := zi_eq.mp cz2
    refine lv_iconst (v := 0) hx hb dX12_paysOf_19 (by decide) ?_
    refine lv_goto (tgt := 45) hx hb dX12_paysOf_20 (by decide) ?_
    rw [hQ]
    exact W.iret (v := (0 : Int32)) hx hb hr (fun t ht hW => ⟨(0 : Int32), rfl, trivial, ht⟩) (fun _ h => absurd h List.not_mem_nil) dX12_paysOf_45
  · skip
    have zz4 : ¬ xz1.toInt = (-1 : Int) := fun h9 => cz2 (zi_eq.mpr h9)
    refine lv_aload_n hx hb dX12_paysOf_10 rfl (lv_at hl 0 rfl) ?_
    refine va_get (D := (dC, dI)) (ci := 12) (v := .ref (qSm 0)) (C := RX12) (T := TX12) (N := 59) hx hb hts (fun w h => List.mem_cons_of_mem _ (List.mem_append_right _ (List.mem_append_left _ h))) hown hK hP 0 rfl rfl 37 (by decide) (hts (.fieldLink RX12 86 "SagMemoryModel" "sagMore" "[I") (wl_mem 1 rfl)) (fun _ h9 => h9) rfl dX12_paysOf_11 ?_
    refine lv_iload_n hx hb dX12_paysOf_14 rfl (lv_at hl 1 rfl) ?_
    refine va_iald hx hb hK hP 2 0 rfl rfl (vp_in_iff.mpr ⟨by omega, by omega⟩) dX12_paysOf_15 ?_
    refine lv_topi (fun xz5 exz5 => ?_)
    refine lv_if_ge (tgt := 23) hx hb dX12_paysOf_16 (by decide) (fun cz6 => ?_) (fun cz6 => ?_)
    · skip
      have bz7 := fb_rng xz5
      have zz8 : (0 : Int) ≤ xz5.toInt := zi_le.mp cz6
      refine lv_aload_n hx hb dX12_paysOf_23 rfl (lv_at hl 0 rfl) ?_
      refine va_get (D := (dC, dI)) (ci := 12) (v := .ref (qBr 0)) (C := RX12) (T := TX12) (N := 59) hx hb hts (fun w h => List.mem_cons_of_mem _ (List.mem_append_right _ (List.mem_append_left _ h))) hown hK hP 0 rfl rfl 18 (by decide) (hts (.fieldLink RX12 37 "SagMemoryModel" "bridge" "[I") (wl_mem 2 rfl)) (fun _ h9 => h9) rfl dX12_paysOf_24 ?_
      refine lv_iconst (v := 2) hx hb dX12_paysOf_27 (by decide) ?_
      refine lv_aload_n hx hb dX12_paysOf_28 rfl (lv_at hl 0 rfl) ?_
      refine va_get (D := (dC, dI)) (ci := 12) (v := .ref (qGb 0)) (C := RX12) (T := TX12) (N := 59) hx hb hts (fun w h => List.mem_cons_of_mem _ (List.mem_append_right _ (List.mem_append_left _ h))) hown hK hP 0 rfl rfl 35 (by decide) (hts (.fieldLink RX12 80 "SagMemoryModel" "goesBy" "[I") (wl_mem 0 rfl)) (fun _ h9 => h9) rfl dX12_paysOf_29 ?_
      refine lv_iload_n hx hb dX12_paysOf_32 rfl (lv_at hl 1 rfl) ?_
      refine va_iald hx hb hK hP 1 0 rfl rfl (vp_in_iff.mpr ⟨by omega, by omega⟩) dX12_paysOf_33 ?_
      refine lv_topi (fun xz9 exz9 => ?_)
      obtain rfl : xz1 = xz9 := (exz9.trans exz1.symm).symm
      refine lv_imul hx hb dX12_paysOf_34 ?_
      refine lv_topi (fun xz10 exz10 => ?_)
      have fxz10 : xz10.toInt = (2 : Int) * xz1.toInt := by rw [exz10]; exact fb_mulI (x := (2 : Int32)) (y := xz1) (by show -2147483648 ≤ (2 : Int) * xz1.toInt; omega) (by show (2 : Int) * xz1.toInt < 2147483648; omega)
      refine lv_iconst (v := 1) hx hb dX12_paysOf_35 (by decide) ?_
      refine lv_iadd hx hb dX12_paysOf_36 ?_
      refine lv_topi (fun xz11 exz11 => ?_)
      have fxz11 : xz11.toInt = xz10.toInt + (1 : Int) := by rw [exz11]; exact fb_addI (x := xz10) (y := (1 : Int32)) (by show -2147483648 ≤ xz10.toInt + (1 : Int); omega) (by show xz10.toInt + (1 : Int) < 2147483648; omega)
      refine va_iald hx hb hK hP 3 0 rfl rfl (vp_in_iff.mpr ⟨by omega, by omega⟩) dX12_paysOf_37 ?_
      refine lv_topi (fun xz12 exz12 => ?_)
      refine lv_aload_n hx hb dX12_paysOf_38 rfl (lv_at hl 0 rfl) ?_
      refine va_get (D := (dC, dI)) (ci := 12) (v := .ref (qSm 0)) (C := RX12) (T := TX12) (N := 59) hx hb hts (fun w h => List.mem_cons_of_mem _ (List.mem_append_right _ (List.mem_append_left _ h))) hown hK hP 0 rfl rfl 37 (by decide) (hts (.fieldLink RX12 86 "SagMemoryModel" "sagMore" "[I") (wl_mem 1 rfl)) (fun _ h9 => h9) rfl dX12_paysOf_39 ?_
      refine lv_iload_n hx hb dX12_paysOf_42 rfl (lv_at hl 1 rfl) ?_
      refine va_iald hx hb hK hP 2 0 rfl rfl (vp_in_iff.mpr ⟨by omega, by omega⟩) dX12_paysOf_43 ?_
      refine lv_topi (fun xz13 exz13 => ?_)
      obtain rfl : xz5 = xz13 := (exz13.trans exz5.symm).symm
      refine lv_imul hx hb dX12_paysOf_44 ?_
      refine lv_topi (fun xz14 exz14 => ?_)
      rw [hQ]
      exact W.iret (v := xz14) hx hb hr (fun t ht hW => ⟨xz14, rfl, trivial, ht⟩) (fun _ h => absurd h List.not_mem_nil) dX12_paysOf_45
    · skip
      have bz15 := fb_rng xz5
      have zz16 : ¬ (0 : Int) ≤ xz5.toInt := fun h9 => cz6 (zi_le.mpr h9)
      refine lv_iconst (v := 0) hx hb dX12_paysOf_19 (by decide) ?_
      refine lv_goto (tgt := 45) hx hb dX12_paysOf_20 (by decide) ?_
      rw [hQ]
      exact W.iret (v := (0 : Int32)) hx hb hr (fun t ht hW => ⟨(0 : Int32), rfl, trivial, ht⟩) (fun _ h => absurd h List.not_mem_nil) dX12_paysOf_45
def wk_c_X12_overOf : List Cond := .code yX12_overOf cX12_overOf 4 (some .int) :: ([.methodLink RX12 286 yX12_carts, .instanceMethod yX12_carts, .selects RX12 yX12_carts yX12_carts, .initialized RX12, .fieldLink RX12 80 "SagMemoryModel" "goesBy" "[I"] ++ (wk_c_X12_carts ++ (wsX120 ++ [])))
theorem wkg_c_X12_overOf : wk_c_X12_overOf.all goodWord = true := by decide +kernel
set_option maxHeartbeats 4000000 in
set_option maxRecDepth 100000 in
theorem c_X12_overOf (l : Launch) (dC : Nat → ClassId) (dI : Nat → Nat → Nat) (k : Nat → ClassId) (qO : Nat → Nat) (widthO : Nat) (manyO : Nat) (cellsO : Nat) (movedO : Nat) (tapeO : Nat) (linesO : Nat) (bridgeO : Nat) (cartO : Nat) (wardO : Nat) (frostAtO : Nat) (actO : Nat) (isKeptO : Nat) (loadNowO : Nat) (byNowO : Nat) (rowO : Nat) (memoryO : Nat) (whoseO : Nat) (deepNowO : Nat) (brokenByO : Nat) (brokenAtO : Nat) (comesToO : Nat) (sagMoreO : Nat) (creakOfO : Nat) (wipedByO : Nat) (deepAtO : Nat) (sagAtO : Nat) (loadAtO : Nat) (orderRowO : Nat) (oftenO : Nat) (lossOneO : Nat) (lossOtherO : Nat) (vO : Nat → Int32) (tO : Nat → Int32) (mO : Nat → Int32) (gO : Nat → Int64) (qHa : Nat → Nat) (hHa : Nat → Nat → Int32) (qGb : Nat → Nat) (yGb : Nat → Nat → Int32) (p1 : Int32) (htO : Rg 0 700 tO) (hmO : Rg (-1) 127 mO) (hhHa : Pa_h hHa) (hyGb : RgA (-1) 2 yGb) : Met l yX12_overOf wk_c_X12_overOf ({ frames := 1, cells := 0, slots := 0, locals := 20 }) (va_Pc [.ref (qO 0), .int p1] (fun U => va_P (dC, dI) vwCl (List.flatten [(wMO qO k widthO manyO cellsO movedO tapeO linesO (qHa 0) bridgeO cartO wardO frostAtO actO isKeptO loadNowO byNowO rowO memoryO whoseO deepNowO brokenByO brokenAtO (qGb 0) comesToO sagMoreO creakOfO wipedByO deepAtO sagAtO loadAtO orderRowO oftenO lossOneO lossOtherO vO tO mO gO), (wmHa qHa k hHa), (wmGb qGb k yGb)]) U.heap ∧ va_K (dC, dI) vwCl (tK k) U)) (vp_Si (fun r : Int32 => True)) 0 0 (fun _ => False) := by
  refine Met.ofW (cc := cX12_overOf) (maxL := 4) (ret := (some .int)) (by decide) rfl ?_
  intro p e s m args below meth c s₁ B hml hv
  obtain ⟨rfl, hP, hK⟩ := hv
  have hx := B.exec
  have hb := B.bytes
  have hr := B.returns
  have hts := atoms_spec (ws := wk_c_X12_overOf) B.pre
  have hown : s.vm.findClass RX12 = some m.cls := findClass_of_methodNamed B.named
  have hlocks := B.notSynchronized
  have hP : va_P (dC, dI) vwCl (List.flatten [(wMO qO k widthO manyO cellsO movedO tapeO linesO (qHa 0) bridgeO cartO wardO frostAtO actO isKeptO loadNowO byNowO rowO memoryO whoseO deepNowO brokenByO brokenAtO (qGb 0) comesToO sagMoreO creakOfO wipedByO deepAtO sagAtO loadAtO orderRowO oftenO lossOneO lossOtherO vO tO mO gO), (wmHa qHa k hHa), (wmGb qGb k yGb)]) s.heap := hP
  have hl := lv_entry ([.ref (qO 0), .int p1]) (n := 4) (Nat.le_of_ble_eq_true rfl)
  rw [lg_entry_eq]
  generalize (lg_sl ([.ref (qO 0), .int p1]) ++ List.replicate (4 - (lg_sl ([.ref (qO 0), .int p1])).length) Slot.unset).toArray = ls at hl ⊢
  have hl : lv_has ls 4 [(0, .ref (qO 0)), (1, .int p1)] := hl
  refine w_gen (fun Q hQ => ?_)
  refine lv_iconst (v := 0) hx hb dX12_overOf_0 (by decide) ?_
  refine lv_istore_n (lv' := [(2, .int 0), (0, .ref (qO 0)), (1, .int p1)]) hx hb dX12_overOf_1 rfl hl (by decide) rfl (fun ls hl => ?_)
  refine lv_iconst (v := 0) hx hb dX12_overOf_2 (by decide) ?_
  refine lv_istore_n (lv' := [(3, .int 0), (2, .int 0), (0, .ref (qO 0)), (1, .int p1)]) hx hb dX12_overOf_3 rfl hl (by decide) rfl (fun ls hl => ?_)
  have lp4_kz31 : ∀ (n9_4 : Nat) (ls : Array Slot) (xz29 : Int32) (xz30 : Int32), (2147483647 - xz30.toInt).toNat < n9_4 → 0 ≤ xz30.toInt → lv_has ls 4 [(0, .ref (qO 0)), (1, .int p1), (2, .int xz29), (3, .int xz30)] → W p l e (headSpec wk_c_X12_overOf ({ frames := 1, cells := 0, slots := 0, locals := 20 })).room s m ([.ref (qO 0), .int p1] : List Value).toArray below meth c s.heap [] 0 0 Q (F0 m 4 ls []) := by
    intro n9_4
    induction n9_4 with
    | zero => intro ls xz29 xz30 hm; exact absurd hm (Nat.not_lt_zero _)
    | succ n9_4 ih4 =>
      intro ls xz29 xz30 hm4 jz32 hl
      refine lv_iload_n hx hb dX12_overOf_4 rfl (lv_at hl 3 rfl) ?_
      refine lv_aload_n hx hb dX12_overOf_5 rfl (lv_at hl 0 rfl) ?_
      have hPc := hP.sub (ws' := (List.flatten [(wMO qO k widthO manyO cellsO movedO tapeO linesO (qHa 0) bridgeO cartO wardO frostAtO actO isKeptO loadNowO byNowO rowO memoryO whoseO deepNowO brokenByO brokenAtO (qGb 0) comesToO sagMoreO creakOfO wipedByO deepAtO sagAtO loadAtO orderRowO oftenO lossOneO lossOtherO vO tO mO gO), (wmHa qHa k hHa)])) [0, 1] rfl
      refine vp_callSi (va_Run.run (va_runV (As := []) (rest := [.int xz30]) ⟨hx, hb, hml, hown, hts⟩ (c_X12_carts l dC dI k qO widthO manyO cellsO movedO tapeO linesO bridgeO cartO wardO frostAtO actO isKeptO loadNowO byNowO rowO memoryO whoseO deepNowO brokenByO brokenAtO (qGb 0) comesToO sagMoreO creakOfO wipedByO deepAtO sagAtO loadAtO orderRowO oftenO lossOneO lossOtherO vO tO mO gO qHa hHa htO hmO hhHa) (cwV 0 hts (gk_V (wl_mem 0 rfl) (wl_mem 1 rfl) (wl_mem 2 rfl) (wl_mem 3 rfl) (fun w h => List.mem_cons_of_mem _ (List.mem_append_right _ (List.mem_append_left _ h))) wkg_c_X12_carts) rfl rfl rfl (by decide +kernel) ⟨Nat.le_of_ble_eq_true rfl, Nat.le_of_ble_eq_true rfl⟩) ⟨fun a U g mk q => by obtain ⟨q0, qP, qK⟩ := q; exact ⟨q0, qP, va_K.moved (u := U) (U := U.calling g mk a) (Vm.Alike.refl U.vm) qK⟩, va_recv hK hPc (ci := 12) (q0 := 0) rfl rfl, fun U hU hW => ⟨rfl, by rw [hU]; exact hPc, va_K.moved hW.alike hK⟩⟩ rfl rfl hl.1 rfl (lv_room (Nat.le_of_ble_eq_true rfl)) dX12_overOf_6 ⟨Nat.le_of_ble_eq_true rfl, Nat.le_of_ble_eq_true rfl⟩)) (fun rz34 gz33 => ?_)
      clear hPc
      obtain ⟨pz35, pz36⟩ := gz33
      have pz35 : 0 ≤ rz34.toInt ∧ rz34.toInt ≤ 7 := pz35
      have pz36 : rz34.toInt = ((hHa 0) 4).toInt := pz36
      refine lv_icmp_ge (tgt := 38) hx hb dX12_overOf_9 (by decide) (fun cz37 => ?_) (fun cz37 => ?_)
      · skip
        have bz38 := fb_rng xz30
        have zz39 : rz34.toInt ≤ xz30.toInt := zi_le.mp cz37
        refine lv_iload_n hx hb dX12_overOf_38 rfl (lv_at hl 2 rfl) ?_
        rw [hQ]
        exact W.iret (v := xz29) hx hb hr (fun t ht hW => ⟨xz29, rfl, trivial, ht⟩) (fun _ h => absurd h List.not_mem_nil) dX12_overOf_39
      · skip
        have bz40 := fb_rng xz30
        have zz41 : ¬ rz34.toInt ≤ xz30.toInt := fun h9 => cz37 (zi_le.mpr h9)
        refine lv_iload_n hx hb dX12_overOf_12 rfl (lv_at hl 2 rfl) ?_
        refine lv_aload_n hx hb dX12_overOf_13 rfl (lv_at hl 0 rfl) ?_
        refine va_get (D := (dC, dI)) (ci := 12) (v := .ref (qGb 0)) (C := RX12) (T := TX12) (N := 59) hx hb hts (fun w h => List.mem_cons_of_mem _ (List.mem_append_right _ (List.mem_append_right _ (List.mem_append_left _ h)))) hown hK hP 0 rfl rfl 35 (by decide) (hts (.fieldLink RX12 80 "SagMemoryModel" "goesBy" "[I") (wl_mem 4 rfl)) (fun _ h9 => h9) rfl dX12_overOf_14 ?_
        refine lv_iload_n hx hb dX12_overOf_17 rfl (lv_at hl 3 rfl) ?_
        refine va_iald hx hb hK hP 2 0 rfl rfl (vp_in_iff.mpr ⟨by omega, by omega⟩) dX12_overOf_18 ?_
        refine lv_topi (fun xz42 exz42 => ?_)
        have bxz42 : (-1) ≤ xz42.toInt ∧ xz42.toInt ≤ 2 := by rw [exz42]; exact (hyGb 0) _
        refine lv_iload_n hx hb dX12_overOf_19 rfl (lv_at hl 1 rfl) ?_
        refine lv_icmp_ne (tgt := 29) hx hb dX12_overOf_20 (by decide) (fun cz51 => ?_) (fun cz51 => ?_)
        · skip
          have zz52 : ¬ xz42.toInt = p1.toInt := fun h9 => cz51 (zi_eq.mpr h9)
          refine lv_iconst (v := 0) hx hb dX12_overOf_29 (by decide) ?_
          refine lv_ior hx hb dX12_overOf_30 ?_
          refine lv_topi (fun xz53 exz53 => ?_)
          refine lv_istore_n (lv' := [(2, .int xz53), (0, .ref (qO 0)), (1, .int p1), (3, .int xz30)]) hx hb dX12_overOf_31 rfl hl (by decide) rfl (fun ls hl => ?_)
          obtain ⟨xz54, exz54⟩ : ∃ y : Int32, y = xz30 + Int32.ofInt (1) := ⟨_, rfl⟩
          have fxz54 : xz54.toInt = xz30.toInt + (1) := by rw [exz54]; exact fb_addI (y := Int32.ofInt (1)) (by show -2147483648 ≤ xz30.toInt + (1); omega) (by show xz30.toInt + (1) < 2147483648; omega)
          refine lv_iinc (v := xz54) (lv' := [(3, .int xz54), (2, .int xz53), (0, .ref (qO 0)), (1, .int p1)]) hx hb dX12_overOf_32 hl (k := 3) rfl exz54.symm (by decide) rfl (fun ls hl => ?_)
          refine lv_goto (tgt := 4) hx hb dX12_overOf_35 (by decide) ?_
          exact ih4 ls xz53 xz54 (by show (2147483647 - xz54.toInt).toNat < n9_4; omega) (by show 0 ≤ xz54.toInt; omega) (lv_sub hl [2, 3, 1, 0] rfl)
        · skip
          have zz55 : xz42.toInt = p1.toInt := zi_eq.mp cz51
          refine lv_iconst (v := 1) hx hb dX12_overOf_23 (by decide) ?_
          refine lv_iload_n hx hb dX12_overOf_24 rfl (lv_at hl 3 rfl) ?_
          refine lv_ishl hx hb dX12_overOf_25 ?_
          refine lv_topi (fun xz56 exz56 => ?_)
          have bxz56 : 1 ≤ xz56.toInt ∧ xz56.toInt ≤ 128 := by rw [exz56]; exact zshl7 (by show 0 ≤ xz30.toInt; omega) (by show xz30.toInt ≤ 7; omega)
          refine lv_goto (tgt := 30) hx hb dX12_overOf_26 (by decide) ?_
          refine lv_ior hx hb dX12_overOf_30 ?_
          refine lv_topi (fun xz57 exz57 => ?_)
          refine lv_istore_n (lv' := [(2, .int xz57), (0, .ref (qO 0)), (1, .int p1), (3, .int xz30)]) hx hb dX12_overOf_31 rfl hl (by decide) rfl (fun ls hl => ?_)
          obtain ⟨xz58, exz58⟩ : ∃ y : Int32, y = xz30 + Int32.ofInt (1) := ⟨_, rfl⟩
          have fxz58 : xz58.toInt = xz30.toInt + (1) := by rw [exz58]; exact fb_addI (y := Int32.ofInt (1)) (by show -2147483648 ≤ xz30.toInt + (1); omega) (by show xz30.toInt + (1) < 2147483648; omega)
          refine lv_iinc (v := xz58) (lv' := [(3, .int xz58), (2, .int xz57), (0, .ref (qO 0)), (1, .int p1)]) hx hb dX12_overOf_32 hl (k := 3) rfl exz58.symm (by decide) rfl (fun ls hl => ?_)
          refine lv_goto (tgt := 4) hx hb dX12_overOf_35 (by decide) ?_
          exact ih4 ls xz57 xz58 (by show (2147483647 - xz58.toInt).toNat < n9_4; omega) (by show 0 ≤ xz58.toInt; omega) (lv_sub hl [2, 3, 1, 0] rfl)
  exact lp4_kz31 _ ls (0 : Int32) (0 : Int32) (Nat.lt_succ_self _) (by show 0 ≤ (0 : Int); omega) (lv_sub hl [2, 3, 1, 0] rfl)
def wk_c_X12_sagWith : List Cond := .code yX12_sagWith cX12_sagWith 5 (some .int) :: ([.fieldLink RX12 71 "SagMemoryModel" "deepNow" "[I", .fieldLink RX12 95 "SagMemoryModel" "deepAt" "[I", .fieldLink RX12 65 "SagMemoryModel" "memory" "[I", .fieldLink RX12 101 "SagMemoryModel" "loadAt" "[I", .methodLink RX12 320 yX12_crosses, .instanceMethod yX12_crosses, .selects RX12 yX12_crosses yX12_crosses, .initialized RX12, .methodLink RX12 317 yX12_sagOf, .instanceMethod yX12_sagOf, .selects RX12 yX12_sagOf yX12_sagOf] ++ (wsX120 ++ (wk_c_X12_crosses ++ (wk_c_X12_sagOf ++ []))))
theorem wkg_c_X12_sagWith : wk_c_X12_sagWith.all goodWord = true := by decide +kernel
set_option maxHeartbeats 4000000 in
set_option maxRecDepth 100000 in
theorem c_X12_sagWith (l : Launch) (dC : Nat → ClassId) (dI : Nat → Nat → Nat) (k : Nat → ClassId) (sz : Nat) (qO : Nat → Nat) (widthO : Nat) (manyO : Nat) (cellsO : Nat) (movedO : Nat) (tapeO : Nat) (linesO : Nat) (hasO : Nat) (bridgeO : Nat) (cartO : Nat) (wardO : Nat) (frostAtO : Nat) (actO : Nat) (isKeptO : Nat) (loadNowO : Nat) (byNowO : Nat) (rowO : Nat) (brokenByO : Nat) (brokenAtO : Nat) (goesByO : Nat) (comesToO : Nat) (sagMoreO : Nat) (creakOfO : Nat) (wipedByO : Nat) (sagAtO : Nat) (orderRowO : Nat) (oftenO : Nat) (lossOneO : Nat) (lossOtherO : Nat) (vO : Nat → Int32) (tO : Nat → Int32) (mO : Nat → Int32) (gO : Nat → Int64) (qDn : Nat → Nat) (uDn : Nat → Nat → Int32) (qMe : Nat → Nat) (aMe : Nat → Nat → Int32) (qWh : Nat → Nat) (aWh : Nat → Nat → Int32) (qDa : Nat → Nat) (oDa : Nat → Nat → Int32) (qLa : Nat → Nat) (aLa : Nat → Nat → Int32) (p1 : Int32) (p2 : Int32) (p3 : Int32) (htO : Rg 0 700 tO) (hmO : Rg (-1) 127 mO) (huDn : RuA 8 uDn) (hoDa : RgA 0 7 oDa) (hp0 : 0 ≤ p1.toInt ∧ p1.toInt ≤ 2) (hp1 : 0 ≤ p2.toInt ∧ p2.toInt ≤ 6) : Met l yX12_sagWith wk_c_X12_sagWith ({ frames := 2, cells := 0, slots := 0, locals := 47 }) (va_Pc [.ref (qO 0), .int p1, .int p2, .int p3] (fun U => U.heap.size = sz ∧ va_P (dC, dI) vwCl (List.flatten [(wmDn qDn k uDn), (wmMe qMe k aMe), (wmWh qWh k aWh)] ++ List.flatten [(wMO qO k widthO manyO cellsO movedO tapeO linesO hasO bridgeO cartO wardO frostAtO actO isKeptO loadNowO byNowO rowO (qMe 0) (qWh 0) (qDn 0) brokenByO brokenAtO goesByO comesToO sagMoreO creakOfO wipedByO (qDa 0) sagAtO (qLa 0) orderRowO oftenO lossOneO lossOtherO vO tO mO gO), (wmDa qDa k oDa), (wmLa qLa k aLa)]) U.heap ∧ va_K (dC, dI) vwCl (tK k) U ∧ va_D (fun _ => True) (List.flatten [(wmDn qDn k uDn), (wmMe qMe k aMe), (wmWh qWh k aWh)] ++ List.flatten [(wMO qO k widthO manyO cellsO movedO tapeO linesO hasO bridgeO cartO wardO frostAtO actO isKeptO loadNowO byNowO rowO (qMe 0) (qWh 0) (qDn 0) brokenByO brokenAtO goesByO comesToO sagMoreO creakOfO wipedByO (qDa 0) sagAtO (qLa 0) orderRowO oftenO lossOneO lossOtherO vO tO mO gO), (wmDa qDa k oDa), (wmLa qLa k aLa)]))) (va_Qi (fun (r : Int32) (_ : Unit) => True) (fun (_ : Unit) (t : State) => ∃ (uDn' : Nat → Nat → Int32) (aMe' : Nat → Nat → Int32) (aWh' : Nat → Nat → Int32), RuA 8 uDn' ∧ va_P (dC, dI) vwCl (List.flatten [(wmDn qDn k uDn'), (wmMe qMe k aMe'), (wmWh qWh k aWh')] ++ List.flatten [(wMO qO k widthO manyO cellsO movedO tapeO linesO hasO bridgeO cartO wardO frostAtO actO isKeptO loadNowO byNowO rowO (qMe 0) (qWh 0) (qDn 0) brokenByO brokenAtO goesByO comesToO sagMoreO creakOfO wipedByO (qDa 0) sagAtO (qLa 0) orderRowO oftenO lossOneO lossOtherO vO tO mO gO), (wmDa qDa k oDa), (wmLa qLa k aLa)]) t.heap) (va_A (List.flatten [(wmDn qDn k uDn), (wmMe qMe k aMe), (wmWh qWh k aWh)] ++ List.flatten [(wMO qO k widthO manyO cellsO movedO tapeO linesO hasO bridgeO cartO wardO frostAtO actO isKeptO loadNowO byNowO rowO (qMe 0) (qWh 0) (qDn 0) brokenByO brokenAtO goesByO comesToO sagMoreO creakOfO wipedByO (qDa 0) sagAtO (qLa 0) orderRowO oftenO lossOneO lossOtherO vO tO mO gO), (wmDa qDa k oDa), (wmLa qLa k aLa)]) sz)) 0 0 (va_A (List.flatten [(wmDn qDn k uDn), (wmMe qMe k aMe), (wmWh qWh k aWh)] ++ List.flatten [(wMO qO k widthO manyO cellsO movedO tapeO linesO hasO bridgeO cartO wardO frostAtO actO isKeptO loadNowO byNowO rowO (qMe 0) (qWh 0) (qDn 0) brokenByO brokenAtO goesByO comesToO sagMoreO creakOfO wipedByO (qDa 0) sagAtO (qLa 0) orderRowO oftenO lossOneO lossOtherO vO tO mO gO), (wmDa qDa k oDa), (wmLa qLa k aLa)]) sz) := by
  refine Met.ofW (cc := cX12_sagWith) (maxL := 5) (ret := (some .int)) (by decide) rfl ?_
  intro p e s m args below meth c s₁ B hml hv
  obtain ⟨rfl, hsz, hP, hK, hD0⟩ := hv
  have hx := B.exec
  have hb := B.bytes
  have hr := B.returns
  have hts := atoms_spec (ws := wk_c_X12_sagWith) B.pre
  have hown : s.vm.findClass RX12 = some m.cls := findClass_of_methodNamed B.named
  have hlocks := B.notSynchronized
  subst hsz
  have hD := hD0.self (sz := s.heap.size)
  generalize hAe : va_A (List.flatten [(wmDn qDn k uDn), (wmMe qMe k aMe), (wmWh qWh k aWh)] ++ List.flatten [(wMO qO k widthO manyO cellsO movedO tapeO linesO hasO bridgeO cartO wardO frostAtO actO isKeptO loadNowO byNowO rowO (qMe 0) (qWh 0) (qDn 0) brokenByO brokenAtO goesByO comesToO sagMoreO creakOfO wipedByO (qDa 0) sagAtO (qLa 0) orderRowO oftenO lossOneO lossOtherO vO tO mO gO), (wmDa qDa k oDa), (wmLa qLa k aLa)]) s.heap.size = A at hD ⊢
  have hA : ∀ q : Nat, s.heap.size ≤ q → A q := fun q h => by rw [← hAe]; exact Or.inr h
  have hS : va_S A s.heap s.heap [] := va_S.rf
  have hP : va_P (dC, dI) vwCl (List.flatten [(wmDn qDn k uDn), (wmMe qMe k aMe), (wmWh qWh k aWh)] ++ List.flatten [(wMO qO k widthO manyO cellsO movedO tapeO linesO hasO bridgeO cartO wardO frostAtO actO isKeptO loadNowO byNowO rowO (qMe 0) (qWh 0) (qDn 0) brokenByO brokenAtO goesByO comesToO sagMoreO creakOfO wipedByO (qDa 0) sagAtO (qLa 0) orderRowO oftenO lossOneO lossOtherO vO tO mO gO), (wmDa qDa k oDa), (wmLa qLa k aLa)]) s.heap := hP
  have hl := lv_entry ([.ref (qO 0), .int p1, .int p2, .int p3]) (n := 5) (Nat.le_of_ble_eq_true rfl)
  rw [lg_entry_eq]
  generalize (lg_sl ([.ref (qO 0), .int p1, .int p2, .int p3]) ++ List.replicate (5 - (lg_sl ([.ref (qO 0), .int p1, .int p2, .int p3])).length) Slot.unset).toArray = ls at hl ⊢
  have hl : lv_has ls 5 [(0, .ref (qO 0)), (1, .int p1), (2, .int p2), (3, .int p3)] := hl
  refine w_gen (fun Q hQ => ?_)
  refine lv_aload_n hx hb dX12_sagWith_0 rfl (lv_at hl 0 rfl) ?_
  refine va_get (D := (dC, dI)) (ci := 12) (v := .ref (qDn 0)) (C := RX12) (T := TX12) (N := 59) hx hb hts (fun w h => List.mem_cons_of_mem _ (List.mem_append_right _ (List.mem_append_left _ h))) hown hK hP 3 rfl rfl 32 (by decide) (hts (.fieldLink RX12 71 "SagMemoryModel" "deepNow" "[I") (wl_mem 0 rfl)) (fun _ h9 => h9) rfl dX12_sagWith_1 ?_
  refine lv_iload_n hx hb dX12_sagWith_4 rfl (lv_at hl 1 rfl) ?_
  refine lv_aload_n hx hb dX12_sagWith_5 rfl (lv_at hl 0 rfl) ?_
  refine va_get (D := (dC, dI)) (ci := 12) (v := .ref (qDa 0)) (C := RX12) (T := TX12) (N := 59) hx hb hts (fun w h => List.mem_cons_of_mem _ (List.mem_append_right _ (List.mem_append_left _ h))) hown hK hP 3 rfl rfl 40 (by decide) (hts (.fieldLink RX12 95 "SagMemoryModel" "deepAt" "[I") (wl_mem 1 rfl)) (fun _ h9 => h9) rfl dX12_sagWith_6 ?_
  refine lv_iconst (v := 3) hx hb dX12_sagWith_9 (by decide) ?_
  refine lv_iload_n hx hb dX12_sagWith_10 rfl (lv_at hl 2 rfl) ?_
  refine lv_imul hx hb dX12_sagWith_11 ?_
  refine lv_topi (fun xz1 exz1 => ?_)
  have fxz1 : xz1.toInt = (3 : Int) * p2.toInt := by rw [exz1]; exact fb_mulI (x := (3 : Int32)) (y := p2) (by show -2147483648 ≤ (3 : Int) * p2.toInt; omega) (by show (3 : Int) * p2.toInt < 2147483648; omega)
  refine lv_iload_n hx hb dX12_sagWith_12 rfl (lv_at hl 1 rfl) ?_
  refine lv_iadd hx hb dX12_sagWith_13 ?_
  refine lv_topi (fun xz2 exz2 => ?_)
  have fxz2 : xz2.toInt = xz1.toInt + p1.toInt := by rw [exz2]; exact fb_addI (x := xz1) (y := p1) (by show -2147483648 ≤ xz1.toInt + p1.toInt; omega) (by show xz1.toInt + p1.toInt < 2147483648; omega)
  refine va_iald hx hb hK hP 4 0 rfl rfl (vp_in_iff.mpr ⟨by omega, by omega⟩) dX12_sagWith_14 ?_
  refine lv_topi (fun xz3 exz3 => ?_)
  have bxz3 : 0 ≤ xz3.toInt ∧ xz3.toInt ≤ 7 := by rw [exz3]; exact (hoDa 0) _
  refine va_iast hx hb hK hP hD hS 0 0 rfl rfl (vp_in_iff.mpr ⟨by omega, by omega⟩) dX12_sagWith_15 (fun H locs hP hD hS => ?_)
  obtain ⟨fz4, efz4, hP, hD⟩ : ∃ fz4 : Nat → Int32, fz4 = upd (uDn 0) p1.toNatClampNeg xz3 ∧ va_P (dC, dI) vwCl (List.flatten [(wmDn qDn k (va_up uDn 0 fz4)), (wmMe qMe k aMe), (wmWh qWh k aWh)] ++ List.flatten [(wMO qO k widthO manyO cellsO movedO tapeO linesO hasO bridgeO cartO wardO frostAtO actO isKeptO loadNowO byNowO rowO (qMe 0) (qWh 0) (qDn 0) brokenByO brokenAtO goesByO comesToO sagMoreO creakOfO wipedByO (qDa 0) sagAtO (qLa 0) orderRowO oftenO lossOneO lossOtherO vO tO mO gO), (wmDa qDa k oDa), (wmLa qLa k aLa)]) H ∧ va_D A (List.flatten [(wmDn qDn k (va_up uDn 0 fz4)), (wmMe qMe k aMe), (wmWh qWh k aWh)] ++ List.flatten [(wMO qO k widthO manyO cellsO movedO tapeO linesO hasO bridgeO cartO wardO frostAtO actO isKeptO loadNowO byNowO rowO (qMe 0) (qWh 0) (qDn 0) brokenByO brokenAtO goesByO comesToO sagMoreO creakOfO wipedByO (qDa 0) sagAtO (qLa 0) orderRowO oftenO lossOneO lossOtherO vO tO mO gO), (wmDa qDa k oDa), (wmLa qLa k aLa)]) := ⟨_, rfl, hP, hD⟩
  have hfz4 : Ru 8 fz4 := by rw [efz4]; exact ru_upd huDn (by show 0 ≤ xz3.toInt ∧ xz3.toInt ≤ 8; omega)
  have kfz4 : fz4 p1.toNatClampNeg = xz3 := by rw [efz4]; exact pk_us
  have mfz4 : (fz4 p1.toNatClampNeg).toInt = xz3.toInt := congrArg Int32.toInt kfz4
  refine lv_iconst (v := 0) hx hb dX12_sagWith_16 (by decide) ?_
  refine lv_istore (lv' := [(4, .int 0), (0, .ref (qO 0)), (1, .int p1), (2, .int p2), (3, .int p3)]) hx hb dX12_sagWith_17 hl (by decide) rfl (fun ls hl => ?_)
  have lp19_kz26 : ∀ (n9_19 : Nat) (H : Heap) (locs : List Loc) (ls : Array Slot) (az24 : Nat → Nat → Int32) (xz25 : Int32), (2147483647 - xz25.toInt).toNat < n9_19 → 0 ≤ xz25.toInt → va_P (dC, dI) vwCl (List.flatten [(wmDn qDn k (va_up uDn 0 fz4)), (wmMe qMe k az24), (wmWh qWh k aWh)] ++ List.flatten [(wMO qO k widthO manyO cellsO movedO tapeO linesO hasO bridgeO cartO wardO frostAtO actO isKeptO loadNowO byNowO rowO (qMe 0) (qWh 0) (qDn 0) brokenByO brokenAtO goesByO comesToO sagMoreO creakOfO wipedByO (qDa 0) sagAtO (qLa 0) orderRowO oftenO lossOneO lossOtherO vO tO mO gO), (wmDa qDa k oDa), (wmLa qLa k aLa)]) H → va_D A (List.flatten [(wmDn qDn k (va_up uDn 0 fz4)), (wmMe qMe k az24), (wmWh qWh k aWh)] ++ List.flatten [(wMO qO k widthO manyO cellsO movedO tapeO linesO hasO bridgeO cartO wardO frostAtO actO isKeptO loadNowO byNowO rowO (qMe 0) (qWh 0) (qDn 0) brokenByO brokenAtO goesByO comesToO sagMoreO creakOfO wipedByO (qDa 0) sagAtO (qLa 0) orderRowO oftenO lossOneO lossOtherO vO tO mO gO), (wmDa qDa k oDa), (wmLa qLa k aLa)]) → va_S A s.heap H locs → lv_has ls 5 [(0, .ref (qO 0)), (1, .int p1), (2, .int p2), (3, .int p3), (4, .int xz25)] → W p l e (headSpec wk_c_X12_sagWith ({ frames := 2, cells := 0, slots := 0, locals := 47 })).room s m ([.ref (qO 0), .int p1, .int p2, .int p3] : List Value).toArray below meth c H locs 0 0 Q (F0 m 19 ls []) := by
    intro n9_19
    induction n9_19 with
    | zero => intro H locs ls az24 xz25 hm; exact absurd hm (Nat.not_lt_zero _)
    | succ n9_19 ih19 =>
      intro H locs ls az24 xz25 hm19 jz27 hP hD hS hl
      refine lv_iload hx hb dX12_sagWith_19 (lv_at hl 4 rfl) ?_
      refine lv_aload_n hx hb dX12_sagWith_21 rfl (lv_at hl 0 rfl) ?_
      refine va_get (D := (dC, dI)) (ci := 12) (v := .ref (qDn 0)) (C := RX12) (T := TX12) (N := 59) hx hb hts (fun w h => List.mem_cons_of_mem _ (List.mem_append_right _ (List.mem_append_left _ h))) hown hK hP 3 rfl rfl 32 (by decide) (hts (.fieldLink RX12 71 "SagMemoryModel" "deepNow" "[I") (wl_mem 0 rfl)) (fun _ h9 => h9) rfl dX12_sagWith_22 ?_
      refine lv_iload_n hx hb dX12_sagWith_25 rfl (lv_at hl 1 rfl) ?_
      refine va_iald hx hb hK hP 0 0 rfl rfl (vp_in_iff.mpr ⟨by omega, by omega⟩) dX12_sagWith_26 ?_
      refine lv_topi (fun xz28 exz28 => ?_)
      obtain rfl : xz3 = xz28 := (exz28.trans kfz4).symm
      refine lv_icmp_ge (tgt := 64) hx hb dX12_sagWith_27 (by decide) (fun cz29 => ?_) (fun cz29 => ?_)
      · skip
        have bz30 := fb_rng xz25
        have zz31 : xz3.toInt ≤ xz25.toInt := zi_le.mp cz29
        refine lv_aload_n hx hb dX12_sagWith_64 rfl (lv_at hl 0 rfl) ?_
        refine lv_iload_n hx hb dX12_sagWith_65 rfl (lv_at hl 1 rfl) ?_
        refine lv_iload_n hx hb dX12_sagWith_66 rfl (lv_at hl 3 rfl) ?_
        refine lv_iconst (v := 0) hx hb dX12_sagWith_67 (by decide) ?_
        have hPc := hP.sub (ws' := (List.flatten [(wmDn qDn k (va_up uDn 0 fz4)), (wmMe qMe k az24), (wmWh qWh k aWh)] ++ List.flatten [(wMO qO k widthO manyO cellsO movedO tapeO linesO hasO bridgeO cartO wardO frostAtO actO isKeptO loadNowO byNowO rowO (qMe 0) (qWh 0) (qDn 0) brokenByO brokenAtO goesByO comesToO sagMoreO creakOfO wipedByO (qDa 0) sagAtO (qLa 0) orderRowO oftenO lossOneO lossOtherO vO tO mO gO)])) [0, 1, 2, 3] rfl
        have hC : [0, 1, 2, 3].map (fun i => (List.flatten [(wmDn qDn k (va_up uDn 0 fz4)), (wmMe qMe k az24), (wmWh qWh k aWh)] ++ List.flatten [(wMO qO k widthO manyO cellsO movedO tapeO linesO hasO bridgeO cartO wardO frostAtO actO isKeptO loadNowO byNowO rowO (qMe 0) (qWh 0) (qDn 0) brokenByO brokenAtO goesByO comesToO sagMoreO creakOfO wipedByO (qDa 0) sagAtO (qLa 0) orderRowO oftenO lossOneO lossOtherO vO tO mO gO), (wmDa qDa k oDa), (wmLa qLa k aLa)])[i]?) = (List.flatten [(wmDn qDn k (va_up uDn 0 fz4)), (wmMe qMe k az24), (wmWh qWh k aWh)] ++ List.flatten [(wMO qO k widthO manyO cellsO movedO tapeO linesO hasO bridgeO cartO wardO frostAtO actO isKeptO loadNowO byNowO rowO (qMe 0) (qWh 0) (qDn 0) brokenByO brokenAtO goesByO comesToO sagMoreO creakOfO wipedByO (qDa 0) sagAtO (qLa 0) orderRowO oftenO lossOneO lossOtherO vO tO mO gO)]).map some := rfl
        have hDc := hD.sub [0, 1, 2, 3] (by decide) hC
        have hFc := va_free hD hS hA [0, 1, 2, 3] hC
        refine va_calli (va_runV (As := [.int p1, .int p3, .int 0]) (rest := []) ⟨hx, hb, hml, hown, hts⟩ (c_X12_crosses l dC dI k H.size qO widthO manyO cellsO movedO tapeO linesO hasO bridgeO cartO wardO frostAtO actO isKeptO loadNowO byNowO rowO brokenByO brokenAtO goesByO comesToO sagMoreO creakOfO wipedByO (qDa 0) sagAtO (qLa 0) orderRowO oftenO lossOneO lossOtherO vO tO mO gO qDn (va_up uDn 0 fz4) qMe az24 qWh aWh p1 p3 (0 : Int32) 8 htO hmO (ruA_up hfz4) (by show 0 ≤ p1.toInt ∧ p1.toInt ≤ 2; omega) (by show 8 ≤ 8; omega) (by show (fz4 p1.toNatClampNeg).toInt < 8; omega)) (cwV 3 hts (gk_V (wl_mem 4 rfl) (wl_mem 5 rfl) (wl_mem 6 rfl) (wl_mem 7 rfl) (fun w h => List.mem_cons_of_mem _ (List.mem_append_right _ (List.mem_append_right _ (List.mem_append_left _ h)))) wkg_c_X12_crosses) rfl rfl rfl (by decide +kernel) ⟨Nat.le_of_ble_eq_true rfl, Nat.le_of_ble_eq_true rfl⟩) ⟨fun a U g mk q => by obtain ⟨q0, q1, qP, qK, qD⟩ := q; exact ⟨q0, q1, qP, va_K.moved (u := U) (U := U.calling g mk a) (Vm.Alike.refl U.vm) qK, qD⟩, va_recv hK hPc (ci := 12) (q0 := 3) rfl rfl, fun U hU hW => ⟨rfl, by rw [hU], by rw [hU]; exact hPc, va_K.moved hW.alike hK, hDc.weaken (fun _ _ _ _ => trivial)⟩⟩ rfl rfl hl.1 rfl (lv_room (Nat.le_of_ble_eq_true rfl)) dX12_sagWith_68 ⟨Nat.le_of_ble_eq_true rfl, Nat.le_of_ble_eq_true rfl⟩) hS (fun q _ h => hFc q h) hFc (fun rz33 u t H1 locs ht hvm gz32 hB hz1 hk1 hS => ?_)
        obtain ⟨uz34, az35, az36, huz34, hP1⟩ := hB
        rw [ht] at hP1
        obtain ⟨hP, hD⟩ := w_callR hP hD hk1 hP1 [0, 1, 2] rfl rfl (wk_memC [3] rfl) rfl [some 0, some 1, some 2] rfl rfl
        clear hPc hC hDc hFc hk1 hP1
        generalize H1 = H at hP hS ⊢
        have hP : va_P (dC, dI) vwCl (List.flatten [(wmDn qDn k uz34), (wmMe qMe k az35), (wmWh qWh k az36)] ++ List.flatten [(wMO qO k widthO manyO cellsO movedO tapeO linesO hasO bridgeO cartO wardO frostAtO actO isKeptO loadNowO byNowO rowO (qMe 0) (qWh 0) (qDn 0) brokenByO brokenAtO goesByO comesToO sagMoreO creakOfO wipedByO (qDa 0) sagAtO (qLa 0) orderRowO oftenO lossOneO lossOtherO vO tO mO gO), (wmDa qDa k oDa), (wmLa qLa k aLa)]) H := hP
        have hD : va_D A (List.flatten [(wmDn qDn k uz34), (wmMe qMe k az35), (wmWh qWh k az36)] ++ List.flatten [(wMO qO k widthO manyO cellsO movedO tapeO linesO hasO bridgeO cartO wardO frostAtO actO isKeptO loadNowO byNowO rowO (qMe 0) (qWh 0) (qDn 0) brokenByO brokenAtO goesByO comesToO sagMoreO creakOfO wipedByO (qDa 0) sagAtO (qLa 0) orderRowO oftenO lossOneO lossOtherO vO tO mO gO), (wmDa qDa k oDa), (wmLa qLa k aLa)]) := hD
        refine W.widen (k := 0) (n := 0) (Nat.le_refl 0) (Nat.le_refl 0) ?_
        refine lv_pop hx hb dX12_sagWith_71 rfl ?_
        refine lv_aload_n hx hb dX12_sagWith_72 rfl (lv_at hl 0 rfl) ?_
        refine lv_iload_n hx hb dX12_sagWith_73 rfl (lv_at hl 1 rfl) ?_
        have hPc := hP.sub (ws' := (List.flatten [(wMO qO k widthO manyO cellsO movedO tapeO linesO hasO bridgeO cartO wardO frostAtO actO isKeptO loadNowO byNowO rowO (qMe 0) (qWh 0) (qDn 0) brokenByO brokenAtO goesByO comesToO sagMoreO creakOfO wipedByO (qDa 0) sagAtO (qLa 0) orderRowO oftenO lossOneO lossOtherO vO tO mO gO), (wmDn qDn k uz34), (wmMe qMe k az35)])) [3, 0, 1] rfl
        refine vp_callSi (va_Run.run (va_runV (As := [.int p1]) (rest := []) ⟨hx, hb, hml, hown, hts⟩ (c_X12_sagOf l dC dI k qO widthO manyO cellsO movedO tapeO linesO hasO bridgeO cartO wardO frostAtO actO isKeptO loadNowO byNowO rowO (qWh 0) brokenByO brokenAtO goesByO comesToO sagMoreO creakOfO wipedByO (qDa 0) sagAtO (qLa 0) orderRowO oftenO lossOneO lossOtherO vO tO mO gO qDn uz34 qMe az35 p1 htO hmO huz34 (by show 0 ≤ p1.toInt ∧ p1.toInt ≤ 2; omega)) (cwV 1 hts (gk_V (wl_mem 8 rfl) (wl_mem 9 rfl) (wl_mem 10 rfl) (wl_mem 7 rfl) (fun w h => List.mem_cons_of_mem _ (List.mem_append_right _ (List.mem_append_right _ (List.mem_append_right _ (List.mem_append_left _ h))))) wkg_c_X12_sagOf) rfl rfl rfl (by decide +kernel) ⟨Nat.le_of_ble_eq_true rfl, Nat.le_of_ble_eq_true rfl⟩) ⟨fun a U g mk q => by obtain ⟨q0, qP, qK⟩ := q; exact ⟨q0, qP, va_K.moved (u := U) (U := U.calling g mk a) (Vm.Alike.refl U.vm) qK⟩, va_recv hK hPc (ci := 12) (q0 := 0) rfl rfl, fun U hU hW => ⟨rfl, by rw [hU]; exact hPc, va_K.moved hW.alike hK⟩⟩ rfl rfl hl.1 rfl (lv_room (Nat.le_of_ble_eq_true rfl)) dX12_sagWith_74 ⟨Nat.le_of_ble_eq_true rfl, Nat.le_of_ble_eq_true rfl⟩)) (fun rz38 gz37 => ?_)
        clear hPc
        rw [hQ]
        exact W.iret (v := rz38) hx hb hr (fun t ht hW => ⟨⟨rz38, (), rfl, trivial, uz34, az35, az36, huz34, by rw [ht]; exact hP⟩, hS.F ht⟩) hS.2.2 dX12_sagWith_77
      · skip
        have bz39 := fb_rng xz25
        have zz40 : ¬ xz3.toInt ≤ xz25.toInt := fun h9 => cz29 (zi_le.mpr h9)
        refine lv_aload_n hx hb dX12_sagWith_30 rfl (lv_at hl 0 rfl) ?_
        refine va_get (D := (dC, dI)) (ci := 12) (v := .ref (qMe 0)) (C := RX12) (T := TX12) (N := 59) hx hb hts (fun w h => List.mem_cons_of_mem _ (List.mem_append_right _ (List.mem_append_left _ h))) hown hK hP 3 rfl rfl 30 (by decide) (hts (.fieldLink RX12 65 "SagMemoryModel" "memory" "[I") (wl_mem 2 rfl)) (fun _ h9 => h9) rfl dX12_sagWith_31 ?_
        refine lv_bipush (v := 8) hx hb dX12_sagWith_34 (by decide) ?_
        refine lv_iload_n hx hb dX12_sagWith_36 rfl (lv_at hl 1 rfl) ?_
        refine lv_imul hx hb dX12_sagWith_37 ?_
        refine lv_topi (fun xz41 exz41 => ?_)
        have fxz41 : xz41.toInt = (8 : Int) * p1.toInt := by rw [exz41]; exact fb_mulI (x := (8 : Int32)) (y := p1) (by show -2147483648 ≤ (8 : Int) * p1.toInt; omega) (by show (8 : Int) * p1.toInt < 2147483648; omega)
        refine lv_iload hx hb dX12_sagWith_38 (lv_at hl 4 rfl) ?_
        refine lv_iadd hx hb dX12_sagWith_40 ?_
        refine lv_topi (fun xz42 exz42 => ?_)
        have fxz42 : xz42.toInt = xz41.toInt + xz25.toInt := by rw [exz42]; exact fb_addI (x := xz41) (y := xz25) (by show -2147483648 ≤ xz41.toInt + xz25.toInt; omega) (by show xz41.toInt + xz25.toInt < 2147483648; omega)
        refine lv_aload_n hx hb dX12_sagWith_41 rfl (lv_at hl 0 rfl) ?_
        refine va_get (D := (dC, dI)) (ci := 12) (v := .ref (qLa 0)) (C := RX12) (T := TX12) (N := 59) hx hb hts (fun w h => List.mem_cons_of_mem _ (List.mem_append_right _ (List.mem_append_left _ h))) hown hK hP 3 rfl rfl 42 (by decide) (hts (.fieldLink RX12 101 "SagMemoryModel" "loadAt" "[I") (wl_mem 3 rfl)) (fun _ h9 => h9) rfl dX12_sagWith_42 ?_
        refine lv_bipush (v := 8) hx hb dX12_sagWith_45 (by decide) ?_
        refine lv_iconst (v := 3) hx hb dX12_sagWith_47 (by decide) ?_
        refine lv_iload_n hx hb dX12_sagWith_48 rfl (lv_at hl 2 rfl) ?_
        refine lv_imul hx hb dX12_sagWith_49 ?_
        refine lv_topi (fun xz43 exz43 => ?_)
        have fxz43 : xz43.toInt = (3 : Int) * p2.toInt := by rw [exz43]; exact fb_mulI (x := (3 : Int32)) (y := p2) (by show -2147483648 ≤ (3 : Int) * p2.toInt; omega) (by show (3 : Int) * p2.toInt < 2147483648; omega)
        refine lv_iload_n hx hb dX12_sagWith_50 rfl (lv_at hl 1 rfl) ?_
        refine lv_iadd hx hb dX12_sagWith_51 ?_
        refine lv_topi (fun xz44 exz44 => ?_)
        have fxz44 : xz44.toInt = xz43.toInt + p1.toInt := by rw [exz44]; exact fb_addI (x := xz43) (y := p1) (by show -2147483648 ≤ xz43.toInt + p1.toInt; omega) (by show xz43.toInt + p1.toInt < 2147483648; omega)
        refine lv_imul hx hb dX12_sagWith_52 ?_
        refine lv_topi (fun xz45 exz45 => ?_)
        have fxz45 : xz45.toInt = (8 : Int) * xz44.toInt := by rw [exz45]; exact fb_mulI (x := (8 : Int32)) (y := xz44) (by show -2147483648 ≤ (8 : Int) * xz44.toInt; omega) (by show (8 : Int) * xz44.toInt < 2147483648; omega)
        refine lv_iload hx hb dX12_sagWith_53 (lv_at hl 4 rfl) ?_
        refine lv_iadd hx hb dX12_sagWith_55 ?_
        refine lv_topi (fun xz46 exz46 => ?_)
        have fxz46 : xz46.toInt = xz45.toInt + xz25.toInt := by rw [exz46]; exact fb_addI (x := xz45) (y := xz25) (by show -2147483648 ≤ xz45.toInt + xz25.toInt; omega) (by show xz45.toInt + xz25.toInt < 2147483648; omega)
        refine va_iald hx hb hK hP 5 0 rfl rfl (vp_in_iff.mpr ⟨by omega, by omega⟩) dX12_sagWith_56 ?_
        refine lv_topi (fun xz47 exz47 => ?_)
        refine va_iast hx hb hK hP hD hS 1 0 rfl rfl (vp_in_iff.mpr ⟨by omega, by omega⟩) dX12_sagWith_57 (fun H locs hP hD hS => ?_)
        obtain ⟨fz48, efz48, hP, hD⟩ : ∃ fz48 : Nat → Int32, fz48 = upd (az24 0) xz42.toNatClampNeg xz47 ∧ va_P (dC, dI) vwCl (List.flatten [(wmDn qDn k (va_up uDn 0 fz4)), (wmMe qMe k (va_up az24 0 fz48)), (wmWh qWh k aWh)] ++ List.flatten [(wMO qO k widthO manyO cellsO movedO tapeO linesO hasO bridgeO cartO wardO frostAtO actO isKeptO loadNowO byNowO rowO (qMe 0) (qWh 0) (qDn 0) brokenByO brokenAtO goesByO comesToO sagMoreO creakOfO wipedByO (qDa 0) sagAtO (qLa 0) orderRowO oftenO lossOneO lossOtherO vO tO mO gO), (wmDa qDa k oDa), (wmLa qLa k aLa)]) H ∧ va_D A (List.flatten [(wmDn qDn k (va_up uDn 0 fz4)), (wmMe qMe k (va_up az24 0 fz48)), (wmWh qWh k aWh)] ++ List.flatten [(wMO qO k widthO manyO cellsO movedO tapeO linesO hasO bridgeO cartO wardO frostAtO actO isKeptO loadNowO byNowO rowO (qMe 0) (qWh 0) (qDn 0) brokenByO brokenAtO goesByO comesToO sagMoreO creakOfO wipedByO (qDa 0) sagAtO (qLa 0) orderRowO oftenO lossOneO lossOtherO vO tO mO gO), (wmDa qDa k oDa), (wmLa qLa k aLa)]) := ⟨_, rfl, hP, hD⟩
        have kfz48 : fz48 xz42.toNatClampNeg = xz47 := by rw [efz48]; exact pk_us
        obtain ⟨xz49, exz49⟩ : ∃ y : Int32, y = xz25 + Int32.ofInt (1) := ⟨_, rfl⟩
        have fxz49 : xz49.toInt = xz25.toInt + (1) := by rw [exz49]; exact fb_addI (y := Int32.ofInt (1)) (by show -2147483648 ≤ xz25.toInt + (1); omega) (by show xz25.toInt + (1) < 2147483648; omega)
        refine lv_iinc (v := xz49) (lv' := [(4, .int xz49), (0, .ref (qO 0)), (1, .int p1), (2, .int p2), (3, .int p3)]) hx hb dX12_sagWith_58 hl (k := 4) rfl exz49.symm (by decide) rfl (fun ls hl => ?_)
        refine lv_goto (tgt := 19) hx hb dX12_sagWith_61 (by decide) ?_
        exact ih19 H locs ls (va_up az24 0 fz48) xz49 (by show (2147483647 - xz49.toInt).toNat < n9_19; omega) (by show 0 ≤ xz49.toInt; omega) hP hD hS (lv_sub hl [1, 2, 3, 4, 0] rfl)
  exact lp19_kz26 _ H locs ls aMe (0 : Int32) (Nat.lt_succ_self _) (by show 0 ≤ (0 : Int); omega) hP hD hS (lv_sub hl [1, 2, 3, 4, 0] rfl)
