def wk_c_X7_take : List Cond := .code yX7_take cX7_take 3 none :: ([.fieldLink RX7 11 "SagMemory$State" "memories" "[LSagMemory$Memory;", .methodLink RX7 25 yX2_take, .instanceMethod yX2_take, .selects RX2 yX2_take yX2_take, .initialized RX2, .fieldLink RX7 29 "SagMemory$State" "ruined" "I", .fieldLink RX7 32 "SagMemory$State" "crossed" "I"] ++ (wsX70 ++ (wk_c_X2_take ++ [])))
theorem wkg_c_X7_take : wk_c_X7_take.all goodWord = true := by decide +kernel
set_option maxHeartbeats 4000000 in
set_option maxRecDepth 100000 in
theorem c_X7_take (l : Launch) (dC : Nat → ClassId) (dI : Nat → Nat → Nat) (k : Nat → ClassId) (sz : Nat) (qS : Nat → Nat) (vS : Nat → Int32) (nS : Nat → Int32) (aS : Nat → Nat → Int32) (qO : Nat → Nat) (vO : Nat → Int32) (nO : Nat → Int32) (aO : Nat → Nat → Int32) (hnS : Rg 0 8 nS) (hnO : Rg 0 8 nO) : Met l yX7_take wk_c_X7_take ({ frames := 1, cells := 0, slots := 0, locals := 22 }) (va_Pc [.ref (qS 0), .ref (qO 0)] (fun U => U.heap.size = sz ∧ va_P (dC, dI) vwCl (List.flatten [(wState qS k vS nS aS)] ++ List.flatten [(wState qO k vO nO aO)]) U.heap ∧ va_K (dC, dI) vwCl (tK k) U ∧ va_D (fun _ => True) (List.flatten [(wState qS k vS nS aS)] ++ List.flatten [(wState qO k vO nO aO)]))) (va_Qv (fun _ : Unit => True) (fun (_ : Unit) (t : State) => ∃ (vS' : Nat → Int32) (nS' : Nat → Int32) (aS' : Nat → Nat → Int32), Rg 0 8 nS' ∧ va_P (dC, dI) vwCl (List.flatten [(wState qS k vS' nS' aS')] ++ List.flatten [(wState qO k vO nO aO)]) t.heap) (va_A (List.flatten [(wState qS k vS nS aS)] ++ List.flatten [(wState qO k vO nO aO)]) sz)) 0 0 (va_A (List.flatten [(wState qS k vS nS aS)] ++ List.flatten [(wState qO k vO nO aO)]) sz) := by
  refine Met.ofW (cc := cX7_take) (maxL := 3) (ret := none) (by decide) rfl ?_
  intro p e s m args below meth c s₁ B hml hv
  obtain ⟨rfl, hsz, hP, hK, hD0⟩ := hv
  have hx := B.exec
  have hb := B.bytes
  have hr := B.returns
  have hts := atoms_spec (ws := wk_c_X7_take) B.pre
  have hown : s.vm.findClass RX7 = some m.cls := findClass_of_methodNamed B.named
  have hlocks := B.notSynchronized
  subst hsz
  have hD := hD0.self (sz := s.heap.size)
  generalize hAe : va_A (List.flatten [(wState qS k vS nS aS)] ++ List.flatten [(wState qO k vO nO aO)]) s.heap.size = A at hD ⊢
  have hA : ∀ q : Nat, s.heap.size ≤ q → A q := fun q h => by rw [← hAe]; exact Or.inr h
  have hS : va_S A s.heap s.heap [] := va_S.rf
  have hP : va_P (dC, dI) vwCl (List.flatten [(wState qS k vS nS aS)] ++ List.flatten [(wState qO k vO nO aO)]) s.heap := hP
  have hl := lv_entry ([.ref (qS 0), .ref (qO 0)]) (n := 3) (Nat.le_of_ble_eq_true rfl)
  rw [lg_entry_eq]
  generalize (lg_sl ([.ref (qS 0), .ref (qO 0)]) ++ List.replicate (3 - (lg_sl ([.ref (qS 0), .ref (qO 0)])).length) Slot.unset).toArray = ls at hl ⊢
  have hl : lv_has ls 3 [(0, .ref (qS 0)), (1, .ref (qO 0))] := hl
  refine w_gen (fun Q hQ => ?_)
  refine lv_iconst (v := 0) hx hb dX7_take_0 (by decide) ?_
  refine lv_istore_n (lv' := [(2, .int 0), (0, .ref (qS 0)), (1, .ref (qO 0))]) hx hb dX7_take_1 rfl hl (by decide) rfl (fun ls hl => ?_)
  refine lv_iload_n hx hb dX7_take_2 rfl (lv_at hl 0 rfl) ?_
  refine lv_iconst (v := 3) hx hb dX7_take_3 (by decide) ?_
  refine lv_icmp_ge (tgt := 28) hx hb dX7_take_4 (by decide) (fun cz1 => ?_) (fun cz1 => ?_)
  · skip
    exact absurd cz1 (by decide)
  · skip
    refine lv_aload_n hx hb dX7_take_7 rfl (lv_at hl 1 rfl) ?_
    refine va_get (D := (dC, dI)) (ci := 7) (v := .ref (qS 1)) (C := RX7) (T := TX7) (N := 9) hx hb hts (fun w h => List.mem_cons_of_mem _ (List.mem_append_right _ (List.mem_append_left _ h))) hown hK hP 0 rfl rfl 0 (by decide) (hts (.fieldLink RX7 11 "SagMemory$State" "memories" "[LSagMemory$Memory;") (wl_mem 0 rfl)) (fun _ h9 => h9) rfl dX7_take_8 ?_
    refine lv_iload_n hx hb dX7_take_11 rfl (lv_at hl 0 rfl) ?_
    refine va_aldq hx hb hK hP 1 4 rfl rfl (by unfold vp_in; decide) dX7_take_12 ?_
    refine W.eq (g2 := F0 m 13 ls [.ref (qS 2)]) rfl ?_
    refine lv_aload_n hx hb dX7_take_13 rfl (lv_at hl 2 rfl) ?_
    refine va_get (D := (dC, dI)) (ci := 7) (v := .ref (qO 1)) (C := RX7) (T := TX7) (N := 9) hx hb hts (fun w h => List.mem_cons_of_mem _ (List.mem_append_right _ (List.mem_append_left _ h))) hown hK hP 11 rfl rfl 0 (by decide) (hts (.fieldLink RX7 11 "SagMemory$State" "memories" "[LSagMemory$Memory;") (wl_mem 0 rfl)) (fun _ h9 => h9) rfl dX7_take_14 ?_
    refine lv_iload_n hx hb dX7_take_17 rfl (lv_at hl 0 rfl) ?_
    refine va_aldq hx hb hK hP 12 4 rfl rfl (by unfold vp_in; decide) dX7_take_18 ?_
    refine W.eq (g2 := F0 m 19 ls [.ref (qO 2), .ref (qS 2)]) rfl ?_
    have hPc := hP.sub (ws' := (List.flatten [(wMem (fun i => qS (i + 2)) k nS aS)] ++ List.flatten [(wMem (fun i => qO (i + 2)) k nO aO)])) [2, 3, 4, 13, 14, 15] rfl
    have hC : [2, 3, 4, 13, 14, 15].map (fun i => (List.flatten [(wState qS k vS nS aS)] ++ List.flatten [(wState qO k vO nO aO)])[i]?) = (List.flatten [(wMem (fun i => qS (i + 2)) k nS aS)] ++ List.flatten [(wMem (fun i => qO (i + 2)) k nO aO)]).map some := rfl
    have hDc := hD.sub [2, 3, 4, 13, 14, 15] (by decide) hC
    have hFc := va_free hD hS hA [2, 3, 4, 13, 14, 15] hC
    refine va_callv (va_runV (As := [.ref (qO 2)]) (rest := []) ⟨hx, hb, hml, hown, hts⟩ (c_X2_take l dC dI k s.heap.size (fun i => qS (i + 2)) nS aS (fun i => qO (i + 2)) nO aO hnS hnO) (cwV 1 hts (gk_V (wl_mem 1 rfl) (wl_mem 2 rfl) (wl_mem 3 rfl) (wl_mem 4 rfl) (fun w h => List.mem_cons_of_mem _ (List.mem_append_right _ (List.mem_append_right _ (List.mem_append_left _ h)))) wkg_c_X2_take) rfl rfl rfl (by decide +kernel) ⟨Nat.le_of_ble_eq_true rfl, Nat.le_of_ble_eq_true rfl⟩) ⟨fun a U g mk q => by obtain ⟨q0, q1, qP, qK, qD⟩ := q; exact ⟨q0, q1, qP, va_K.moved (u := U) (U := U.calling g mk a) (Vm.Alike.refl U.vm) qK, qD⟩, va_recv hK hPc (ci := 2) (q0 := 0) rfl rfl, fun U hU hW => ⟨rfl, by rw [hU], by rw [hU]; exact hPc, va_K.moved hW.alike hK, hDc.weaken (fun _ _ _ _ => trivial)⟩⟩ rfl rfl hl.1 rfl (lv_room (Nat.le_of_ble_eq_true rfl)) dX7_take_19 ⟨Nat.le_of_ble_eq_true rfl, Nat.le_of_ble_eq_true rfl⟩) hS (fun q _ h => hFc q h) hFc (fun u t H1 locs ht hvm gz2 hB hz1 hk1 hS => ?_)
    obtain ⟨nz4, az5, hnz4, hP1⟩ := hB
    rw [ht] at hP1
    obtain ⟨hP, hD⟩ := w_call hP hD [2, 3, 4, 13, 14, 15] hC hk1 hP1 rfl (by decide)
    clear hPc hC hDc hFc hk1 hP1
    generalize H1 = H at hP hS ⊢
    have hP : va_P (dC, dI) vwCl (List.flatten [(wState qS k vS (zput nS 0 1 nz4) (zput aS 0 2 az5))] ++ List.flatten [(wState qO k vO nO aO)]) H := hP
    have hD : va_D A (List.flatten [(wState qS k vS (zput nS 0 1 nz4) (zput aS 0 2 az5))] ++ List.flatten [(wState qO k vO nO aO)]) := hD
    refine W.widen (k := 0) (n := 0) (Nat.le_refl 0) (Nat.le_refl 0) ?_
    refine lv_iinc (v := 1) (lv' := [(2, .int 1), (0, .ref (qS 0)), (1, .ref (qO 0))]) hx hb dX7_take_22 hl (k := 0) rfl (by decide) (by decide) rfl (fun ls hl => ?_)
    refine lv_goto (tgt := 2) hx hb dX7_take_25 (by decide) ?_
    refine lv_iload_n hx hb dX7_take_2 rfl (lv_at hl 0 rfl) ?_
    refine lv_iconst (v := 3) hx hb dX7_take_3 (by decide) ?_
    refine lv_icmp_ge (tgt := 28) hx hb dX7_take_4 (by decide) (fun cz6 => ?_) (fun cz6 => ?_)
    · skip
      exact absurd cz6 (by decide)
    · skip
      refine lv_aload_n hx hb dX7_take_7 rfl (lv_at hl 1 rfl) ?_
      refine va_get (D := (dC, dI)) (ci := 7) (v := .ref (qS 1)) (C := RX7) (T := TX7) (N := 9) hx hb hts (fun w h => List.mem_cons_of_mem _ (List.mem_append_right _ (List.mem_append_left _ h))) hown hK hP 0 rfl rfl 0 (by decide) (hts (.fieldLink RX7 11 "SagMemory$State" "memories" "[LSagMemory$Memory;") (wl_mem 0 rfl)) (fun _ h9 => h9) rfl dX7_take_8 ?_
      refine lv_iload_n hx hb dX7_take_11 rfl (lv_at hl 0 rfl) ?_
      refine va_aldq hx hb hK hP 1 4 rfl rfl (by unfold vp_in; decide) dX7_take_12 ?_
      refine W.eq (g2 := F0 m 13 ls [.ref (qS 5)]) rfl ?_
      refine lv_aload_n hx hb dX7_take_13 rfl (lv_at hl 2 rfl) ?_
      refine va_get (D := (dC, dI)) (ci := 7) (v := .ref (qO 1)) (C := RX7) (T := TX7) (N := 9) hx hb hts (fun w h => List.mem_cons_of_mem _ (List.mem_append_right _ (List.mem_append_left _ h))) hown hK hP 11 rfl rfl 0 (by decide) (hts (.fieldLink RX7 11 "SagMemory$State" "memories" "[LSagMemory$Memory;") (wl_mem 0 rfl)) (fun _ h9 => h9) rfl dX7_take_14 ?_
      refine lv_iload_n hx hb dX7_take_17 rfl (lv_at hl 0 rfl) ?_
      refine va_aldq hx hb hK hP 12 4 rfl rfl (by unfold vp_in; decide) dX7_take_18 ?_
      refine W.eq (g2 := F0 m 19 ls [.ref (qO 5), .ref (qS 5)]) rfl ?_
      have hPc := hP.sub (ws' := (List.flatten [(wMem (fun i => qS (i + 5)) k (fun i => nS (i + 1)) (fun i => aS (i + 2)))] ++ List.flatten [(wMem (fun i => qO (i + 5)) k (fun i => nO (i + 1)) (fun i => aO (i + 2)))])) [5, 6, 7, 16, 17, 18] rfl
      have hC : [5, 6, 7, 16, 17, 18].map (fun i => (List.flatten [(wState qS k vS (zput nS 0 1 nz4) (zput aS 0 2 az5))] ++ List.flatten [(wState qO k vO nO aO)])[i]?) = (List.flatten [(wMem (fun i => qS (i + 5)) k (fun i => nS (i + 1)) (fun i => aS (i + 2)))] ++ List.flatten [(wMem (fun i => qO (i + 5)) k (fun i => nO (i + 1)) (fun i => aO (i + 2)))]).map some := rfl
      have hDc := hD.sub [5, 6, 7, 16, 17, 18] (by decide) hC
      have hFc := va_free hD hS hA [5, 6, 7, 16, 17, 18] hC
      refine va_callv (va_runV (As := [.ref (qO 5)]) (rest := []) ⟨hx, hb, hml, hown, hts⟩ (c_X2_take l dC dI k H.size (fun i => qS (i + 5)) (fun i => nS (i + 1)) (fun i => aS (i + 2)) (fun i => qO (i + 5)) (fun i => nO (i + 1)) (fun i => aO (i + 2)) (fun i => hnS (i + 1)) (fun i => hnO (i + 1))) (cwV 1 hts (gk_V (wl_mem 1 rfl) (wl_mem 2 rfl) (wl_mem 3 rfl) (wl_mem 4 rfl) (fun w h => List.mem_cons_of_mem _ (List.mem_append_right _ (List.mem_append_right _ (List.mem_append_left _ h)))) wkg_c_X2_take) rfl rfl rfl (by decide +kernel) ⟨Nat.le_of_ble_eq_true rfl, Nat.le_of_ble_eq_true rfl⟩) ⟨fun a U g mk q => by obtain ⟨q0, q1, qP, qK, qD⟩ := q; exact ⟨q0, q1, qP, va_K.moved (u := U) (U := U.calling g mk a) (Vm.Alike.refl U.vm) qK, qD⟩, va_recv hK hPc (ci := 2) (q0 := 0) rfl rfl, fun U hU hW => ⟨rfl, by rw [hU], by rw [hU]; exact hPc, va_K.moved hW.alike hK, hDc.weaken (fun _ _ _ _ => trivial)⟩⟩ rfl rfl hl.1 rfl (lv_room (Nat.le_of_ble_eq_true rfl)) dX7_take_19 ⟨Nat.le_of_ble_eq_true rfl, Nat.le_of_ble_eq_true rfl⟩) hS (fun q _ h => hFc q h) hFc (fun u t H1 locs ht hvm gz7 hB hz1 hk1 hS => ?_)
      obtain ⟨nz9, az10, hnz9, hP1⟩ := hB
      rw [ht] at hP1
      obtain ⟨hP, hD⟩ := w_call hP hD [5, 6, 7, 16, 17, 18] hC hk1 hP1 rfl (by decide)
      clear hPc hC hDc hFc hk1 hP1
      generalize H1 = H at hP hS ⊢
      have hP : va_P (dC, dI) vwCl (List.flatten [(wState qS k vS (zput (zput nS 0 1 nz4) 1 1 nz9) (zput (zput aS 0 2 az5) 2 2 az10))] ++ List.flatten [(wState qO k vO nO aO)]) H := hP
      have hD : va_D A (List.flatten [(wState qS k vS (zput (zput nS 0 1 nz4) 1 1 nz9) (zput (zput aS 0 2 az5) 2 2 az10))] ++ List.flatten [(wState qO k vO nO aO)]) := hD
      refine W.widen (k := 0) (n := 0) (Nat.le_refl 0) (Nat.le_refl 0) ?_
      refine lv_iinc (v := 2) (lv' := [(2, .int 2), (0, .ref (qS 0)), (1, .ref (qO 0))]) hx hb dX7_take_22 hl (k := 0) rfl (by decide) (by decide) rfl (fun ls hl => ?_)
      refine lv_goto (tgt := 2) hx hb dX7_take_25 (by decide) ?_
      refine lv_iload_n hx hb dX7_take_2 rfl (lv_at hl 0 rfl) ?_
      refine lv_iconst (v := 3) hx hb dX7_take_3 (by decide) ?_
      refine lv_icmp_ge (tgt := 28) hx hb dX7_take_4 (by decide) (fun cz11 => ?_) (fun cz11 => ?_)
      · skip
        exact absurd cz11 (by decide)
      · skip
        refine lv_aload_n hx hb dX7_take_7 rfl (lv_at hl 1 rfl) ?_
        refine va_get (D := (dC, dI)) (ci := 7) (v := .ref (qS 1)) (C := RX7) (T := TX7) (N := 9) hx hb hts (fun w h => List.mem_cons_of_mem _ (List.mem_append_right _ (List.mem_append_left _ h))) hown hK hP 0 rfl rfl 0 (by decide) (hts (.fieldLink RX7 11 "SagMemory$State" "memories" "[LSagMemory$Memory;") (wl_mem 0 rfl)) (fun _ h9 => h9) rfl dX7_take_8 ?_
        refine lv_iload_n hx hb dX7_take_11 rfl (lv_at hl 0 rfl) ?_
        refine va_aldq hx hb hK hP 1 4 rfl rfl (by unfold vp_in; decide) dX7_take_12 ?_
        refine W.eq (g2 := F0 m 13 ls [.ref (qS 8)]) rfl ?_
        refine lv_aload_n hx hb dX7_take_13 rfl (lv_at hl 2 rfl) ?_
        refine va_get (D := (dC, dI)) (ci := 7) (v := .ref (qO 1)) (C := RX7) (T := TX7) (N := 9) hx hb hts (fun w h => List.mem_cons_of_mem _ (List.mem_append_right _ (List.mem_append_left _ h))) hown hK hP 11 rfl rfl 0 (by decide) (hts (.fieldLink RX7 11 "SagMemory$State" "memories" "[LSagMemory$Memory;") (wl_mem 0 rfl)) (fun _ h9 => h9) rfl dX7_take_14 ?_
        refine lv_iload_n hx hb dX7_take_17 rfl (lv_at hl 0 rfl) ?_
        refine va_aldq hx hb hK hP 12 4 rfl rfl (by unfold vp_in; decide) dX7_take_18 ?_
        refine W.eq (g2 := F0 m 19 ls [.ref (qO 8), .ref (qS 8)]) rfl ?_
        have hPc := hP.sub (ws' := (List.flatten [(wMem (fun i => qS (i + 8)) k (fun i => nS (i + 2)) (fun i => aS (i + 4)))] ++ List.flatten [(wMem (fun i => qO (i + 8)) k (fun i => nO (i + 2)) (fun i => aO (i + 4)))])) [8, 9, 10, 19, 20, 21] rfl
        have hC : [8, 9, 10, 19, 20, 21].map (fun i => (List.flatten [(wState qS k vS (zput (zput nS 0 1 nz4) 1 1 nz9) (zput (zput aS 0 2 az5) 2 2 az10))] ++ List.flatten [(wState qO k vO nO aO)])[i]?) = (List.flatten [(wMem (fun i => qS (i + 8)) k (fun i => nS (i + 2)) (fun i => aS (i + 4)))] ++ List.flatten [(wMem (fun i => qO (i + 8)) k (fun i => nO (i + 2)) (fun i => aO (i + 4)))]).map some := rfl
        have hDc := hD.sub [8, 9, 10, 19, 20, 21] (by decide) hC
        have hFc := va_free hD hS hA [8, 9, 10, 19, 20, 21] hC
        refine va_callv (va_runV (As := [.ref (qO 8)]) (rest := []) ⟨hx, hb, hml, hown, hts⟩ (c_X2_take l dC dI k H.size (fun i => qS (i + 8)) (fun i => nS (i + 2)) (fun i => aS (i + 4)) (fun i => qO (i + 8)) (fun i => nO (i + 2)) (fun i => aO (i + 4)) (fun i => hnS (i + 2)) (fun i => hnO (i + 2))) (cwV 1 hts (gk_V (wl_mem 1 rfl) (wl_mem 2 rfl) (wl_mem 3 rfl) (wl_mem 4 rfl) (fun w h => List.mem_cons_of_mem _ (List.mem_append_right _ (List.mem_append_right _ (List.mem_append_left _ h)))) wkg_c_X2_take) rfl rfl rfl (by decide +kernel) ⟨Nat.le_of_ble_eq_true rfl, Nat.le_of_ble_eq_true rfl⟩) ⟨fun a U g mk q => by obtain ⟨q0, q1, qP, qK, qD⟩ := q; exact ⟨q0, q1, qP, va_K.moved (u := U) (U := U.calling g mk a) (Vm.Alike.refl U.vm) qK, qD⟩, va_recv hK hPc (ci := 2) (q0 := 0) rfl rfl, fun U hU hW => ⟨rfl, by rw [hU], by rw [hU]; exact hPc, va_K.moved hW.alike hK, hDc.weaken (fun _ _ _ _ => trivial)⟩⟩ rfl rfl hl.1 rfl (lv_room (Nat.le_of_ble_eq_true rfl)) dX7_take_19 ⟨Nat.le_of_ble_eq_true rfl, Nat.le_of_ble_eq_true rfl⟩) hS (fun q _ h => hFc q h) hFc (fun u t H1 locs ht hvm gz12 hB hz1 hk1 hS => ?_)
        obtain ⟨nz14, az15, hnz14, hP1⟩ := hB
        rw [ht] at hP1
        obtain ⟨hP, hD⟩ := w_call hP hD [8, 9, 10, 19, 20, 21] hC hk1 hP1 rfl (by decide)
        clear hPc hC hDc hFc hk1 hP1
        generalize H1 = H at hP hS ⊢
        have hP : va_P (dC, dI) vwCl (List.flatten [(wState qS k vS (zput (zput (zput nS 0 1 nz4) 1 1 nz9) 2 1 nz14) (zput (zput (zput aS 0 2 az5) 2 2 az10) 4 2 az15))] ++ List.flatten [(wState qO k vO nO aO)]) H := hP
        have hD : va_D A (List.flatten [(wState qS k vS (zput (zput (zput nS 0 1 nz4) 1 1 nz9) 2 1 nz14) (zput (zput (zput aS 0 2 az5) 2 2 az10) 4 2 az15))] ++ List.flatten [(wState qO k vO nO aO)]) := hD
        refine W.widen (k := 0) (n := 0) (Nat.le_refl 0) (Nat.le_refl 0) ?_
        refine lv_iinc (v := 3) (lv' := [(2, .int 3), (0, .ref (qS 0)), (1, .ref (qO 0))]) hx hb dX7_take_22 hl (k := 0) rfl (by decide) (by decide) rfl (fun ls hl => ?_)
        refine lv_goto (tgt := 2) hx hb dX7_take_25 (by decide) ?_
        refine lv_iload_n hx hb dX7_take_2 rfl (lv_at hl 0 rfl) ?_
        refine lv_iconst (v := 3) hx hb dX7_take_3 (by decide) ?_
        refine lv_icmp_ge (tgt := 28) hx hb dX7_take_4 (by decide) (fun cz16 => ?_) (fun cz16 => ?_)
        · skip
          refine lv_aload_n hx hb dX7_take_28 rfl (lv_at hl 1 rfl) ?_
          refine lv_aload_n hx hb dX7_take_29 rfl (lv_at hl 2 rfl) ?_
          refine va_get (D := (dC, dI)) (ci := 7) (v := .int (vO 0)) (C := RX7) (T := TX7) (N := 9) hx hb hts (fun w h => List.mem_cons_of_mem _ (List.mem_append_right _ (List.mem_append_left _ h))) hown hK hP 11 rfl rfl 1 (by decide) (hts (.fieldLink RX7 29 "SagMemory$State" "ruined" "I") (wl_mem 5 rfl)) (fun _ h9 => h9) rfl dX7_take_30 ?_
          refine va_put (D := (dC, dI)) (ci := 7) (v := .int (vO 0)) (ty := .int) (C := RX7) (T := TX7) (N := 9) hx hb hts (fun w h => List.mem_cons_of_mem _ (List.mem_append_right _ (List.mem_append_left _ h))) tyX7 tyX7_ok nmX7 hown hK hP hD hS 0 rfl rfl 1 (by decide) (hts (.fieldLink RX7 29 "SagMemory$State" "ruined" "I") (wl_mem 5 rfl)) (fun _ h9 => h9) rfl (by decide +kernel) rfl rfl (Nat.le_of_ble_eq_true rfl) dX7_take_33 (fun H locs hP hD hS => ?_)
          have hP : va_P (dC, dI) vwCl (List.flatten [(wState qS k (va_up vS 0 (vO 0)) (zput (zput (zput nS 0 1 nz4) 1 1 nz9) 2 1 nz14) (zput (zput (zput aS 0 2 az5) 2 2 az10) 4 2 az15))] ++ List.flatten [(wState qO k vO nO aO)]) H := hP
          have hD : va_D A (List.flatten [(wState qS k (va_up vS 0 (vO 0)) (zput (zput (zput nS 0 1 nz4) 1 1 nz9) 2 1 nz14) (zput (zput (zput aS 0 2 az5) 2 2 az10) 4 2 az15))] ++ List.flatten [(wState qO k vO nO aO)]) := hD
          refine lv_aload_n hx hb dX7_take_36 rfl (lv_at hl 1 rfl) ?_
          refine lv_aload_n hx hb dX7_take_37 rfl (lv_at hl 2 rfl) ?_
          refine va_get (D := (dC, dI)) (ci := 7) (v := .int (vO 1)) (C := RX7) (T := TX7) (N := 9) hx hb hts (fun w h => List.mem_cons_of_mem _ (List.mem_append_right _ (List.mem_append_left _ h))) hown hK hP 11 rfl rfl 2 (by decide) (hts (.fieldLink RX7 32 "SagMemory$State" "crossed" "I") (wl_mem 6 rfl)) (fun _ h9 => h9) rfl dX7_take_38 ?_
          refine va_put (D := (dC, dI)) (ci := 7) (v := .int (vO 1)) (ty := .int) (C := RX7) (T := TX7) (N := 9) hx hb hts (fun w h => List.mem_cons_of_mem _ (List.mem_append_right _ (List.mem_append_left _ h))) tyX7 tyX7_ok nmX7 hown hK hP hD hS 0 rfl rfl 2 (by decide) (hts (.fieldLink RX7 32 "SagMemory$State" "crossed" "I") (wl_mem 6 rfl)) (fun _ h9 => h9) rfl (by decide +kernel) rfl rfl (Nat.le_of_ble_eq_true rfl) dX7_take_41 (fun H locs hP hD hS => ?_)
          have hP : va_P (dC, dI) vwCl (List.flatten [(wState qS k (va_up (va_up vS 0 (vO 0)) 1 (vO 1)) (zput (zput (zput nS 0 1 nz4) 1 1 nz9) 2 1 nz14) (zput (zput (zput aS 0 2 az5) 2 2 az10) 4 2 az15))] ++ List.flatten [(wState qO k vO nO aO)]) H := hP
          have hD : va_D A (List.flatten [(wState qS k (va_up (va_up vS 0 (vO 0)) 1 (vO 1)) (zput (zput (zput nS 0 1 nz4) 1 1 nz9) 2 1 nz14) (zput (zput (zput aS 0 2 az5) 2 2 az10) 4 2 az15))] ++ List.flatten [(wState qO k vO nO aO)]) := hD
          rw [hQ]
          exact W.vret hx hb hr (fun t ht hW => ⟨⟨(), rfl, trivial, (va_up (va_up vS 0 (vO 0)) 1 (vO 1)), (zput (zput (zput nS 0 1 nz4) 1 1 nz9) 2 1 nz14), (zput (zput (zput aS 0 2 az5) 2 2 az10) 4 2 az15), (rg_put (rg_put (rg_put hnS hnz4) hnz9) hnz14), by rw [ht]; exact hP⟩, hS.F ht⟩) hS.2.2 dX7_take_44
        · skip
          exact absurd cz16 (by decide)
def wk_c_X7_chill : List Cond := .code yX7_chill cX7_chill 3 none :: ([.fieldLink RX7 11 "SagMemory$State" "memories" "[LSagMemory$Memory;", .methodLink RX7 35 yX2_chill, .instanceMethod yX2_chill, .selects RX2 yX2_chill yX2_chill, .initialized RX2] ++ (wsX70 ++ (wk_c_X2_chill ++ [])))
theorem wkg_c_X7_chill : wk_c_X7_chill.all goodWord = true := by decide +kernel
set_option maxHeartbeats 4000000 in
set_option maxRecDepth 100000 in
theorem c_X7_chill (l : Launch) (dC : Nat → ClassId) (dI : Nat → Nat → Nat) (k : Nat → ClassId) (sz : Nat) (qS : Nat → Nat) (vS : Nat → Int32) (nS : Nat → Int32) (aS : Nat → Nat → Int32) (p1 : Int32) (hnS : Rg 0 8 nS) : Met l yX7_chill wk_c_X7_chill ({ frames := 1, cells := 0, slots := 0, locals := 23 }) (va_Pc [.ref (qS 0), .int p1] (fun U => U.heap.size = sz ∧ va_P (dC, dI) vwCl (List.flatten [(wState qS k vS nS aS)] ++ List.flatten ([] : List va_W)) U.heap ∧ va_K (dC, dI) vwCl (tK k) U ∧ va_D (fun _ => True) (List.flatten [(wState qS k vS nS aS)] ++ List.flatten ([] : List va_W)))) (va_Qv (fun _ : Unit => True) (fun (_ : Unit) (t : State) => ∃ (vS' : Nat → Int32) (nS' : Nat → Int32) (aS' : Nat → Nat → Int32), Rg 0 8 nS' ∧ va_P (dC, dI) vwCl (List.flatten [(wState qS k vS' nS' aS')] ++ List.flatten ([] : List va_W)) t.heap) (va_A (List.flatten [(wState qS k vS nS aS)] ++ List.flatten ([] : List va_W)) sz)) 0 0 (va_A (List.flatten [(wState qS k vS nS aS)] ++ List.flatten ([] : List va_W)) sz) := by
  refine Met.ofW (cc := cX7_chill) (maxL := 3) (ret := none) (by decide) rfl ?_
  intro p e s m args below meth c s₁ B hml hv
  obtain ⟨rfl, hsz, hP, hK, hD0⟩ := hv
  have hx := B.exec
  have hb := B.bytes
  have hr := B.returns
  have hts := atoms_spec (ws := wk_c_X7_chill) B.pre
  have hown : s.vm.findClass RX7 = some m.cls := findClass_of_methodNamed B.named
  have hlocks := B.notSynchronized
  subst hsz
  have hD := hD0.self (sz := s.heap.size)
  generalize hAe : va_A (List.flatten [(wState qS k vS nS aS)] ++ List.flatten ([] : List va_W)) s.heap.size = A at hD ⊢
  have hA : ∀ q : Nat, s.heap.size ≤ q → A q := fun q h => by rw [← hAe]; exact Or.inr h
  have hS : va_S A s.heap s.heap [] := va_S.rf
  have hP : va_P (dC, dI) vwCl (List.flatten [(wState qS k vS nS aS)] ++ List.flatten ([] : List va_W)) s.heap := hP
  have hl := lv_entry ([.ref (qS 0), .int p1]) (n := 3) (Nat.le_of_ble_eq_true rfl)
  rw [lg_entry_eq]
  generalize (lg_sl ([.ref (qS 0), .int p1]) ++ List.replicate (3 - (lg_sl ([.ref (qS 0), .int p1])).length) Slot.unset).toArray = ls at hl ⊢
  have hl : lv_has ls 3 [(0, .ref (qS 0)), (1, .int p1)] := hl
  refine w_gen (fun Q hQ => ?_)
  refine lv_iconst (v := 0) hx hb dX7_chill_0 (by decide) ?_
  refine lv_istore_n (lv' := [(2, .int 0), (0, .ref (qS 0)), (1, .int p1)]) hx hb dX7_chill_1 rfl hl (by decide) rfl (fun ls hl => ?_)
  refine lv_iload_n hx hb dX7_chill_2 rfl (lv_at hl 0 rfl) ?_
  refine lv_iconst (v := 3) hx hb dX7_chill_3 (by decide) ?_
  refine lv_icmp_ge (tgt := 23) hx hb dX7_chill_4 (by decide) (fun cz1 => ?_) (fun cz1 => ?_)
  · skip
    exact absurd cz1 (by decide)
  · skip
    refine lv_aload_n hx hb dX7_chill_7 rfl (lv_at hl 1 rfl) ?_
    refine va_get (D := (dC, dI)) (ci := 7) (v := .ref (qS 1)) (C := RX7) (T := TX7) (N := 9) hx hb hts (fun w h => List.mem_cons_of_mem _ (List.mem_append_right _ (List.mem_append_left _ h))) hown hK hP 0 rfl rfl 0 (by decide) (hts (.fieldLink RX7 11 "SagMemory$State" "memories" "[LSagMemory$Memory;") (wl_mem 0 rfl)) (fun _ h9 => h9) rfl dX7_chill_8 ?_
    refine lv_iload_n hx hb dX7_chill_11 rfl (lv_at hl 0 rfl) ?_
    refine va_aldq hx hb hK hP 1 4 rfl rfl (by unfold vp_in; decide) dX7_chill_12 ?_
    refine W.eq (g2 := F0 m 13 ls [.ref (qS 2)]) rfl ?_
    refine lv_iload_n hx hb dX7_chill_13 rfl (lv_at hl 2 rfl) ?_
    have hPc := hP.sub (ws' := (List.flatten [(wMem (fun i => qS (i + 2)) k nS aS)] ++ List.flatten ([] : List va_W))) [2, 3, 4] rfl
    have hC : [2, 3, 4].map (fun i => (List.flatten [(wState qS k vS nS aS)] ++ List.flatten ([] : List va_W))[i]?) = (List.flatten [(wMem (fun i => qS (i + 2)) k nS aS)] ++ List.flatten ([] : List va_W)).map some := rfl
    have hDc := hD.sub [2, 3, 4] (by decide) hC
    have hFc := va_free hD hS hA [2, 3, 4] hC
    refine va_callv (va_runV (As := [.int p1]) (rest := []) ⟨hx, hb, hml, hown, hts⟩ (c_X2_chill l dC dI k s.heap.size (fun i => qS (i + 2)) nS aS p1 hnS) (cwV 1 hts (gk_V (wl_mem 1 rfl) (wl_mem 2 rfl) (wl_mem 3 rfl) (wl_mem 4 rfl) (fun w h => List.mem_cons_of_mem _ (List.mem_append_right _ (List.mem_append_right _ (List.mem_append_left _ h)))) wkg_c_X2_chill) rfl rfl rfl (by decide +kernel) ⟨Nat.le_of_ble_eq_true rfl, Nat.le_of_ble_eq_true rfl⟩) ⟨fun a U g mk q => by obtain ⟨q0, q1, qP, qK, qD⟩ := q; exact ⟨q0, q1, qP, va_K.moved (u := U) (U := U.calling g mk a) (Vm.Alike.refl U.vm) qK, qD⟩, va_recv hK hPc (ci := 2) (q0 := 0) rfl rfl, fun U hU hW => ⟨rfl, by rw [hU], by rw [hU]; exact hPc, va_K.moved hW.alike hK, hDc.weaken (fun _ _ _ _ => trivial)⟩⟩ rfl rfl hl.1 rfl (lv_room (Nat.le_of_ble_eq_true rfl)) dX7_chill_14 ⟨Nat.le_of_ble_eq_true rfl, Nat.le_of_ble_eq_true rfl⟩) hS (fun q _ h => hFc q h) hFc (fun u t H1 locs ht hvm gz2 hB hz1 hk1 hS => ?_)
    obtain ⟨nz4, az5, hnz4, hP1⟩ := hB
    rw [ht] at hP1
    obtain ⟨hP, hD⟩ := w_call hP hD [2, 3, 4] hC hk1 hP1 rfl (by decide)
    clear hPc hC hDc hFc hk1 hP1
    generalize H1 = H at hP hS ⊢
    have hP : va_P (dC, dI) vwCl (List.flatten [(wState qS k vS (zput nS 0 1 nz4) (zput aS 0 2 az5))] ++ List.flatten ([] : List va_W)) H := hP
    have hD : va_D A (List.flatten [(wState qS k vS (zput nS 0 1 nz4) (zput aS 0 2 az5))] ++ List.flatten ([] : List va_W)) := hD
    refine W.widen (k := 0) (n := 0) (Nat.le_refl 0) (Nat.le_refl 0) ?_
    refine lv_iinc (v := 1) (lv' := [(2, .int 1), (0, .ref (qS 0)), (1, .int p1)]) hx hb dX7_chill_17 hl (k := 0) rfl (by decide) (by decide) rfl (fun ls hl => ?_)
    refine lv_goto (tgt := 2) hx hb dX7_chill_20 (by decide) ?_
    refine lv_iload_n hx hb dX7_chill_2 rfl (lv_at hl 0 rfl) ?_
    refine lv_iconst (v := 3) hx hb dX7_chill_3 (by decide) ?_
    refine lv_icmp_ge (tgt := 23) hx hb dX7_chill_4 (by decide) (fun cz6 => ?_) (fun cz6 => ?_)
    · skip
      exact absurd cz6 (by decide)
    · skip
      refine lv_aload_n hx hb dX7_chill_7 rfl (lv_at hl 1 rfl) ?_
      refine va_get (D := (dC, dI)) (ci := 7) (v := .ref (qS 1)) (C := RX7) (T := TX7) (N := 9) hx hb hts (fun w h => List.mem_cons_of_mem _ (List.mem_append_right _ (List.mem_append_left _ h))) hown hK hP 0 rfl rfl 0 (by decide) (hts (.fieldLink RX7 11 "SagMemory$State" "memories" "[LSagMemory$Memory;") (wl_mem 0 rfl)) (fun _ h9 => h9) rfl dX7_chill_8 ?_
      refine lv_iload_n hx hb dX7_chill_11 rfl (lv_at hl 0 rfl) ?_
      refine va_aldq hx hb hK hP 1 4 rfl rfl (by unfold vp_in; decide) dX7_chill_12 ?_
      refine W.eq (g2 := F0 m 13 ls [.ref (qS 5)]) rfl ?_
      refine lv_iload_n hx hb dX7_chill_13 rfl (lv_at hl 2 rfl) ?_
      have hPc := hP.sub (ws' := (List.flatten [(wMem (fun i => qS (i + 5)) k (fun i => nS (i + 1)) (fun i => aS (i + 2)))] ++ List.flatten ([] : List va_W))) [5, 6, 7] rfl
      have hC : [5, 6, 7].map (fun i => (List.flatten [(wState qS k vS (zput nS 0 1 nz4) (zput aS 0 2 az5))] ++ List.flatten ([] : List va_W))[i]?) = (List.flatten [(wMem (fun i => qS (i + 5)) k (fun i => nS (i + 1)) (fun i => aS (i + 2)))] ++ List.flatten ([] : List va_W)).map some := rfl
      have hDc := hD.sub [5, 6, 7] (by decide) hC
      have hFc := va_free hD hS hA [5, 6, 7] hC
      refine va_callv (va_runV (As := [.int p1]) (rest := []) ⟨hx, hb, hml, hown, hts⟩ (c_X2_chill l dC dI k H.size (fun i => qS (i + 5)) (fun i => nS (i + 1)) (fun i => aS (i + 2)) p1 (fun i => hnS (i + 1))) (cwV 1 hts (gk_V (wl_mem 1 rfl) (wl_mem 2 rfl) (wl_mem 3 rfl) (wl_mem 4 rfl) (fun w h => List.mem_cons_of_mem _ (List.mem_append_right _ (List.mem_append_right _ (List.mem_append_left _ h)))) wkg_c_X2_chill) rfl rfl rfl (by decide +kernel) ⟨Nat.le_of_ble_eq_true rfl, Nat.le_of_ble_eq_true rfl⟩) ⟨fun a U g mk q => by obtain ⟨q0, q1, qP, qK, qD⟩ := q; exact ⟨q0, q1, qP, va_K.moved (u := U) (U := U.calling g mk a) (Vm.Alike.refl U.vm) qK, qD⟩, va_recv hK hPc (ci := 2) (q0 := 0) rfl rfl, fun U hU hW => ⟨rfl, by rw [hU], by rw [hU]; exact hPc, va_K.moved hW.alike hK, hDc.weaken (fun _ _ _ _ => trivial)⟩⟩ rfl rfl hl.1 rfl (lv_room (Nat.le_of_ble_eq_true rfl)) dX7_chill_14 ⟨Nat.le_of_ble_eq_true rfl, Nat.le_of_ble_eq_true rfl⟩) hS (fun q _ h => hFc q h) hFc (fun u t H1 locs ht hvm gz7 hB hz1 hk1 hS => ?_)
      obtain ⟨nz9, az10, hnz9, hP1⟩ := hB
      rw [ht] at hP1
      obtain ⟨hP, hD⟩ := w_call hP hD [5, 6, 7] hC hk1 hP1 rfl (by decide)
      clear hPc hC hDc hFc hk1 hP1
      generalize H1 = H at hP hS ⊢
      have hP : va_P (dC, dI) vwCl (List.flatten [(wState qS k vS (zput (zput nS 0 1 nz4) 1 1 nz9) (zput (zput aS 0 2 az5) 2 2 az10))] ++ List.flatten ([] : List va_W)) H := hP
      have hD : va_D A (List.flatten [(wState qS k vS (zput (zput nS 0 1 nz4) 1 1 nz9) (zput (zput aS 0 2 az5) 2 2 az10))] ++ List.flatten ([] : List va_W)) := hD
      refine W.widen (k := 0) (n := 0) (Nat.le_refl 0) (Nat.le_refl 0) ?_
      refine lv_iinc (v := 2) (lv' := [(2, .int 2), (0, .ref (qS 0)), (1, .int p1)]) hx hb dX7_chill_17 hl (k := 0) rfl (by decide) (by decide) rfl (fun ls hl => ?_)
      refine lv_goto (tgt := 2) hx hb dX7_chill_20 (by decide) ?_
      refine lv_iload_n hx hb dX7_chill_2 rfl (lv_at hl 0 rfl) ?_
      refine lv_iconst (v := 3) hx hb dX7_chill_3 (by decide) ?_
      refine lv_icmp_ge (tgt := 23) hx hb dX7_chill_4 (by decide) (fun cz11 => ?_) (fun cz11 => ?_)
      · skip
        exact absurd cz11 (by decide)
      · skip
        refine lv_aload_n hx hb dX7_chill_7 rfl (lv_at hl 1 rfl) ?_
        refine va_get (D := (dC, dI)) (ci := 7) (v := .ref (qS 1)) (C := RX7) (T := TX7) (N := 9) hx hb hts (fun w h => List.mem_cons_of_mem _ (List.mem_append_right _ (List.mem_append_left _ h))) hown hK hP 0 rfl rfl 0 (by decide) (hts (.fieldLink RX7 11 "SagMemory$State" "memories" "[LSagMemory$Memory;") (wl_mem 0 rfl)) (fun _ h9 => h9) rfl dX7_chill_8 ?_
        refine lv_iload_n hx hb dX7_chill_11 rfl (lv_at hl 0 rfl) ?_
        refine va_aldq hx hb hK hP 1 4 rfl rfl (by unfold vp_in; decide) dX7_chill_12 ?_
        refine W.eq (g2 := F0 m 13 ls [.ref (qS 8)]) rfl ?_
        refine lv_iload_n hx hb dX7_chill_13 rfl (lv_at hl 2 rfl) ?_
        have hPc := hP.sub (ws' := (List.flatten [(wMem (fun i => qS (i + 8)) k (fun i => nS (i + 2)) (fun i => aS (i + 4)))] ++ List.flatten ([] : List va_W))) [8, 9, 10] rfl
        have hC : [8, 9, 10].map (fun i => (List.flatten [(wState qS k vS (zput (zput nS 0 1 nz4) 1 1 nz9) (zput (zput aS 0 2 az5) 2 2 az10))] ++ List.flatten ([] : List va_W))[i]?) = (List.flatten [(wMem (fun i => qS (i + 8)) k (fun i => nS (i + 2)) (fun i => aS (i + 4)))] ++ List.flatten ([] : List va_W)).map some := rfl
        have hDc := hD.sub [8, 9, 10] (by decide) hC
        have hFc := va_free hD hS hA [8, 9, 10] hC
        refine va_callv (va_runV (As := [.int p1]) (rest := []) ⟨hx, hb, hml, hown, hts⟩ (c_X2_chill l dC dI k H.size (fun i => qS (i + 8)) (fun i => nS (i + 2)) (fun i => aS (i + 4)) p1 (fun i => hnS (i + 2))) (cwV 1 hts (gk_V (wl_mem 1 rfl) (wl_mem 2 rfl) (wl_mem 3 rfl) (wl_mem 4 rfl) (fun w h => List.mem_cons_of_mem _ (List.mem_append_right _ (List.mem_append_right _ (List.mem_append_left _ h)))) wkg_c_X2_chill) rfl rfl rfl (by decide +kernel) ⟨Nat.le_of_ble_eq_true rfl, Nat.le_of_ble_eq_true rfl⟩) ⟨fun a U g mk q => by obtain ⟨q0, q1, qP, qK, qD⟩ := q; exact ⟨q0, q1, qP, va_K.moved (u := U) (U := U.calling g mk a) (Vm.Alike.refl U.vm) qK, qD⟩, va_recv hK hPc (ci := 2) (q0 := 0) rfl rfl, fun U hU hW => ⟨rfl, by rw [hU], by rw [hU]; exact hPc, va_K.moved hW.alike hK, hDc.weaken (fun _ _ _ _ => trivial)⟩⟩ rfl rfl hl.1 rfl (lv_room (Nat.le_of_ble_eq_true rfl)) dX7_chill_14 ⟨Nat.le_of_ble_eq_true rfl, Nat.le_of_ble_eq_true rfl⟩) hS (fun q _ h => hFc q h) hFc (fun u t H1 locs ht hvm gz12 hB hz1 hk1 hS => ?_)
        obtain ⟨nz14, az15, hnz14, hP1⟩ := hB
        rw [ht] at hP1
        obtain ⟨hP, hD⟩ := w_call hP hD [8, 9, 10] hC hk1 hP1 rfl (by decide)
        clear hPc hC hDc hFc hk1 hP1
        generalize H1 = H at hP hS ⊢
        have hP : va_P (dC, dI) vwCl (List.flatten [(wState qS k vS (zput (zput (zput nS 0 1 nz4) 1 1 nz9) 2 1 nz14) (zput (zput (zput aS 0 2 az5) 2 2 az10) 4 2 az15))] ++ List.flatten ([] : List va_W)) H := hP
        have hD : va_D A (List.flatten [(wState qS k vS (zput (zput (zput nS 0 1 nz4) 1 1 nz9) 2 1 nz14) (zput (zput (zput aS 0 2 az5) 2 2 az10) 4 2 az15))] ++ List.flatten ([] : List va_W)) := hD
        refine W.widen (k := 0) (n := 0) (Nat.le_refl 0) (Nat.le_refl 0) ?_
        refine lv_iinc (v := 3) (lv' := [(2, .int 3), (0, .ref (qS 0)), (1, .int p1)]) hx hb dX7_chill_17 hl (k := 0) rfl (by decide) (by decide) rfl (fun ls hl => ?_)
        refine lv_goto (tgt := 2) hx hb dX7_chill_20 (by decide) ?_
        refine lv_iload_n hx hb dX7_chill_2 rfl (lv_at hl 0 rfl) ?_
        refine lv_iconst (v := 3) hx hb dX7_chill_3 (by decide) ?_
        refine lv_icmp_ge (tgt := 23) hx hb dX7_chill_4 (by decide) (fun cz16 => ?_) (fun cz16 => ?_)
        · skip
          rw [hQ]
          exact W.vret hx hb hr (fun t ht hW => ⟨⟨(), rfl, trivial, vS, (zput (zput (zput nS 0 1 nz4) 1 1 nz9) 2 1 nz14), (zput (zput (zput aS 0 2 az5) 2 2 az10) 4 2 az15), (rg_put (rg_put (rg_put hnS hnz4) hnz9) hnz14), by rw [ht]; exact hP⟩, hS.F ht⟩) hS.2.2 dX7_chill_23
        · skip
          exact absurd cz16 (by decide)
def wk_c_X7_isBroken : List Cond := .code yX7_isBroken cX7_isBroken 2 (some .boolean) :: ([.fieldLink RX7 29 "SagMemory$State" "ruined" "I"] ++ (wsX70 ++ []))
theorem wkg_c_X7_isBroken : wk_c_X7_isBroken.all goodWord = true := by decide +kernel
set_option maxHeartbeats 4000000 in
set_option maxRecDepth 100000 in
theorem c_X7_isBroken (l : Launch) (dC : Nat → ClassId) (dI : Nat → Nat → Nat) (k : Nat → ClassId) (qS : Nat → Nat) (vS : Nat → Int32) (nS : Nat → Int32) (aS : Nat → Nat → Int32) (p1 : Int32) (hnS : Rg 0 8 nS) : Met l yX7_isBroken wk_c_X7_isBroken ({ frames := 0, cells := 0, slots := 0, locals := 0 }) (va_Pc [.ref (qS 0), .int p1] (fun U => va_P (dC, dI) vwCl (List.flatten [(wState qS k vS nS aS)]) U.heap ∧ va_K (dC, dI) vwCl (tK k) U)) (vp_Si (fun r : Int32 => (r.toInt = 0 ∨ r.toInt = 1))) 0 0 (fun _ => False) := by
  refine Met.ofW (cc := cX7_isBroken) (maxL := 2) (ret := (some .boolean)) (by decide) rfl ?_
  intro p e s m args below meth c s₁ B hml hv
  obtain ⟨rfl, hP, hK⟩ := hv
  have hx := B.exec
  have hb := B.bytes
  have hr := B.returns
  have hts := atoms_spec (ws := wk_c_X7_isBroken) B.pre
  have hown : s.vm.findClass RX7 = some m.cls := findClass_of_methodNamed B.named
  have hlocks := B.notSynchronized
  have hP : va_P (dC, dI) vwCl (List.flatten [(wState qS k vS nS aS)]) s.heap := hP
  have hl := lv_entry ([.ref (qS 0), .int p1]) (n := 2) (Nat.le_of_ble_eq_true rfl)
  rw [lg_entry_eq]
  generalize (lg_sl ([.ref (qS 0), .int p1]) ++ List.replicate (2 - (lg_sl ([.ref (qS 0), .int p1])).length) Slot.unset).toArray = ls at hl ⊢
  have hl : lv_has ls 2 [(0, .ref (qS 0)), (1, .int p1)] := hl
  refine w_gen (fun Q hQ => ?_)
  refine lv_aload_n hx hb dX7_isBroken_0 rfl (lv_at hl 0 rfl) ?_
  refine va_get (D := (dC, dI)) (ci := 7) (v := .int (vS 0)) (C := RX7) (T := TX7) (N := 9) hx hb hts (fun w h => List.mem_cons_of_mem _ (List.mem_append_right _ (List.mem_append_left _ h))) hown hK hP 0 rfl rfl 1 (by decide) (hts (.fieldLink RX7 29 "SagMemory$State" "ruined" "I") (wl_mem 0 rfl)) (fun _ h9 => h9) rfl dX7_isBroken_1 ?_
  refine lv_iload_n hx hb dX7_isBroken_4 rfl (lv_at hl 1 rfl) ?_
  refine lv_ishr hx hb dX7_isBroken_5 ?_
  refine lv_topi (fun xz1 exz1 => ?_)
  refine lv_iconst (v := 1) hx hb dX7_isBroken_6 (by decide) ?_
  refine lv_iand hx hb dX7_isBroken_7 ?_
  refine lv_topi (fun xz2 exz2 => ?_)
  have bxz2 : 0 ≤ xz2.toInt ∧ xz2.toInt ≤ 1 := by rw [exz2]; exact zand _ 1 2 (by decide) (by decide) (by decide)
  refine lv_if_eq (tgt := 15) hx hb dX7_isBroken_8 (by decide) (fun cz3 => ?_) (fun cz3 => ?_)
  · skip
    have zz4 : xz2.toInt = (0 : Int) := zi_eq.mp cz3
    refine lv_iconst (v := 0) hx hb dX7_isBroken_15 (by decide) ?_
    rw [hQ]
    exact W.zret (v := (0 : Int32)) hx hb hr rfl (fun t ht hW => ⟨(0 : Int32), rfl, (by show (0 : Int) = 0 ∨ (0 : Int) = 1; omega), ht⟩) (fun _ h => absurd h List.not_mem_nil) dX7_isBroken_16
  · skip
    have zz5 : ¬ xz2.toInt = (0 : Int) := fun h9 => cz3 (zi_eq.mpr h9)
    refine lv_iconst (v := 1) hx hb dX7_isBroken_11 (by decide) ?_
    refine lv_goto (tgt := 16) hx hb dX7_isBroken_12 (by decide) ?_
    rw [hQ]
    exact W.zret (v := (1 : Int32)) hx hb hr rfl (fun t ht hW => ⟨(1 : Int32), rfl, (by show (1 : Int) = 0 ∨ (1 : Int) = 1; omega), ht⟩) (fun _ h => absurd h List.not_mem_nil) dX7_isBroken_16
def wk_c_X7_together : List Cond := .code yX7_together cX7_together 3 (some .int) :: ([.fieldLink RX7 11 "SagMemory$State" "memories" "[LSagMemory$Memory;", .methodLink RX7 64 yX2_depth, .instanceMethod yX2_depth, .selects RX2 yX2_depth yX2_depth, .initialized RX2] ++ (wsX70 ++ (wk_c_X2_depth ++ [])))
theorem wkg_c_X7_together : wk_c_X7_together.all goodWord = true := by decide +kernel
set_option maxHeartbeats 4000000 in
set_option maxRecDepth 100000 in
theorem c_X7_together (l : Launch) (dC : Nat → ClassId) (dI : Nat → Nat → Nat) (k : Nat → ClassId) (qS : Nat → Nat) (vS : Nat → Int32) (nS : Nat → Int32) (aS : Nat → Nat → Int32) (hnS : Rg 0 8 nS) : Met l yX7_together wk_c_X7_together ({ frames := 1, cells := 0, slots := 0, locals := 22 }) (va_Pc [.ref (qS 0)] (fun U => va_P (dC, dI) vwCl (List.flatten [(wState qS k vS nS aS)]) U.heap ∧ va_K (dC, dI) vwCl (tK k) U)) (vp_Si (fun r : Int32 => True)) 0 0 (fun _ => False) := by
  refine Met.ofW (cc := cX7_together) (maxL := 3) (ret := (some .int)) (by decide) rfl ?_
  intro p e s m args below meth c s₁ B hml hv
  obtain ⟨rfl, hP, hK⟩ := hv
  have hx := B.exec
  have hb := B.bytes
  have hr := B.returns
  have hts := atoms_spec (ws := wk_c_X7_together) B.pre
  have hown : s.vm.findClass RX7 = some m.cls := findClass_of_methodNamed B.named
  have hlocks := B.notSynchronized
  have hP : va_P (dC, dI) vwCl (List.flatten [(wState qS k vS nS aS)]) s.heap := hP
  have hl := lv_entry ([.ref (qS 0)]) (n := 3) (Nat.le_of_ble_eq_true rfl)
  rw [lg_entry_eq]
  generalize (lg_sl ([.ref (qS 0)]) ++ List.replicate (3 - (lg_sl ([.ref (qS 0)])).length) Slot.unset).toArray = ls at hl ⊢
  have hl : lv_has ls 3 [(0, .ref (qS 0))] := hl
  refine w_gen (fun Q hQ => ?_)
  refine lv_iconst (v := 0) hx hb dX7_together_0 (by decide) ?_
  refine lv_istore_n (lv' := [(1, .int 0), (0, .ref (qS 0))]) hx hb dX7_together_1 rfl hl (by decide) rfl (fun ls hl => ?_)
  refine lv_iconst (v := 0) hx hb dX7_together_2 (by decide) ?_
  refine lv_istore_n (lv' := [(2, .int 0), (1, .int 0), (0, .ref (qS 0))]) hx hb dX7_together_3 rfl hl (by decide) rfl (fun ls hl => ?_)
  refine lv_iload_n hx hb dX7_together_4 rfl (lv_at hl 0 rfl) ?_
  refine lv_iconst (v := 3) hx hb dX7_together_5 (by decide) ?_
  refine lv_icmp_ge (tgt := 27) hx hb dX7_together_6 (by decide) (fun cz1 => ?_) (fun cz1 => ?_)
  · skip
    exact absurd cz1 (by decide)
  · skip
    refine lv_iload_n hx hb dX7_together_9 rfl (lv_at hl 1 rfl) ?_
    refine lv_aload_n hx hb dX7_together_10 rfl (lv_at hl 2 rfl) ?_
    refine va_get (D := (dC, dI)) (ci := 7) (v := .ref (qS 1)) (C := RX7) (T := TX7) (N := 9) hx hb hts (fun w h => List.mem_cons_of_mem _ (List.mem_append_right _ (List.mem_append_left _ h))) hown hK hP 0 rfl rfl 0 (by decide) (hts (.fieldLink RX7 11 "SagMemory$State" "memories" "[LSagMemory$Memory;") (wl_mem 0 rfl)) (fun _ h9 => h9) rfl dX7_together_11 ?_
    refine lv_iload_n hx hb dX7_together_14 rfl (lv_at hl 0 rfl) ?_
    refine va_aldq hx hb hK hP 1 4 rfl rfl (by unfold vp_in; decide) dX7_together_15 ?_
    refine W.eq (g2 := F0 m 16 ls [.ref (qS 2), .int 0]) rfl ?_
    have hPc := hP.sub (ws' := (List.flatten [(wMem (fun i => qS (i + 2)) k nS aS)])) [2, 3, 4] rfl
    refine vp_callSi (va_Run.run (va_runV (As := []) (rest := [.int 0]) ⟨hx, hb, hml, hown, hts⟩ (c_X2_depth l dC dI k (fun i => qS (i + 2)) nS aS hnS) (cwV 0 hts (gk_V (wl_mem 1 rfl) (wl_mem 2 rfl) (wl_mem 3 rfl) (wl_mem 4 rfl) (fun w h => List.mem_cons_of_mem _ (List.mem_append_right _ (List.mem_append_right _ (List.mem_append_left _ h)))) wkg_c_X2_depth) rfl rfl rfl (by decide +kernel) ⟨Nat.le_of_ble_eq_true rfl, Nat.le_of_ble_eq_true rfl⟩) ⟨fun a U g mk q => by obtain ⟨q0, qP, qK⟩ := q; exact ⟨q0, qP, va_K.moved (u := U) (U := U.calling g mk a) (Vm.Alike.refl U.vm) qK⟩, va_recv hK hPc (ci := 2) (q0 := 0) rfl rfl, fun U hU hW => ⟨rfl, by rw [hU]; exact hPc, va_K.moved hW.alike hK⟩⟩ rfl rfl hl.1 rfl (lv_room (Nat.le_of_ble_eq_true rfl)) dX7_together_16 ⟨Nat.le_of_ble_eq_true rfl, Nat.le_of_ble_eq_true rfl⟩)) (fun rz3 gz2 => ?_)
    clear hPc
    refine lv_iadd hx hb dX7_together_19 ?_
    have bz4 := fb_rng rz3
    refine lv_topi (fun xz5 exz5 => ?_)
    have fxz5 : xz5.toInt = (0 : Int) + rz3.toInt := by rw [exz5]; exact fb_addI (x := (0 : Int32)) (y := rz3) (by show -2147483648 ≤ (0 : Int) + rz3.toInt; omega) (by show (0 : Int) + rz3.toInt < 2147483648; omega)
    refine lv_istore_n (lv' := [(1, .int xz5), (2, .int 0), (0, .ref (qS 0))]) hx hb dX7_together_20 rfl hl (by decide) rfl (fun ls hl => ?_)
    refine lv_iinc (v := 1) (lv' := [(2, .int 1), (1, .int xz5), (0, .ref (qS 0))]) hx hb dX7_together_21 hl (k := 1) rfl (by decide) (by decide) rfl (fun ls hl => ?_)
    refine lv_goto (tgt := 4) hx hb dX7_together_24 (by decide) ?_
    refine lv_iload_n hx hb dX7_together_4 rfl (lv_at hl 0 rfl) ?_
    refine lv_iconst (v := 3) hx hb dX7_together_5 (by decide) ?_
    refine lv_icmp_ge (tgt := 27) hx hb dX7_together_6 (by decide) (fun cz6 => ?_) (fun cz6 => ?_)
    · skip
      exact absurd cz6 (by decide)
    · skip
      refine lv_iload_n hx hb dX7_together_9 rfl (lv_at hl 1 rfl) ?_
      refine lv_aload_n hx hb dX7_together_10 rfl (lv_at hl 2 rfl) ?_
      refine va_get (D := (dC, dI)) (ci := 7) (v := .ref (qS 1)) (C := RX7) (T := TX7) (N := 9) hx hb hts (fun w h => List.mem_cons_of_mem _ (List.mem_append_right _ (List.mem_append_left _ h))) hown hK hP 0 rfl rfl 0 (by decide) (hts (.fieldLink RX7 11 "SagMemory$State" "memories" "[LSagMemory$Memory;") (wl_mem 0 rfl)) (fun _ h9 => h9) rfl dX7_together_11 ?_
      refine lv_iload_n hx hb dX7_together_14 rfl (lv_at hl 0 rfl) ?_
      refine va_aldq hx hb hK hP 1 4 rfl rfl (by unfold vp_in; decide) dX7_together_15 ?_
      refine W.eq (g2 := F0 m 16 ls [.ref (qS 5), .int xz5]) rfl ?_
      have hPc := hP.sub (ws' := (List.flatten [(wMem (fun i => qS (i + 5)) k (fun i => nS (i + 1)) (fun i => aS (i + 2)))])) [5, 6, 7] rfl
      refine vp_callSi (va_Run.run (va_runV (As := []) (rest := [.int xz5]) ⟨hx, hb, hml, hown, hts⟩ (c_X2_depth l dC dI k (fun i => qS (i + 5)) (fun i => nS (i + 1)) (fun i => aS (i + 2)) (fun i => hnS (i + 1))) (cwV 0 hts (gk_V (wl_mem 1 rfl) (wl_mem 2 rfl) (wl_mem 3 rfl) (wl_mem 4 rfl) (fun w h => List.mem_cons_of_mem _ (List.mem_append_right _ (List.mem_append_right _ (List.mem_append_left _ h)))) wkg_c_X2_depth) rfl rfl rfl (by decide +kernel) ⟨Nat.le_of_ble_eq_true rfl, Nat.le_of_ble_eq_true rfl⟩) ⟨fun a U g mk q => by obtain ⟨q0, qP, qK⟩ := q; exact ⟨q0, qP, va_K.moved (u := U) (U := U.calling g mk a) (Vm.Alike.refl U.vm) qK⟩, va_recv hK hPc (ci := 2) (q0 := 0) rfl rfl, fun U hU hW => ⟨rfl, by rw [hU]; exact hPc, va_K.moved hW.alike hK⟩⟩ rfl rfl hl.1 rfl (lv_room (Nat.le_of_ble_eq_true rfl)) dX7_together_16 ⟨Nat.le_of_ble_eq_true rfl, Nat.le_of_ble_eq_true rfl⟩)) (fun rz8 gz7 => ?_)
      clear hPc
      refine lv_iadd hx hb dX7_together_19 ?_
      refine lv_topi (fun xz9 exz9 => ?_)
      refine lv_istore_n (lv' := [(1, .int xz9), (2, .int 1), (0, .ref (qS 0))]) hx hb dX7_together_20 rfl hl (by decide) rfl (fun ls hl => ?_)
      refine lv_iinc (v := 2) (lv' := [(2, .int 2), (1, .int xz9), (0, .ref (qS 0))]) hx hb dX7_together_21 hl (k := 1) rfl (by decide) (by decide) rfl (fun ls hl => ?_)
      refine lv_goto (tgt := 4) hx hb dX7_together_24 (by decide) ?_
      refine lv_iload_n hx hb dX7_together_4 rfl (lv_at hl 0 rfl) ?_
      refine lv_iconst (v := 3) hx hb dX7_together_5 (by decide) ?_
      refine lv_icmp_ge (tgt := 27) hx hb dX7_together_6 (by decide) (fun cz10 => ?_) (fun cz10 => ?_)
      · skip
        exact absurd cz10 (by decide)
      · skip
        refine lv_iload_n hx hb dX7_together_9 rfl (lv_at hl 1 rfl) ?_
        refine lv_aload_n hx hb dX7_together_10 rfl (lv_at hl 2 rfl) ?_
        refine va_get (D := (dC, dI)) (ci := 7) (v := .ref (qS 1)) (C := RX7) (T := TX7) (N := 9) hx hb hts (fun w h => List.mem_cons_of_mem _ (List.mem_append_right _ (List.mem_append_left _ h))) hown hK hP 0 rfl rfl 0 (by decide) (hts (.fieldLink RX7 11 "SagMemory$State" "memories" "[LSagMemory$Memory;") (wl_mem 0 rfl)) (fun _ h9 => h9) rfl dX7_together_11 ?_
        refine lv_iload_n hx hb dX7_together_14 rfl (lv_at hl 0 rfl) ?_
        refine va_aldq hx hb hK hP 1 4 rfl rfl (by unfold vp_in; decide) dX7_together_15 ?_
        refine W.eq (g2 := F0 m 16 ls [.ref (qS 8), .int xz9]) rfl ?_
        have hPc := hP.sub (ws' := (List.flatten [(wMem (fun i => qS (i + 8)) k (fun i => nS (i + 2)) (fun i => aS (i + 4)))])) [8, 9, 10] rfl
        refine vp_callSi (va_Run.run (va_runV (As := []) (rest := [.int xz9]) ⟨hx, hb, hml, hown, hts⟩ (c_X2_depth l dC dI k (fun i => qS (i + 8)) (fun i => nS (i + 2)) (fun i => aS (i + 4)) (fun i => hnS (i + 2))) (cwV 0 hts (gk_V (wl_mem 1 rfl) (wl_mem 2 rfl) (wl_mem 3 rfl) (wl_mem 4 rfl) (fun w h => List.mem_cons_of_mem _ (List.mem_append_right _ (List.mem_append_right _ (List.mem_append_left _ h)))) wkg_c_X2_depth) rfl rfl rfl (by decide +kernel) ⟨Nat.le_of_ble_eq_true rfl, Nat.le_of_ble_eq_true rfl⟩) ⟨fun a U g mk q => by obtain ⟨q0, qP, qK⟩ := q; exact ⟨q0, qP, va_K.moved (u := U) (U := U.calling g mk a) (Vm.Alike.refl U.vm) qK⟩, va_recv hK hPc (ci := 2) (q0 := 0) rfl rfl, fun U hU hW => ⟨rfl, by rw [hU]; exact hPc, va_K.moved hW.alike hK⟩⟩ rfl rfl hl.1 rfl (lv_room (Nat.le_of_ble_eq_true rfl)) dX7_together_16 ⟨Nat.le_of_ble_eq_true rfl, Nat.le_of_ble_eq_true rfl⟩)) (fun rz12 gz11 => ?_)
        clear hPc
        refine lv_iadd hx hb dX7_together_19 ?_
        refine lv_topi (fun xz13 exz13 => ?_)
        refine lv_istore_n (lv' := [(1, .int xz13), (2, .int 2), (0, .ref (qS 0))]) hx hb dX7_together_20 rfl hl (by decide) rfl (fun ls hl => ?_)
        refine lv_iinc (v := 3) (lv' := [(2, .int 3), (1, .int xz13), (0, .ref (qS 0))]) hx hb dX7_together_21 hl (k := 1) rfl (by decide) (by decide) rfl (fun ls hl => ?_)
        refine lv_goto (tgt := 4) hx hb dX7_together_24 (by decide) ?_
        refine lv_iload_n hx hb dX7_together_4 rfl (lv_at hl 0 rfl) ?_
        refine lv_iconst (v := 3) hx hb dX7_together_5 (by decide) ?_
        refine lv_icmp_ge (tgt := 27) hx hb dX7_together_6 (by decide) (fun cz14 => ?_) (fun cz14 => ?_)
        · skip
          refine lv_iload_n hx hb dX7_together_27 rfl (lv_at hl 1 rfl) ?_
          rw [hQ]
          exact W.iret (v := xz13) hx hb hr (fun t ht hW => ⟨xz13, rfl, trivial, ht⟩) (fun _ h => absurd h List.not_mem_nil) dX7_together_28
        · skip
          exact absurd cz14 (by decide)
def wk_c_X7_loss : List Cond := .code yX7_loss cX7_loss 1 (some .int) :: ([.fieldLink RX7 21 "SagMemory$State" "went" "I", .fieldLink RX7 51 "SagMemory$State" "paid" "I"] ++ (wsX70 ++ []))
theorem wkg_c_X7_loss : wk_c_X7_loss.all goodWord = true := by decide +kernel
set_option maxHeartbeats 4000000 in
set_option maxRecDepth 100000 in
theorem c_X7_loss (l : Launch) (dC : Nat → ClassId) (dI : Nat → Nat → Nat) (k : Nat → ClassId) (qS : Nat → Nat) (vS : Nat → Int32) (nS : Nat → Int32) (aS : Nat → Nat → Int32) (hnS : Rg 0 8 nS) : Met l yX7_loss wk_c_X7_loss ({ frames := 0, cells := 0, slots := 0, locals := 0 }) (va_Pc [.ref (qS 0)] (fun U => va_P (dC, dI) vwCl (List.flatten [(wState qS k vS nS aS)]) U.heap ∧ va_K (dC, dI) vwCl (tK k) U)) (vp_Si (fun r : Int32 => True)) 0 0 (fun _ => False) := by
  refine Met.ofW (cc := cX7_loss) (maxL := 1) (ret := (some .int)) (by decide) rfl ?_
  intro p e s m args below meth c s₁ B hml hv
  obtain ⟨rfl, hP, hK⟩ := hv
  have hx := B.exec
  have hb := B.bytes
  have hr := B.returns
  have hts := atoms_spec (ws := wk_c_X7_loss) B.pre
  have hown : s.vm.findClass RX7 = some m.cls := findClass_of_methodNamed B.named
  have hlocks := B.notSynchronized
  have hP : va_P (dC, dI) vwCl (List.flatten [(wState qS k vS nS aS)]) s.heap := hP
  have hl := lv_entry ([.ref (qS 0)]) (n := 1) (Nat.le_of_ble_eq_true rfl)
  rw [lg_entry_eq]
  generalize (lg_sl ([.ref (qS 0)]) ++ List.replicate (1 - (lg_sl ([.ref (qS 0)])).length) Slot.unset).toArray = ls at hl ⊢
  have hl : lv_has ls 1 [(0, .ref (qS 0))] := hl
  refine w_gen (fun Q hQ => ?_)
  refine lv_aload_n hx hb dX7_loss_0 rfl (lv_at hl 0 rfl) ?_
  refine va_get (D := (dC, dI)) (ci := 7) (v := .int (vS 3)) (C := RX7) (T := TX7) (N := 9) hx hb hts (fun w h => List.mem_cons_of_mem _ (List.mem_append_right _ (List.mem_append_left _ h))) hown hK hP 0 rfl rfl 4 (by decide) (hts (.fieldLink RX7 21 "SagMemory$State" "went" "I") (wl_mem 0 rfl)) (fun _ h9 => h9) rfl dX7_loss_1 ?_
  refine lv_iconst (v := (-1)) hx hb dX7_loss_4 (by decide) ?_
  refine lv_icmp_ne (tgt := 13) hx hb dX7_loss_5 (by decide) (fun cz1 => ?_) (fun cz1 => ?_)
  · skip
    have zz2 : ¬ (vS 3).toInt = (-1 : Int) := fun h9 => cz1 (zi_eq.mpr h9)
    refine lv_aload_n hx hb dX7_loss_13 rfl (lv_at hl 0 rfl) ?_
    refine va_get (D := (dC, dI)) (ci := 7) (v := .int (vS 6)) (C := RX7) (T := TX7) (N := 9) hx hb hts (fun w h => List.mem_cons_of_mem _ (List.mem_append_right _ (List.mem_append_left _ h))) hown hK hP 0 rfl rfl 7 (by decide) (hts (.fieldLink RX7 51 "SagMemory$State" "paid" "I") (wl_mem 1 rfl)) (fun _ h9 => h9) rfl dX7_loss_14 ?_
    rw [hQ]
    exact W.iret (v := (vS 6)) hx hb hr (fun t ht hW => ⟨(vS 6), rfl, trivial, ht⟩) (fun _ h => absurd h List.not_mem_nil) dX7_loss_17
  · skip
    have zz3 : (vS 3).toInt = (-1 : Int) := zi_eq.mp cz1
    refine lv_bipush (v := 9) hx hb dX7_loss_8 (by decide) ?_
    refine lv_goto (tgt := 17) hx hb dX7_loss_10 (by decide) ?_
    rw [hQ]
    exact W.iret (v := (9 : Int32)) hx hb hr (fun t ht hW => ⟨(9 : Int32), rfl, trivial, ht⟩) (fun _ h => absurd h List.not_mem_nil) dX7_loss_17
def wk_c_X7_meet : List Cond := .code yX7_meet cX7_meet 9 none :: ([.methodLink RX7 39 yX10_target, .instanceMethod yX10_target, .selects RX10 yX10_target yX10_target, .initialized RX10, .fieldLink RX7 17 "SagMemory$State" "came" "I", .fieldLink RX7 21 "SagMemory$State" "went" "I", .fieldLink RX7 45 "SagMemory$State" "more" "I", .fieldLink RX7 48 "SagMemory$State" "noise" "I", .fieldLink RX7 51 "SagMemory$State" "paid" "I", .fieldLink RX7 54 "SagMemory$State" "wiped" "I", .methodLink RX7 57 yX10_hasBridge, .instanceMethod yX10_hasBridge, .selects RX10 yX10_hasBridge yX10_hasBridge, .methodLink RX7 61 yX7_isBroken, .instanceMethod yX7_isBroken, .selects RX7 yX7_isBroken yX7_isBroken, .initialized RX7, .fieldLink RX7 11 "SagMemory$State" "memories" "[LSagMemory$Memory;", .methodLink RX7 64 yX2_depth, .instanceMethod yX2_depth, .selects RX2 yX2_depth yX2_depth, .initialized RX2, .fieldLink RX7 68 "SagMemory$Memory" "size" "I", .methodLink RX7 71 yX2_heaviest, .instanceMethod yX2_heaviest, .selects RX2 yX2_heaviest yX2_heaviest, .methodLink RX7 75 Lib.Math.max.name, .static Lib.Math.max.name, .initialized "java/lang/Math", .code Lib.Math.max.name Lib.Math.max.code 2 (some .int), .methodLink RX7 80 yX2_pass, .instanceMethod yX2_pass, .selects RX2 yX2_pass yX2_pass, .fieldLink RX7 84 "SagMemory$Valley" "tolls" "[I", .fieldLink RX7 32 "SagMemory$State" "crossed" "I", .fieldLink RX7 88 "SagMemory$Valley" "holds" "[I", .fieldLink RX7 29 "SagMemory$State" "ruined" "I"] ++ (wk_c_X10_target ++ (wsX70 ++ (wk_c_X10_hasBridge ++ (wk_c_X7_isBroken ++ (wk_c_X2_depth ++ (wsX20 ++ (wk_c_X2_heaviest ++ (wk_c_X2_pass ++ (wsX100 ++ []))))))))))
theorem wkg_c_X7_meet : wk_c_X7_meet.all goodWord = true := by decide +kernel
set_option maxHeartbeats 4000000 in
set_option maxRecDepth 100000 in
theorem c_X7_meet (l : Launch) (dC : Nat → ClassId) (dI : Nat → Nat → Nat) (k : Nat → ClassId) (sz : Nat) (qS : Nat → Nat) (vS : Nat → Int32) (nS : Nat → Int32) (aS : Nat → Nat → Int32) (qV : Nat → Nat) (vV : Nat → Int32) (bV : Nat → Int32) (cV : Nat → Int32) (wV : Nat → Int32) (aV : Nat → Nat → Int32) (eV : Nat → Nat → Int32) (p2 : Int32) (p3 : Int32) (p4 : Int32) (p5 : Int32) (hnS : Rg 0 8 nS) (hbV : Rg 0 3 bV) (hcV : Rg 0 7 cV) (hwV : Rg 0 5 wV) (heV : RgA 0 99 eV) (hp0 : 0 ≤ p4.toInt ∧ p4.toInt ≤ 99) : Met l yX7_meet wk_c_X7_meet ({ frames := 1, cells := 0, slots := 0, locals := 80 }) (va_Pc [.ref (qS 0), .ref (qV 0), .int p2, .int p3, .int p4, .int p5] (fun U => U.heap.size = sz ∧ va_P (dC, dI) vwCl (List.flatten [(wState qS k vS nS aS)] ++ List.flatten [(wValley qV k vV bV cV wV aV eV)]) U.heap ∧ va_K (dC, dI) vwCl (tK k) U ∧ va_D (fun _ => True) (List.flatten [(wState qS k vS nS aS)] ++ List.flatten [(wValley qV k vV bV cV wV aV eV)]))) (va_Qv (fun _ : Unit => True) (fun (_ : Unit) (t : State) => ∃ (vS' : Nat → Int32) (nS' : Nat → Int32) (aS' : Nat → Nat → Int32), Rg 0 8 nS' ∧ va_P (dC, dI) vwCl (List.flatten [(wState qS k vS' nS' aS')] ++ List.flatten [(wValley qV k vV bV cV wV aV eV)]) t.heap) (va_A (List.flatten [(wState qS k vS nS aS)] ++ List.flatten [(wValley qV k vV bV cV wV aV eV)]) sz)) 0 0 (va_A (List.flatten [(wState qS k vS nS aS)] ++ List.flatten [(wValley qV k vV bV cV wV aV eV)]) sz) := by
  refine Met.ofW (cc := cX7_meet) (maxL := 9) (ret := none) (by decide) rfl ?_
  intro p e s m args below meth c s₁ B hml hv
  obtain ⟨rfl, hsz, hP, hK, hD0⟩ := hv
  have hx := B.exec
  have hb := B.bytes
  have hr := B.returns
  have hts := atoms_spec (ws := wk_c_X7_meet) B.pre
  have hown : s.vm.findClass RX7 = some m.cls := findClass_of_methodNamed B.named
  have hlocks := B.notSynchronized
  subst hsz
  have hD := hD0.self (sz := s.heap.size)
  generalize hAe : va_A (List.flatten [(wState qS k vS nS aS)] ++ List.flatten [(wValley qV k vV bV cV wV aV eV)]) s.heap.size = A at hD ⊢
  have hA : ∀ q : Nat, s.heap.size ≤ q → A q := fun q h => by rw [← hAe]; exact Or.inr h
  have hS : va_S A s.heap s.heap [] := va_S.rf
  have hP : va_P (dC, dI) vwCl (List.flatten [(wState qS k vS nS aS)] ++ List.flatten [(wValley qV k vV bV cV wV aV eV)]) s.heap := hP
  have hl := lv_entry ([.ref (qS 0), .ref (qV 0), .int p2, .int p3, .int p4, .int p5]) (n := 9) (Nat.le_of_ble_eq_true rfl)
  rw [lg_entry_eq]
  generalize (lg_sl ([.ref (qS 0), .ref (qV 0), .int p2, .int p3, .int p4, .int p5]) ++ List.replicate (9 - (lg_sl ([.ref (qS 0), .ref (qV 0), .int p2, .int p3, .int p4, .int p5])).length) Slot.unset).toArray = ls at hl ⊢
  have hl : lv_has ls 9 [(0, .ref (qS 0)), (1, .ref (qV 0)), (2, .int p2), (3, .int p3), (4, .int p4), (5, .int p5)] := hl
  refine w_gen (fun Q hQ => ?_)
  refine lv_aload_n hx hb dX7_meet_0 rfl (lv_at hl 0 rfl) ?_
  refine lv_iload_n hx hb dX7_meet_1 rfl (lv_at hl 3 rfl) ?_
  refine lv_iconst (v := (-1)) hx hb dX7_meet_2 (by decide) ?_
  refine lv_icmp_ne (tgt := 10) hx hb dX7_meet_3 (by decide) (fun cz137 => ?_) (fun cz137 => ?_)
  · skip
    have zz138 : ¬ p3.toInt = (-1 : Int) := fun h9 => cz137 (zi_eq.mpr h9)
    refine lv_aload_n hx hb dX7_meet_10 rfl (lv_at hl 1 rfl) ?_
    refine lv_iload_n hx hb dX7_meet_11 rfl (lv_at hl 3 rfl) ?_
    refine lv_iload hx hb dX7_meet_12 (lv_at hl 4 rfl) ?_
    have hPc := hP.sub (ws' := (List.flatten [(wValley qV k vV bV cV wV aV eV)])) [11, 12, 13, 14, 15, 16, 17, 18] rfl
    refine vp_callSi (va_Run.run (va_runV (As := [.int p3, .int p4]) (rest := [.ref (qS 0)]) ⟨hx, hb, hml, hown, hts⟩ (c_X10_target l dC dI k qV vV bV cV wV aV eV p3 p4 hbV hcV hwV heV) (cwV 2 hts (gk_V (wl_mem 0 rfl) (wl_mem 1 rfl) (wl_mem 2 rfl) (wl_mem 3 rfl) (fun w h => List.mem_cons_of_mem _ (List.mem_append_right _ (List.mem_append_left _ h))) wkg_c_X10_target) rfl rfl rfl (by decide +kernel) ⟨Nat.le_of_ble_eq_true rfl, Nat.le_of_ble_eq_true rfl⟩) ⟨fun a U g mk q => by obtain ⟨q0, qP, qK⟩ := q; exact ⟨q0, qP, va_K.moved (u := U) (U := U.calling g mk a) (Vm.Alike.refl U.vm) qK⟩, va_recv hK hPc (ci := 10) (q0 := 0) rfl rfl, fun U hU hW => ⟨rfl, by rw [hU]; exact hPc, va_K.moved hW.alike hK⟩⟩ rfl rfl hl.1 rfl (lv_room (Nat.le_of_ble_eq_true rfl)) dX7_meet_14 ⟨Nat.le_of_ble_eq_true rfl, Nat.le_of_ble_eq_true rfl⟩)) (fun rz140 gz139 => ?_)
    clear hPc
    refine va_put (D := (dC, dI)) (ci := 7) (v := .int rz140) (ty := .int) (C := RX7) (T := TX7) (N := 9) hx hb hts (fun w h => List.mem_cons_of_mem _ (List.mem_append_right _ (List.mem_append_right _ (List.mem_append_left _ h)))) tyX7 tyX7_ok nmX7 hown hK hP hD hS 0 rfl rfl 3 (by decide) (hts (.fieldLink RX7 17 "SagMemory$State" "came" "I") (wl_mem 4 rfl)) (fun _ h9 => h9) rfl (by decide +kernel) rfl rfl (Nat.le_of_ble_eq_true rfl) dX7_meet_17 (fun H locs hP hD hS => ?_)
    have hP : va_P (dC, dI) vwCl (List.flatten [(wState qS k (va_up vS 2 rz140) nS aS)] ++ List.flatten [(wValley qV k vV bV cV wV aV eV)]) H := hP
    have hD : va_D A (List.flatten [(wState qS k (va_up vS 2 rz140) nS aS)] ++ List.flatten [(wValley qV k vV bV cV wV aV eV)]) := hD
    refine lv_aload_n hx hb dX7_meet_20 rfl (lv_at hl 0 rfl) ?_
    refine lv_iconst (v := (-1)) hx hb dX7_meet_21 (by decide) ?_
    refine va_put (D := (dC, dI)) (ci := 7) (v := .int (-1)) (ty := .int) (C := RX7) (T := TX7) (N := 9) hx hb hts (fun w h => List.mem_cons_of_mem _ (List.mem_append_right _ (List.mem_append_right _ (List.mem_append_left _ h)))) tyX7 tyX7_ok nmX7 hown hK hP hD hS 0 rfl rfl 4 (by decide) (hts (.fieldLink RX7 21 "SagMemory$State" "went" "I") (wl_mem 5 rfl)) (fun _ h9 => h9) rfl (by decide +kernel) rfl rfl (Nat.le_of_ble_eq_true rfl) dX7_meet_22 (fun H locs hP hD hS => ?_)
    have hP : va_P (dC, dI) vwCl (List.flatten [(wState qS k (va_up (va_up vS 2 rz140) 3 (-1 : Int32)) nS aS)] ++ List.flatten [(wValley qV k vV bV cV wV aV eV)]) H := hP
    have hD : va_D A (List.flatten [(wState qS k (va_up (va_up vS 2 rz140) 3 (-1 : Int32)) nS aS)] ++ List.flatten [(wValley qV k vV bV cV wV aV eV)]) := hD
    refine lv_aload_n hx hb dX7_meet_25 rfl (lv_at hl 0 rfl) ?_
    refine lv_iconst (v := 0) hx hb dX7_meet_26 (by decide) ?_
    refine va_put (D := (dC, dI)) (ci := 7) (v := .int 0) (ty := .int) (C := RX7) (T := TX7) (N := 9) hx hb hts (fun w h => List.mem_cons_of_mem _ (List.mem_append_right _ (List.mem_append_right _ (List.mem_append_left _ h)))) tyX7 tyX7_ok nmX7 hown hK hP hD hS 0 rfl rfl 5 (by decide) (hts (.fieldLink RX7 45 "SagMemory$State" "more" "I") (wl_mem 6 rfl)) (fun _ h9 => h9) rfl (by decide +kernel) rfl rfl (Nat.le_of_ble_eq_true rfl) dX7_meet_27 (fun H locs hP hD hS => ?_)
    have hP : va_P (dC, dI) vwCl (List.flatten [(wState qS k (va_up (va_up (va_up vS 2 rz140) 3 (-1 : Int32)) 4 (0 : Int32)) nS aS)] ++ List.flatten [(wValley qV k vV bV cV wV aV eV)]) H := hP
    have hD : va_D A (List.flatten [(wState qS k (va_up (va_up (va_up vS 2 rz140) 3 (-1 : Int32)) 4 (0 : Int32)) nS aS)] ++ List.flatten [(wValley qV k vV bV cV wV aV eV)]) := hD
    refine lv_aload_n hx hb dX7_meet_30 rfl (lv_at hl 0 rfl) ?_
    refine lv_iconst (v := 0) hx hb dX7_meet_31 (by decide) ?_
    refine va_put (D := (dC, dI)) (ci := 7) (v := .int 0) (ty := .int) (C := RX7) (T := TX7) (N := 9) hx hb hts (fun w h => List.mem_cons_of_mem _ (List.mem_append_right _ (List.mem_append_right _ (List.mem_append_left _ h)))) tyX7 tyX7_ok nmX7 hown hK hP hD hS 0 rfl rfl 6 (by decide) (hts (.fieldLink RX7 48 "SagMemory$State" "noise" "I") (wl_mem 7 rfl)) (fun _ h9 => h9) rfl (by decide +kernel) rfl rfl (Nat.le_of_ble_eq_true rfl) dX7_meet_32 (fun H locs hP hD hS => ?_)
    have hP : va_P (dC, dI) vwCl (List.flatten [(wState qS k (va_up (va_up (va_up (va_up vS 2 rz140) 3 (-1 : Int32)) 4 (0 : Int32)) 5 (0 : Int32)) nS aS)] ++ List.flatten [(wValley qV k vV bV cV wV aV eV)]) H := hP
    have hD : va_D A (List.flatten [(wState qS k (va_up (va_up (va_up (va_up vS 2 rz140) 3 (-1 : Int32)) 4 (0 : Int32)) 5 (0 : Int32)) nS aS)] ++ List.flatten [(wValley qV k vV bV cV wV aV eV)]) := hD
    refine lv_aload_n hx hb dX7_meet_35 rfl (lv_at hl 0 rfl) ?_
    refine lv_iconst (v := 0) hx hb dX7_meet_36 (by decide) ?_
    refine va_put (D := (dC, dI)) (ci := 7) (v := .int 0) (ty := .int) (C := RX7) (T := TX7) (N := 9) hx hb hts (fun w h => List.mem_cons_of_mem _ (List.mem_append_right _ (List.mem_append_right _ (List.mem_append_left _ h)))) tyX7 tyX7_ok nmX7 hown hK hP hD hS 0 rfl rfl 7 (by decide) (hts (.fieldLink RX7 51 "SagMemory$State" "paid" "I") (wl_mem 8 rfl)) (fun _ h9 => h9) rfl (by decide +kernel) rfl rfl (Nat.le_of_ble_eq_true rfl) dX7_meet_37 (fun H locs hP hD hS => ?_)
    have hP : va_P (dC, dI) vwCl (List.flatten [(wState qS k (va_up (va_up (va_up (va_up (va_up vS 2 rz140) 3 (-1 : Int32)) 4 (0 : Int32)) 5 (0 : Int32)) 6 (0 : Int32)) nS aS)] ++ List.flatten [(wValley qV k vV bV cV wV aV eV)]) H := hP
    have hD : va_D A (List.flatten [(wState qS k (va_up (va_up (va_up (va_up (va_up vS 2 rz140) 3 (-1 : Int32)) 4 (0 : Int32)) 5 (0 : Int32)) 6 (0 : Int32)) nS aS)] ++ List.flatten [(wValley qV k vV bV cV wV aV eV)]) := hD
    refine lv_aload_n hx hb dX7_meet_40 rfl (lv_at hl 0 rfl) ?_
    refine lv_iconst (v := 0) hx hb dX7_meet_41 (by decide) ?_
    refine va_put (D := (dC, dI)) (ci := 7) (v := .int 0) (ty := .int) (C := RX7) (T := TX7) (N := 9) hx hb hts (fun w h => List.mem_cons_of_mem _ (List.mem_append_right _ (List.mem_append_right _ (List.mem_append_left _ h)))) tyX7 tyX7_ok nmX7 hown hK hP hD hS 0 rfl rfl 8 (by decide) (hts (.fieldLink RX7 54 "SagMemory$State" "wiped" "I") (wl_mem 9 rfl)) (fun _ h9 => h9) rfl (by decide +kernel) rfl rfl (Nat.le_of_ble_eq_true rfl) dX7_meet_42 (fun H locs hP hD hS => ?_)
    have hP : va_P (dC, dI) vwCl (List.flatten [(wState qS k (va_up (va_up (va_up (va_up (va_up (va_up vS 2 rz140) 3 (-1 : Int32)) 4 (0 : Int32)) 5 (0 : Int32)) 6 (0 : Int32)) 7 (0 : Int32)) nS aS)] ++ List.flatten [(wValley qV k vV bV cV wV aV eV)]) H := hP
    have hD : va_D A (List.flatten [(wState qS k (va_up (va_up (va_up (va_up (va_up (va_up vS 2 rz140) 3 (-1 : Int32)) 4 (0 : Int32)) 5 (0 : Int32)) 6 (0 : Int32)) 7 (0 : Int32)) nS aS)] ++ List.flatten [(wValley qV k vV bV cV wV aV eV)]) := hD
    refine lv_aload_n hx hb dX7_meet_45 rfl (lv_at hl 1 rfl) ?_
    refine lv_aload_n hx hb dX7_meet_46 rfl (lv_at hl 0 rfl) ?_
    refine va_get (D := (dC, dI)) (ci := 7) (v := .int rz140) (C := RX7) (T := TX7) (N := 9) hx hb hts (fun w h => List.mem_cons_of_mem _ (List.mem_append_right _ (List.mem_append_right _ (List.mem_append_left _ h)))) hown hK hP 0 rfl rfl 3 (by decide) (hts (.fieldLink RX7 17 "SagMemory$State" "came" "I") (wl_mem 4 rfl)) (fun _ h9 => h9) rfl dX7_meet_47 ?_
    have hPc := hP.sub (ws' := (List.flatten [(wValley qV k vV bV cV wV aV eV)])) [11, 12, 13, 14, 15, 16, 17, 18] rfl
    refine vp_callSi (va_Run.run (va_runV (As := [.int rz140]) (rest := []) ⟨hx, hb, hml, hown, hts⟩ (c_X10_hasBridge l dC dI k qV vV bV cV wV aV eV rz140 hbV hcV hwV heV) (cwV 1 hts (gk_V (wl_mem 10 rfl) (wl_mem 11 rfl) (wl_mem 12 rfl) (wl_mem 3 rfl) (fun w h => List.mem_cons_of_mem _ (List.mem_append_right _ (List.mem_append_right _ (List.mem_append_right _ (List.mem_append_left _ h))))) wkg_c_X10_hasBridge) rfl rfl rfl (by decide +kernel) ⟨Nat.le_of_ble_eq_true rfl, Nat.le_of_ble_eq_true rfl⟩) ⟨fun a U g mk q => by obtain ⟨q0, qP, qK⟩ := q; exact ⟨q0, qP, va_K.moved (u := U) (U := U.calling g mk a) (Vm.Alike.refl U.vm) qK⟩, va_recv hK hPc (ci := 10) (q0 := 0) rfl rfl, fun U hU hW => ⟨rfl, by rw [hU]; exact hPc, va_K.moved hW.alike hK⟩⟩ rfl rfl hl.1 rfl (lv_room (Nat.le_of_ble_eq_true rfl)) dX7_meet_50 ⟨Nat.le_of_ble_eq_true rfl, Nat.le_of_ble_eq_true rfl⟩)) (fun rz142 gz141 => ?_)
    clear hPc
    rcases gz141 with ⟨er, cz143⟩ | ⟨er, cz144, cz145⟩ | ⟨er, cz146, cz147⟩
    · obtain rfl := er.symm
      have bz148 := fb_rng rz140
      have zz149 : rz140.toInt < (0 : Int) := zi_lt.mp cz143
      refine lv_if_eq (tgt := 67) hx hb dX7_meet_53 (by decide) (fun cz150 => ?_) (fun cz150 => ?_)
      · skip
        rw [hQ]
        exact W.vret hx hb hr (fun t ht hW => ⟨⟨(), rfl, trivial, (va_up (va_up (va_up (va_up (va_up (va_up vS 2 rz140) 3 (-1 : Int32)) 4 (0 : Int32)) 5 (0 : Int32)) 6 (0 : Int32)) 7 (0 : Int32)), nS, aS, hnS, by rw [ht]; exact hP⟩, hS.F ht⟩) hS.2.2 dX7_meet_67
      · skip
        exact absurd cz150 (by decide)
    · obtain rfl := er.symm
      have bz151 := fb_rng rz140
      have zz152 : ¬ rz140.toInt < (0 : Int) := fun h9 => cz144 (zi_lt.mpr h9)
      have bz153 := hbV 0
      have zz154 : (bV 0).toInt ≤ rz140.toInt := zi_le.mp cz145
      refine lv_if_eq (tgt := 67) hx hb dX7_meet_53 (by decide) (fun cz155 => ?_) (fun cz155 => ?_)
      · skip
        rw [hQ]
        exact W.vret hx hb hr (fun t ht hW => ⟨⟨(), rfl, trivial, (va_up (va_up (va_up (va_up (va_up (va_up vS 2 rz140) 3 (-1 : Int32)) 4 (0 : Int32)) 5 (0 : Int32)) 6 (0 : Int32)) 7 (0 : Int32)), nS, aS, hnS, by rw [ht]; exact hP⟩, hS.F ht⟩) hS.2.2 dX7_meet_67
      · skip
        exact absurd cz155 (by decide)
    · obtain rfl := er.symm
      have bz156 := fb_rng rz140
      have zz157 : ¬ rz140.toInt < (0 : Int) := fun h9 => cz146 (zi_lt.mpr h9)
      have bz158 := hbV 0
      have zz159 : ¬ (bV 0).toInt ≤ rz140.toInt := fun h9 => cz147 (zi_le.mpr h9)
      refine lv_if_eq (tgt := 67) hx hb dX7_meet_53 (by decide) (fun cz160 => ?_) (fun cz160 => ?_)
      · skip
        exact absurd cz160 (by decide)
      · skip
        refine lv_aload_n hx hb dX7_meet_56 rfl (lv_at hl 0 rfl) ?_
        refine lv_aload_n hx hb dX7_meet_57 rfl (lv_at hl 0 rfl) ?_
        refine va_get (D := (dC, dI)) (ci := 7) (v := .int rz140) (C := RX7) (T := TX7) (N := 9) hx hb hts (fun w h => List.mem_cons_of_mem _ (List.mem_append_right _ (List.mem_append_right _ (List.mem_append_left _ h)))) hown hK hP 0 rfl rfl 3 (by decide) (hts (.fieldLink RX7 17 "SagMemory$State" "came" "I") (wl_mem 4 rfl)) (fun _ h9 => h9) rfl dX7_meet_58 ?_
        have hPc := hP.sub (ws' := (List.flatten [(wState qS k (va_up (va_up (va_up (va_up (va_up (va_up vS 2 rz140) 3 (-1 : Int32)) 4 (0 : Int32)) 5 (0 : Int32)) 6 (0 : Int32)) 7 (0 : Int32)) nS aS)])) [0, 1, 2, 3, 4, 5, 6, 7, 8, 9, 10] rfl
        refine vp_callSi (va_Run.run (va_runV (As := [.int rz140]) (rest := []) ⟨hx, hb, hml, hown, hts⟩ (c_X7_isBroken l dC dI k qS (va_up (va_up (va_up (va_up (va_up (va_up vS 2 rz140) 3 (-1 : Int32)) 4 (0 : Int32)) 5 (0 : Int32)) 6 (0 : Int32)) 7 (0 : Int32)) nS aS rz140 hnS) (cwV 1 hts (gk_V (wl_mem 13 rfl) (wl_mem 14 rfl) (wl_mem 15 rfl) (wl_mem 16 rfl) (fun w h => List.mem_cons_of_mem _ (List.mem_append_right _ (List.mem_append_right _ (List.mem_append_right _ (List.mem_append_right _ (List.mem_append_left _ h)))))) wkg_c_X7_isBroken) rfl rfl rfl (by decide +kernel) ⟨Nat.le_of_ble_eq_true rfl, Nat.le_of_ble_eq_true rfl⟩) ⟨fun a U g mk q => by obtain ⟨q0, qP, qK⟩ := q; exact ⟨q0, qP, va_K.moved (u := U) (U := U.calling g mk a) (Vm.Alike.refl U.vm) qK⟩, va_recv hK hPc (ci := 7) (q0 := 0) rfl rfl, fun U hU hW => ⟨rfl, by rw [hU]; exact hPc, va_K.moved hW.alike hK⟩⟩ rfl rfl hl.1 rfl (lv_room (Nat.le_of_ble_eq_true rfl)) dX7_meet_61 ⟨Nat.le_of_ble_eq_true rfl, Nat.le_of_ble_eq_true rfl⟩)) (fun rz162 gz161 => ?_)
        clear hPc
        have pz163 := gz161
        have pz163 : rz162.toInt = 0 ∨ rz162.toInt = 1 := pz163
        refine lv_if_eq (tgt := 68) hx hb dX7_meet_64 (by decide) (fun cz164 => ?_) (fun cz164 => ?_)
        · skip
          have zz165 : rz162.toInt = (0 : Int) := zi_eq.mp cz164
          refine lv_aload_n hx hb dX7_meet_68 rfl (lv_at hl 0 rfl) ?_
          refine va_get (D := (dC, dI)) (ci := 7) (v := .ref (qS 1)) (C := RX7) (T := TX7) (N := 9) hx hb hts (fun w h => List.mem_cons_of_mem _ (List.mem_append_right _ (List.mem_append_right _ (List.mem_append_left _ h)))) hown hK hP 0 rfl rfl 0 (by decide) (hts (.fieldLink RX7 11 "SagMemory$State" "memories" "[LSagMemory$Memory;") (wl_mem 17 rfl)) (fun _ h9 => h9) rfl dX7_meet_69 ?_
          refine lv_aload_n hx hb dX7_meet_72 rfl (lv_at hl 0 rfl) ?_
          refine va_get (D := (dC, dI)) (ci := 7) (v := .int rz140) (C := RX7) (T := TX7) (N := 9) hx hb hts (fun w h => List.mem_cons_of_mem _ (List.mem_append_right _ (List.mem_append_right _ (List.mem_append_left _ h)))) hown hK hP 0 rfl rfl 3 (by decide) (hts (.fieldLink RX7 17 "SagMemory$State" "came" "I") (wl_mem 4 rfl)) (fun _ h9 => h9) rfl dX7_meet_73 ?_
          rcases (show rz140 = 0 ∨ rz140 = 1 ∨ rz140 = 2 by simp only [zi_eq]; show rz140.toInt = 0 ∨ rz140.toInt = 1 ∨ rz140.toInt = 2; omega) with cz166 | cz166 | cz166
          · skip
            have zz167 : rz140.toInt = (0 : Int) := zi_eq.mp cz166
            refine W.eq (g2 := F0 m 76 ls [.int 0, .ref (qS 1)]) (by rw [cz166]) ?_
            refine va_aldq hx hb hK hP 1 4 rfl rfl (by unfold vp_in; decide) dX7_meet_76 ?_
            refine W.eq (g2 := F0 m 77 ls [.ref (qS 2)]) rfl ?_
            refine lv_astore (lv' := [(6, .ref (qS 2)), (0, .ref (qS 0)), (1, .ref (qV 0)), (2, .int p2), (3, .int p3), (4, .int p4), (5, .int p5)]) hx hb dX7_meet_77 hl (by decide) rfl (fun ls hl => ?_)
            refine lv_aload hx hb dX7_meet_79 (lv_at hl 0 rfl) ?_
            have hPc := hP.sub (ws' := (List.flatten [(wMem (fun i => qS (i + 2)) k nS aS)])) [2, 3, 4] rfl
            refine vp_callSi (va_Run.run (va_runV (As := []) (rest := []) ⟨hx, hb, hml, hown, hts⟩ (c_X2_depth l dC dI k (fun i => qS (i + 2)) nS aS hnS) (cwV 0 hts (gk_V (wl_mem 18 rfl) (wl_mem 19 rfl) (wl_mem 20 rfl) (wl_mem 21 rfl) (fun w h => List.mem_cons_of_mem _ (List.mem_append_right _ (List.mem_append_right _ (List.mem_append_right _ (List.mem_append_right _ (List.mem_append_right _ (List.mem_append_left _ h))))))) wkg_c_X2_depth) rfl rfl rfl (by decide +kernel) ⟨Nat.le_of_ble_eq_true rfl, Nat.le_of_ble_eq_true rfl⟩) ⟨fun a U g mk q => by obtain ⟨q0, qP, qK⟩ := q; exact ⟨q0, qP, va_K.moved (u := U) (U := U.calling g mk a) (Vm.Alike.refl U.vm) qK⟩, va_recv hK hPc (ci := 2) (q0 := 0) rfl rfl, fun U hU hW => ⟨rfl, by rw [hU]; exact hPc, va_K.moved hW.alike hK⟩⟩ rfl rfl hl.1 rfl (lv_room (Nat.le_of_ble_eq_true rfl)) dX7_meet_81 ⟨Nat.le_of_ble_eq_true rfl, Nat.le_of_ble_eq_true rfl⟩)) (fun rz169 gz168 => ?_)
            clear hPc
            refine lv_istore (lv' := [(7, .int rz169), (6, .ref (qS 2)), (0, .ref (qS 0)), (1, .ref (qV 0)), (2, .int p2), (3, .int p3), (4, .int p4), (5, .int p5)]) hx hb dX7_meet_84 hl (by decide) rfl (fun ls hl => ?_)
            refine lv_aload_n hx hb dX7_meet_86 rfl (lv_at hl 2 rfl) ?_
            refine lv_iconst (v := 0) hx hb dX7_meet_87 (by decide) ?_
            refine lv_iload hx hb dX7_meet_88 (lv_at hl 6 rfl) ?_
            refine lv_iconst (v := 0) hx hb dX7_meet_90 (by decide) ?_
            refine lv_aload hx hb dX7_meet_91 (lv_at hl 1 rfl) ?_
            refine lv_aload hx hb dX7_meet_93 (lv_at hl 1 rfl) ?_
            refine va_get (D := (dC, dI)) (ci := 2) (v := .int (nS 0)) (C := RX2) (T := TX2) (N := 3) hx hb hts (fun w h => List.mem_cons_of_mem _ (List.mem_append_right _ (List.mem_append_right _ (List.mem_append_right _ (List.mem_append_right _ (List.mem_append_right _ (List.mem_append_right _ (List.mem_append_left _ h)))))))) hown hK hP 2 rfl rfl 2 (by decide) (hts (.fieldLink RX7 68 "SagMemory$Memory" "size" "I") (wl_mem 22 rfl)) (fun _ h9 => h9) rfl dX7_meet_95 ?_
            have bz170 := hnS 0
            refine lv_iconst (v := 1) hx hb dX7_meet_98 (by decide) ?_
            refine lv_isub hx hb dX7_meet_99 ?_
            refine lv_topi (fun xz171 exz171 => ?_)
            have fxz171 : xz171.toInt = (nS 0).toInt - (1 : Int) := by rw [exz171]; exact fb_subI (x := (nS 0)) (y := (1 : Int32)) (by show -2147483648 ≤ (nS 0).toInt - (1 : Int); omega) (by show (nS 0).toInt - (1 : Int) < 2147483648; omega)
            have hPc := hP.sub (ws' := (List.flatten [(wMem (fun i => qS (i + 2)) k nS aS)])) [2, 3, 4] rfl
            refine vp_callSi (va_Run.run (va_runV (As := [.int xz171]) (rest := [.int 0, .int p4, .int 0, .ref (qS 0)]) ⟨hx, hb, hml, hown, hts⟩ (c_X2_heaviest l dC dI k (fun i => qS (i + 2)) nS aS xz171 hnS) (cwV 1 hts (gk_V (wl_mem 23 rfl) (wl_mem 24 rfl) (wl_mem 25 rfl) (wl_mem 21 rfl) (fun w h => List.mem_cons_of_mem _ (List.mem_append_right _ (List.mem_append_right _ (List.mem_append_right _ (List.mem_append_right _ (List.mem_append_right _ (List.mem_append_right _ (List.mem_append_right _ (List.mem_append_left _ h))))))))) wkg_c_X2_heaviest) rfl rfl rfl (by decide +kernel) ⟨Nat.le_of_ble_eq_true rfl, Nat.le_of_ble_eq_true rfl⟩) ⟨fun a U g mk q => by obtain ⟨q0, qP, qK⟩ := q; exact ⟨q0, qP, va_K.moved (u := U) (U := U.calling g mk a) (Vm.Alike.refl U.vm) qK⟩, va_recv hK hPc (ci := 2) (q0 := 0) rfl rfl, fun U hU hW => ⟨rfl, by rw [hU]; exact hPc, va_K.moved hW.alike hK⟩⟩ rfl rfl hl.1 rfl (lv_room (Nat.le_of_ble_eq_true rfl)) dX7_meet_100 ⟨Nat.le_of_ble_eq_true rfl, Nat.le_of_ble_eq_true rfl⟩)) (fun rz173 gz172 => ?_)
            clear hPc
            refine va_mmax hx hb (by rw [hml]; exact hl.1.symm) hown (hts (.methodLink RX7 75 Lib.Math.max.name) (wl_mem 26 rfl)) (hts (.static Lib.Math.max.name) (wl_mem 27 rfl)) (hts (.initialized "java/lang/Math") (wl_mem 28 rfl)) (hts (.code Lib.Math.max.name Lib.Math.max.code 2 (some .int)) (wl_mem 29 rfl)) (Nat.le_of_ble_eq_true rfl) (Nat.le_of_ble_eq_true rfl) (Nat.zero_le _) (Nat.zero_le _) dX7_meet_103 ?_
            refine lv_topi (fun xz174 exz174 => ?_)
            refine lv_isub hx hb dX7_meet_106 ?_
            refine lv_topi (fun xz175 exz175 => ?_)
            refine va_mmax hx hb (by rw [hml]; exact hl.1.symm) hown (hts (.methodLink RX7 75 Lib.Math.max.name) (wl_mem 26 rfl)) (hts (.static Lib.Math.max.name) (wl_mem 27 rfl)) (hts (.initialized "java/lang/Math") (wl_mem 28 rfl)) (hts (.code Lib.Math.max.name Lib.Math.max.code 2 (some .int)) (wl_mem 29 rfl)) (Nat.le_of_ble_eq_true rfl) (Nat.le_of_ble_eq_true rfl) (Nat.zero_le _) (Nat.zero_le _) dX7_meet_107 ?_
            refine lv_topi (fun xz176 exz176 => ?_)
            refine va_put (D := (dC, dI)) (ci := 7) (v := .int xz176) (ty := .int) (C := RX7) (T := TX7) (N := 9) hx hb hts (fun w h => List.mem_cons_of_mem _ (List.mem_append_right _ (List.mem_append_right _ (List.mem_append_left _ h)))) tyX7 tyX7_ok nmX7 hown hK hP hD hS 0 rfl rfl 6 (by decide) (hts (.fieldLink RX7 48 "SagMemory$State" "noise" "I") (wl_mem 7 rfl)) (fun _ h9 => h9) rfl (by decide +kernel) rfl rfl (Nat.le_of_ble_eq_true rfl) dX7_meet_110 (fun H locs hP hD hS => ?_)
            have hP : va_P (dC, dI) vwCl (List.flatten [(wState qS k (va_up (va_up (va_up (va_up (va_up (va_up vS 2 rz140) 3 (-1 : Int32)) 4 (0 : Int32)) 6 (0 : Int32)) 7 (0 : Int32)) 5 xz176) nS aS)] ++ List.flatten [(wValley qV k vV bV cV wV aV eV)]) H := hP
            have hD : va_D A (List.flatten [(wState qS k (va_up (va_up (va_up (va_up (va_up (va_up vS 2 rz140) 3 (-1 : Int32)) 4 (0 : Int32)) 6 (0 : Int32)) 7 (0 : Int32)) 5 xz176) nS aS)] ++ List.flatten [(wValley qV k vV bV cV wV aV eV)]) := hD
            refine lv_aload_n hx hb dX7_meet_113 rfl (lv_at hl 2 rfl) ?_
            refine lv_aload hx hb dX7_meet_114 (lv_at hl 1 rfl) ?_
            refine lv_iload hx hb dX7_meet_116 (lv_at hl 6 rfl) ?_
            refine lv_iload_n hx hb dX7_meet_118 rfl (lv_at hl 4 rfl) ?_
            refine lv_iload hx hb dX7_meet_119 (lv_at hl 7 rfl) ?_
            have hPc := hP.sub (ws' := (List.flatten [(wMem (fun i => qS (i + 2)) k nS aS)] ++ List.flatten ([] : List va_W))) [2, 3, 4] rfl
            have hC : [2, 3, 4].map (fun i => (List.flatten [(wState qS k (va_up (va_up (va_up (va_up (va_up (va_up vS 2 rz140) 3 (-1 : Int32)) 4 (0 : Int32)) 6 (0 : Int32)) 7 (0 : Int32)) 5 xz176) nS aS)] ++ List.flatten [(wValley qV k vV bV cV wV aV eV)])[i]?) = (List.flatten [(wMem (fun i => qS (i + 2)) k nS aS)] ++ List.flatten ([] : List va_W)).map some := rfl
            have hDc := hD.sub [2, 3, 4] (by decide) hC
            have hFc := va_free hD hS hA [2, 3, 4] hC
            refine va_calli (va_runV (As := [.int p4, .int p2, .int p5]) (rest := [.ref (qS 0)]) ⟨hx, hb, hml, hown, hts⟩ (c_X2_pass l dC dI k H.size (fun i => qS (i + 2)) nS aS p4 p2 p5 hnS (by show 0 ≤ p4.toInt ∧ p4.toInt ≤ 99; omega)) (cwV 3 hts (gk_V (wl_mem 30 rfl) (wl_mem 31 rfl) (wl_mem 32 rfl) (wl_mem 21 rfl) (fun w h => List.mem_cons_of_mem _ (List.mem_append_right _ (List.mem_append_right _ (List.mem_append_right _ (List.mem_append_right _ (List.mem_append_right _ (List.mem_append_right _ (List.mem_append_right _ (List.mem_append_right _ (List.mem_append_left _ h)))))))))) wkg_c_X2_pass) rfl rfl rfl (by decide +kernel) ⟨Nat.le_of_ble_eq_true rfl, Nat.le_of_ble_eq_true rfl⟩) ⟨fun a U g mk q => by obtain ⟨q0, q1, qP, qK, qD⟩ := q; exact ⟨q0, q1, qP, va_K.moved (u := U) (U := U.calling g mk a) (Vm.Alike.refl U.vm) qK, qD⟩, va_recv hK hPc (ci := 2) (q0 := 0) rfl rfl, fun U hU hW => ⟨rfl, by rw [hU], by rw [hU]; exact hPc, va_K.moved hW.alike hK, hDc.weaken (fun _ _ _ _ => trivial)⟩⟩ rfl rfl hl.1 rfl (lv_room (Nat.le_of_ble_eq_true rfl)) dX7_meet_121 ⟨Nat.le_of_ble_eq_true rfl, Nat.le_of_ble_eq_true rfl⟩) hS (fun q _ h => hFc q h) hFc (fun rz178 u t H1 locs ht hvm gz177 hB hz1 hk1 hS => ?_)
            obtain ⟨nz179, az180, hnz179, hP1⟩ := hB
            rw [ht] at hP1
            obtain ⟨hP, hD⟩ := w_call hP hD [2, 3, 4] hC hk1 hP1 rfl (by decide)
            clear hPc hC hDc hFc hk1 hP1
            generalize H1 = H at hP hS ⊢
            have hP : va_P (dC, dI) vwCl (List.flatten [(wState qS k (va_up (va_up (va_up (va_up (va_up (va_up vS 2 rz140) 3 (-1 : Int32)) 4 (0 : Int32)) 6 (0 : Int32)) 7 (0 : Int32)) 5 xz176) (zput nS 0 1 nz179) (zput aS 0 2 az180))] ++ List.flatten [(wValley qV k vV bV cV wV aV eV)]) H := hP
            have hD : va_D A (List.flatten [(wState qS k (va_up (va_up (va_up (va_up (va_up (va_up vS 2 rz140) 3 (-1 : Int32)) 4 (0 : Int32)) 6 (0 : Int32)) 7 (0 : Int32)) 5 xz176) (zput nS 0 1 nz179) (zput aS 0 2 az180))] ++ List.flatten [(wValley qV k vV bV cV wV aV eV)]) := hD
            refine W.widen (k := 0) (n := 0) (Nat.le_refl 0) (Nat.le_refl 0) ?_
            refine va_put (D := (dC, dI)) (ci := 7) (v := .int rz178) (ty := .int) (C := RX7) (T := TX7) (N := 9) hx hb hts (fun w h => List.mem_cons_of_mem _ (List.mem_append_right _ (List.mem_append_right _ (List.mem_append_left _ h)))) tyX7 tyX7_ok nmX7 hown hK hP hD hS 0 rfl rfl 8 (by decide) (hts (.fieldLink RX7 54 "SagMemory$State" "wiped" "I") (wl_mem 9 rfl)) (fun _ h9 => h9) rfl (by decide +kernel) rfl rfl (Nat.le_of_ble_eq_true rfl) dX7_meet_124 (fun H locs hP hD hS => ?_)
            have hP : va_P (dC, dI) vwCl (List.flatten [(wState qS k (va_up (va_up (va_up (va_up (va_up (va_up vS 2 rz140) 3 (-1 : Int32)) 4 (0 : Int32)) 6 (0 : Int32)) 5 xz176) 7 rz178) (zput nS 0 1 nz179) (zput aS 0 2 az180))] ++ List.flatten [(wValley qV k vV bV cV wV aV eV)]) H := hP
            have hD : va_D A (List.flatten [(wState qS k (va_up (va_up (va_up (va_up (va_up (va_up vS 2 rz140) 3 (-1 : Int32)) 4 (0 : Int32)) 6 (0 : Int32)) 5 xz176) 7 rz178) (zput nS 0 1 nz179) (zput aS 0 2 az180))] ++ List.flatten [(wValley qV k vV bV cV wV aV eV)]) := hD
            refine lv_aload hx hb dX7_meet_127 (lv_at hl 1 rfl) ?_
            have hPc := hP.sub (ws' := (List.flatten [(wMem (fun i => qS (i + 2)) k (zput nS 0 1 nz179) (zput aS 0 2 az180))])) [2, 3, 4] rfl
            refine vp_callSi (va_Run.run (va_runV (As := []) (rest := []) ⟨hx, hb, hml, hown, hts⟩ (c_X2_depth l dC dI k (fun i => qS (i + 2)) (zput nS 0 1 nz179) (zput aS 0 2 az180) (rg_put hnS hnz179)) (cwV 0 hts (gk_V (wl_mem 18 rfl) (wl_mem 19 rfl) (wl_mem 20 rfl) (wl_mem 21 rfl) (fun w h => List.mem_cons_of_mem _ (List.mem_append_right _ (List.mem_append_right _ (List.mem_append_right _ (List.mem_append_right _ (List.mem_append_right _ (List.mem_append_left _ h))))))) wkg_c_X2_depth) rfl rfl rfl (by decide +kernel) ⟨Nat.le_of_ble_eq_true rfl, Nat.le_of_ble_eq_true rfl⟩) ⟨fun a U g mk q => by obtain ⟨q0, qP, qK⟩ := q; exact ⟨q0, qP, va_K.moved (u := U) (U := U.calling g mk a) (Vm.Alike.refl U.vm) qK⟩, va_recv hK hPc (ci := 2) (q0 := 0) rfl rfl, fun U hU hW => ⟨rfl, by rw [hU]; exact hPc, va_K.moved hW.alike hK⟩⟩ rfl rfl hl.1 rfl (lv_room (Nat.le_of_ble_eq_true rfl)) dX7_meet_129 ⟨Nat.le_of_ble_eq_true rfl, Nat.le_of_ble_eq_true rfl⟩)) (fun rz182 gz181 => ?_)
            clear hPc
            refine lv_istore (lv' := [(8, .int rz182), (7, .int rz169), (6, .ref (qS 2)), (0, .ref (qS 0)), (1, .ref (qV 0)), (2, .int p2), (3, .int p3), (4, .int p4), (5, .int p5)]) hx hb dX7_meet_132 hl (by decide) rfl (fun ls hl => ?_)
            refine lv_aload_n hx hb dX7_meet_134 rfl (lv_at hl 3 rfl) ?_
            refine lv_aload_n hx hb dX7_meet_135 rfl (lv_at hl 3 rfl) ?_
            refine va_get (D := (dC, dI)) (ci := 7) (v := .int rz140) (C := RX7) (T := TX7) (N := 9) hx hb hts (fun w h => List.mem_cons_of_mem _ (List.mem_append_right _ (List.mem_append_right _ (List.mem_append_left _ h)))) hown hK hP 0 rfl rfl 3 (by decide) (hts (.fieldLink RX7 17 "SagMemory$State" "came" "I") (wl_mem 4 rfl)) (fun _ h9 => h9) rfl dX7_meet_136 ?_
            refine va_put (D := (dC, dI)) (ci := 7) (v := .int rz140) (ty := .int) (C := RX7) (T := TX7) (N := 9) hx hb hts (fun w h => List.mem_cons_of_mem _ (List.mem_append_right _ (List.mem_append_right _ (List.mem_append_left _ h)))) tyX7 tyX7_ok nmX7 hown hK hP hD hS 0 rfl rfl 4 (by decide) (hts (.fieldLink RX7 21 "SagMemory$State" "went" "I") (wl_mem 5 rfl)) (fun _ h9 => h9) rfl (by decide +kernel) rfl rfl (Nat.le_of_ble_eq_true rfl) dX7_meet_139 (fun H locs hP hD hS => ?_)
            have hP : va_P (dC, dI) vwCl (List.flatten [(wState qS k (va_up (va_up (va_up (va_up (va_up (va_up vS 2 rz140) 4 (0 : Int32)) 6 (0 : Int32)) 5 xz176) 7 rz178) 3 rz140) (zput nS 0 1 nz179) (zput aS 0 2 az180))] ++ List.flatten [(wValley qV k vV bV cV wV aV eV)]) H := hP
            have hD : va_D A (List.flatten [(wState qS k (va_up (va_up (va_up (va_up (va_up (va_up vS 2 rz140) 4 (0 : Int32)) 6 (0 : Int32)) 5 xz176) 7 rz178) 3 rz140) (zput nS 0 1 nz179) (zput aS 0 2 az180))] ++ List.flatten [(wValley qV k vV bV cV wV aV eV)]) := hD
            refine lv_aload_n hx hb dX7_meet_142 rfl (lv_at hl 3 rfl) ?_
            refine lv_iload hx hb dX7_meet_143 (lv_at hl 0 rfl) ?_
            refine lv_iload hx hb dX7_meet_145 (lv_at hl 1 rfl) ?_
            refine lv_isub hx hb dX7_meet_147 ?_
            refine lv_topi (fun xz183 exz183 => ?_)
            refine va_put (D := (dC, dI)) (ci := 7) (v := .int xz183) (ty := .int) (C := RX7) (T := TX7) (N := 9) hx hb hts (fun w h => List.mem_cons_of_mem _ (List.mem_append_right _ (List.mem_append_right _ (List.mem_append_left _ h)))) tyX7 tyX7_ok nmX7 hown hK hP hD hS 0 rfl rfl 5 (by decide) (hts (.fieldLink RX7 45 "SagMemory$State" "more" "I") (wl_mem 6 rfl)) (fun _ h9 => h9) rfl (by decide +kernel) rfl rfl (Nat.le_of_ble_eq_true rfl) dX7_meet_148 (fun H locs hP hD hS => ?_)
            have hP : va_P (dC, dI) vwCl (List.flatten [(wState qS k (va_up (va_up (va_up (va_up (va_up (va_up vS 2 rz140) 6 (0 : Int32)) 5 xz176) 7 rz178) 3 rz140) 4 xz183) (zput nS 0 1 nz179) (zput aS 0 2 az180))] ++ List.flatten [(wValley qV k vV bV cV wV aV eV)]) H := hP
            have hD : va_D A (List.flatten [(wState qS k (va_up (va_up (va_up (va_up (va_up (va_up vS 2 rz140) 6 (0 : Int32)) 5 xz176) 7 rz178) 3 rz140) 4 xz183) (zput nS 0 1 nz179) (zput aS 0 2 az180))] ++ List.flatten [(wValley qV k vV bV cV wV aV eV)]) := hD
            refine lv_aload_n hx hb dX7_meet_151 rfl (lv_at hl 3 rfl) ?_
            refine lv_aload_n hx hb dX7_meet_152 rfl (lv_at hl 4 rfl) ?_
            refine va_get (D := (dC, dI)) (ci := 10) (v := .ref (qV 2)) (C := RX10) (T := TX10) (N := 16) hx hb hts (fun w h => List.mem_cons_of_mem _ (List.mem_append_right _ (List.mem_append_right _ (List.mem_append_right _ (List.mem_append_right _ (List.mem_append_right _ (List.mem_append_right _ (List.mem_append_right _ (List.mem_append_right _ (List.mem_append_right _ (List.mem_append_left _ h))))))))))) hown hK hP 11 rfl rfl 1 (by decide) (hts (.fieldLink RX7 84 "SagMemory$Valley" "tolls" "[I") (wl_mem 33 rfl)) (fun _ h9 => h9) rfl dX7_meet_153 ?_
            refine lv_aload_n hx hb dX7_meet_156 rfl (lv_at hl 3 rfl) ?_
            refine va_get (D := (dC, dI)) (ci := 7) (v := .int rz140) (C := RX7) (T := TX7) (N := 9) hx hb hts (fun w h => List.mem_cons_of_mem _ (List.mem_append_right _ (List.mem_append_right _ (List.mem_append_left _ h)))) hown hK hP 0 rfl rfl 3 (by decide) (hts (.fieldLink RX7 17 "SagMemory$State" "came" "I") (wl_mem 4 rfl)) (fun _ h9 => h9) rfl dX7_meet_157 ?_
            refine va_iald hx hb hK hP 13 0 rfl rfl (vp_in_iff.mpr ⟨by omega, by omega⟩) dX7_meet_160 ?_
            refine lv_topi (fun xz184 exz184 => ?_)
            refine lv_iconst (v := 0) hx hb dX7_meet_161 (by decide) ?_
            refine lv_aload_n hx hb dX7_meet_162 rfl (lv_at hl 3 rfl) ?_
            refine va_get (D := (dC, dI)) (ci := 7) (v := .int xz183) (C := RX7) (T := TX7) (N := 9) hx hb hts (fun w h => List.mem_cons_of_mem _ (List.mem_append_right _ (List.mem_append_right _ (List.mem_append_left _ h)))) hown hK hP 0 rfl rfl 5 (by decide) (hts (.fieldLink RX7 45 "SagMemory$State" "more" "I") (wl_mem 6 rfl)) (fun _ h9 => h9) rfl dX7_meet_163 ?_
            refine va_mmax hx hb (by rw [hml]; exact hl.1.symm) hown (hts (.methodLink RX7 75 Lib.Math.max.name) (wl_mem 26 rfl)) (hts (.static Lib.Math.max.name) (wl_mem 27 rfl)) (hts (.initialized "java/lang/Math") (wl_mem 28 rfl)) (hts (.code Lib.Math.max.name Lib.Math.max.code 2 (some .int)) (wl_mem 29 rfl)) (Nat.le_of_ble_eq_true rfl) (Nat.le_of_ble_eq_true rfl) (Nat.zero_le _) (Nat.zero_le _) dX7_meet_166 ?_
            refine lv_topi (fun xz185 exz185 => ?_)
            refine lv_imul hx hb dX7_meet_169 ?_
            refine lv_topi (fun xz186 exz186 => ?_)
            refine va_put (D := (dC, dI)) (ci := 7) (v := .int xz186) (ty := .int) (C := RX7) (T := TX7) (N := 9) hx hb hts (fun w h => List.mem_cons_of_mem _ (List.mem_append_right _ (List.mem_append_right _ (List.mem_append_left _ h)))) tyX7 tyX7_ok nmX7 hown hK hP hD hS 0 rfl rfl 7 (by decide) (hts (.fieldLink RX7 51 "SagMemory$State" "paid" "I") (wl_mem 8 rfl)) (fun _ h9 => h9) rfl (by decide +kernel) rfl rfl (Nat.le_of_ble_eq_true rfl) dX7_meet_170 (fun H locs hP hD hS => ?_)
            have hP : va_P (dC, dI) vwCl (List.flatten [(wState qS k (va_up (va_up (va_up (va_up (va_up (va_up vS 2 rz140) 5 xz176) 7 rz178) 3 rz140) 4 xz183) 6 xz186) (zput nS 0 1 nz179) (zput aS 0 2 az180))] ++ List.flatten [(wValley qV k vV bV cV wV aV eV)]) H := hP
            have hD : va_D A (List.flatten [(wState qS k (va_up (va_up (va_up (va_up (va_up (va_up vS 2 rz140) 5 xz176) 7 rz178) 3 rz140) 4 xz183) 6 xz186) (zput nS 0 1 nz179) (zput aS 0 2 az180))] ++ List.flatten [(wValley qV k vV bV cV wV aV eV)]) := hD
            refine lv_aload_n hx hb dX7_meet_173 rfl (lv_at hl 3 rfl) ?_
            refine lv_dup hx hb dX7_meet_174 rfl ?_
            refine va_get (D := (dC, dI)) (ci := 7) (v := .int (vS 1)) (C := RX7) (T := TX7) (N := 9) hx hb hts (fun w h => List.mem_cons_of_mem _ (List.mem_append_right _ (List.mem_append_right _ (List.mem_append_left _ h)))) hown hK hP 0 rfl rfl 2 (by decide) (hts (.fieldLink RX7 32 "SagMemory$State" "crossed" "I") (wl_mem 34 rfl)) (fun _ h9 => h9) rfl dX7_meet_175 ?_
            refine lv_iconst (v := 1) hx hb dX7_meet_178 (by decide) ?_
            refine lv_iload_n hx hb dX7_meet_179 rfl (lv_at hl 5 rfl) ?_
            refine lv_ishl hx hb dX7_meet_180 ?_
            refine lv_topi (fun xz187 exz187 => ?_)
            refine lv_ior hx hb dX7_meet_181 ?_
            refine lv_topi (fun xz188 exz188 => ?_)
            refine va_put (D := (dC, dI)) (ci := 7) (v := .int xz188) (ty := .int) (C := RX7) (T := TX7) (N := 9) hx hb hts (fun w h => List.mem_cons_of_mem _ (List.mem_append_right _ (List.mem_append_right _ (List.mem_append_left _ h)))) tyX7 tyX7_ok nmX7 hown hK hP hD hS 0 rfl rfl 2 (by decide) (hts (.fieldLink RX7 32 "SagMemory$State" "crossed" "I") (wl_mem 34 rfl)) (fun _ h9 => h9) rfl (by decide +kernel) rfl rfl (Nat.le_of_ble_eq_true rfl) dX7_meet_182 (fun H locs hP hD hS => ?_)
            have hP : va_P (dC, dI) vwCl (List.flatten [(wState qS k (va_up (va_up (va_up (va_up (va_up (va_up (va_up vS 2 rz140) 5 xz176) 7 rz178) 3 rz140) 4 xz183) 6 xz186) 1 xz188) (zput nS 0 1 nz179) (zput aS 0 2 az180))] ++ List.flatten [(wValley qV k vV bV cV wV aV eV)]) H := hP
            have hD : va_D A (List.flatten [(wState qS k (va_up (va_up (va_up (va_up (va_up (va_up (va_up vS 2 rz140) 5 xz176) 7 rz178) 3 rz140) 4 xz183) 6 xz186) 1 xz188) (zput nS 0 1 nz179) (zput aS 0 2 az180))] ++ List.flatten [(wValley qV k vV bV cV wV aV eV)]) := hD
            refine lv_iload hx hb dX7_meet_185 (lv_at hl 0 rfl) ?_
            refine lv_aload_n hx hb dX7_meet_187 rfl (lv_at hl 4 rfl) ?_
            refine va_get (D := (dC, dI)) (ci := 10) (v := .ref (qV 1)) (C := RX10) (T := TX10) (N := 16) hx hb hts (fun w h => List.mem_cons_of_mem _ (List.mem_append_right _ (List.mem_append_right _ (List.mem_append_right _ (List.mem_append_right _ (List.mem_append_right _ (List.mem_append_right _ (List.mem_append_right _ (List.mem_append_right _ (List.mem_append_right _ (List.mem_append_left _ h))))))))))) hown hK hP 11 rfl rfl 0 (by decide) (hts (.fieldLink RX7 88 "SagMemory$Valley" "holds" "[I") (wl_mem 35 rfl)) (fun _ h9 => h9) rfl dX7_meet_188 ?_
            refine lv_aload_n hx hb dX7_meet_191 rfl (lv_at hl 3 rfl) ?_
            refine va_get (D := (dC, dI)) (ci := 7) (v := .int rz140) (C := RX7) (T := TX7) (N := 9) hx hb hts (fun w h => List.mem_cons_of_mem _ (List.mem_append_right _ (List.mem_append_right _ (List.mem_append_left _ h)))) hown hK hP 0 rfl rfl 3 (by decide) (hts (.fieldLink RX7 17 "SagMemory$State" "came" "I") (wl_mem 4 rfl)) (fun _ h9 => h9) rfl dX7_meet_192 ?_
            refine va_iald hx hb hK hP 12 0 rfl rfl (vp_in_iff.mpr ⟨by omega, by omega⟩) dX7_meet_195 ?_
            refine lv_topi (fun xz189 exz189 => ?_)
            refine lv_icmp_le (tgt := 214) hx hb dX7_meet_196 (by decide) (fun cz190 => ?_) (fun cz190 => ?_)
            · skip
              have bz191 := fb_rng rz182
              have bz192 := fb_rng xz189
              have zz193 : rz182.toInt ≤ xz189.toInt := zi_le.mp cz190
              rw [hQ]
              exact W.vret hx hb hr (fun t ht hW => ⟨⟨(), rfl, trivial, (va_up (va_up (va_up (va_up (va_up (va_up (va_up vS 2 rz140) 5 xz176) 7 rz178) 3 rz140) 4 xz183) 6 xz186) 1 xz188), (zput nS 0 1 nz179), (zput aS 0 2 az180), (rg_put hnS hnz179), by rw [ht]; exact hP⟩, hS.F ht⟩) hS.2.2 dX7_meet_214
            · skip
              have bz194 := fb_rng rz182
              have bz195 := fb_rng xz189
              have zz196 : ¬ rz182.toInt ≤ xz189.toInt := fun h9 => cz190 (zi_le.mpr h9)
              refine lv_aload_n hx hb dX7_meet_199 rfl (lv_at hl 3 rfl) ?_
              refine lv_dup hx hb dX7_meet_200 rfl ?_
              refine va_get (D := (dC, dI)) (ci := 7) (v := .int (vS 0)) (C := RX7) (T := TX7) (N := 9) hx hb hts (fun w h => List.mem_cons_of_mem _ (List.mem_append_right _ (List.mem_append_right _ (List.mem_append_left _ h)))) hown hK hP 0 rfl rfl 1 (by decide) (hts (.fieldLink RX7 29 "SagMemory$State" "ruined" "I") (wl_mem 36 rfl)) (fun _ h9 => h9) rfl dX7_meet_201 ?_
              refine lv_iconst (v := 1) hx hb dX7_meet_204 (by decide) ?_
              refine lv_aload_n hx hb dX7_meet_205 rfl (lv_at hl 3 rfl) ?_
              refine va_get (D := (dC, dI)) (ci := 7) (v := .int rz140) (C := RX7) (T := TX7) (N := 9) hx hb hts (fun w h => List.mem_cons_of_mem _ (List.mem_append_right _ (List.mem_append_right _ (List.mem_append_left _ h)))) hown hK hP 0 rfl rfl 3 (by decide) (hts (.fieldLink RX7 17 "SagMemory$State" "came" "I") (wl_mem 4 rfl)) (fun _ h9 => h9) rfl dX7_meet_206 ?_
              refine lv_ishl hx hb dX7_meet_209 ?_
              refine lv_topi (fun xz197 exz197 => ?_)
              refine lv_ior hx hb dX7_meet_210 ?_
              refine lv_topi (fun xz198 exz198 => ?_)
              refine va_put (D := (dC, dI)) (ci := 7) (v := .int xz198) (ty := .int) (C := RX7) (T := TX7) (N := 9) hx hb hts (fun w h => List.mem_cons_of_mem _ (List.mem_append_right _ (List.mem_append_right _ (List.mem_append_left _ h)))) tyX7 tyX7_ok nmX7 hown hK hP hD hS 0 rfl rfl 1 (by decide) (hts (.fieldLink RX7 29 "SagMemory$State" "ruined" "I") (wl_mem 36 rfl)) (fun _ h9 => h9) rfl (by decide +kernel) rfl rfl (Nat.le_of_ble_eq_true rfl) dX7_meet_211 (fun H locs hP hD hS => ?_)
              have hP : va_P (dC, dI) vwCl (List.flatten [(wState qS k (va_up (va_up (va_up (va_up (va_up (va_up (va_up (va_up vS 2 rz140) 5 xz176) 7 rz178) 3 rz140) 4 xz183) 6 xz186) 1 xz188) 0 xz198) (zput nS 0 1 nz179) (zput aS 0 2 az180))] ++ List.flatten [(wValley qV k vV bV cV wV aV eV)]) H := hP
              have hD : va_D A (List.flatten [(wState qS k (va_up (va_up (va_up (va_up (va_up (va_up (va_up (va_up vS 2 rz140) 5 xz176) 7 rz178) 3 rz140) 4 xz183) 6 xz186) 1 xz188) 0 xz198) (zput nS 0 1 nz179) (zput aS 0 2 az180))] ++ List.flatten [(wValley qV k vV bV cV wV aV eV)]) := hD
              rw [hQ]
              exact W.vret hx hb hr (fun t ht hW => ⟨⟨(), rfl, trivial, (va_up (va_up (va_up (va_up (va_up (va_up (va_up (va_up vS 2 rz140) 5 xz176) 7 rz178) 3 rz140) 4 xz183) 6 xz186) 1 xz188) 0 xz198), (zput nS 0 1 nz179), (zput aS 0 2 az180), (rg_put hnS hnz179), by rw [ht]; exact hP⟩, hS.F ht⟩) hS.2.2 dX7_meet_214
          · skip
            have zz199 : rz140.toInt = (1 : Int) := zi_eq.mp cz166
            refine W.eq (g2 := F0 m 76 ls [.int 1, .ref (qS 1)]) (by rw [cz166]) ?_
            refine va_aldq hx hb hK hP 1 4 rfl rfl (by unfold vp_in; decide) dX7_meet_76 ?_
            refine W.eq (g2 := F0 m 77 ls [.ref (qS 5)]) rfl ?_
            refine lv_astore (lv' := [(6, .ref (qS 5)), (0, .ref (qS 0)), (1, .ref (qV 0)), (2, .int p2), (3, .int p3), (4, .int p4), (5, .int p5)]) hx hb dX7_meet_77 hl (by decide) rfl (fun ls hl => ?_)
            refine lv_aload hx hb dX7_meet_79 (lv_at hl 0 rfl) ?_
            have hPc := hP.sub (ws' := (List.flatten [(wMem (fun i => qS (i + 5)) k (fun i => nS (i + 1)) (fun i => aS (i + 2)))])) [5, 6, 7] rfl
            refine vp_callSi (va_Run.run (va_runV (As := []) (rest := []) ⟨hx, hb, hml, hown, hts⟩ (c_X2_depth l dC dI k (fun i => qS (i + 5)) (fun i => nS (i + 1)) (fun i => aS (i + 2)) (fun i => hnS (i + 1))) (cwV 0 hts (gk_V (wl_mem 18 rfl) (wl_mem 19 rfl) (wl_mem 20 rfl) (wl_mem 21 rfl) (fun w h => List.mem_cons_of_mem _ (List.mem_append_right _ (List.mem_append_right _ (List.mem_append_right _ (List.mem_append_right _ (List.mem_append_right _ (List.mem_append_left _ h))))))) wkg_c_X2_depth) rfl rfl rfl (by decide +kernel) ⟨Nat.le_of_ble_eq_true rfl, Nat.le_of_ble_eq_true rfl⟩) ⟨fun a U g mk q => by obtain ⟨q0, qP, qK⟩ := q; exact ⟨q0, qP, va_K.moved (u := U) (U := U.calling g mk a) (Vm.Alike.refl U.vm) qK⟩, va_recv hK hPc (ci := 2) (q0 := 0) rfl rfl, fun U hU hW => ⟨rfl, by rw [hU]; exact hPc, va_K.moved hW.alike hK⟩⟩ rfl rfl hl.1 rfl (lv_room (Nat.le_of_ble_eq_true rfl)) dX7_meet_81 ⟨Nat.le_of_ble_eq_true rfl, Nat.le_of_ble_eq_true rfl⟩)) (fun rz201 gz200 => ?_)
            clear hPc
            refine lv_istore (lv' := [(7, .int rz201), (6, .ref (qS 5)), (0, .ref (qS 0)), (1, .ref (qV 0)), (2, .int p2), (3, .int p3), (4, .int p4), (5, .int p5)]) hx hb dX7_meet_84 hl (by decide) rfl (fun ls hl => ?_)
            refine lv_aload_n hx hb dX7_meet_86 rfl (lv_at hl 2 rfl) ?_
            refine lv_iconst (v := 0) hx hb dX7_meet_87 (by decide) ?_
            refine lv_iload hx hb dX7_meet_88 (lv_at hl 6 rfl) ?_
            refine lv_iconst (v := 0) hx hb dX7_meet_90 (by decide) ?_
            refine lv_aload hx hb dX7_meet_91 (lv_at hl 1 rfl) ?_
            refine lv_aload hx hb dX7_meet_93 (lv_at hl 1 rfl) ?_
            refine va_get (D := (dC, dI)) (ci := 2) (v := .int (nS 1)) (C := RX2) (T := TX2) (N := 3) hx hb hts (fun w h => List.mem_cons_of_mem _ (List.mem_append_right _ (List.mem_append_right _ (List.mem_append_right _ (List.mem_append_right _ (List.mem_append_right _ (List.mem_append_right _ (List.mem_append_left _ h)))))))) hown hK hP 5 rfl rfl 2 (by decide) (hts (.fieldLink RX7 68 "SagMemory$Memory" "size" "I") (wl_mem 22 rfl)) (fun _ h9 => h9) rfl dX7_meet_95 ?_
            have bz202 := hnS 1
            refine lv_iconst (v := 1) hx hb dX7_meet_98 (by decide) ?_
            refine lv_isub hx hb dX7_meet_99 ?_
            refine lv_topi (fun xz203 exz203 => ?_)
            have fxz203 : xz203.toInt = (nS 1).toInt - (1 : Int) := by rw [exz203]; exact fb_subI (x := (nS 1)) (y := (1 : Int32)) (by show -2147483648 ≤ (nS 1).toInt - (1 : Int); omega) (by show (nS 1).toInt - (1 : Int) < 2147483648; omega)
            have hPc := hP.sub (ws' := (List.flatten [(wMem (fun i => qS (i + 5)) k (fun i => nS (i + 1)) (fun i => aS (i + 2)))])) [5, 6, 7] rfl
            refine vp_callSi (va_Run.run (va_runV (As := [.int xz203]) (rest := [.int 0, .int p4, .int 0, .ref (qS 0)]) ⟨hx, hb, hml, hown, hts⟩ (c_X2_heaviest l dC dI k (fun i => qS (i + 5)) (fun i => nS (i + 1)) (fun i => aS (i + 2)) xz203 (fun i => hnS (i + 1))) (cwV 1 hts (gk_V (wl_mem 23 rfl) (wl_mem 24 rfl) (wl_mem 25 rfl) (wl_mem 21 rfl) (fun w h => List.mem_cons_of_mem _ (List.mem_append_right _ (List.mem_append_right _ (List.mem_append_right _ (List.mem_append_right _ (List.mem_append_right _ (List.mem_append_right _ (List.mem_append_right _ (List.mem_append_left _ h))))))))) wkg_c_X2_heaviest) rfl rfl rfl (by decide +kernel) ⟨Nat.le_of_ble_eq_true rfl, Nat.le_of_ble_eq_true rfl⟩) ⟨fun a U g mk q => by obtain ⟨q0, qP, qK⟩ := q; exact ⟨q0, qP, va_K.moved (u := U) (U := U.calling g mk a) (Vm.Alike.refl U.vm) qK⟩, va_recv hK hPc (ci := 2) (q0 := 0) rfl rfl, fun U hU hW => ⟨rfl, by rw [hU]; exact hPc, va_K.moved hW.alike hK⟩⟩ rfl rfl hl.1 rfl (lv_room (Nat.le_of_ble_eq_true rfl)) dX7_meet_100 ⟨Nat.le_of_ble_eq_true rfl, Nat.le_of_ble_eq_true rfl⟩)) (fun rz205 gz204 => ?_)
            clear hPc
            refine va_mmax hx hb (by rw [hml]; exact hl.1.symm) hown (hts (.methodLink RX7 75 Lib.Math.max.name) (wl_mem 26 rfl)) (hts (.static Lib.Math.max.name) (wl_mem 27 rfl)) (hts (.initialized "java/lang/Math") (wl_mem 28 rfl)) (hts (.code Lib.Math.max.name Lib.Math.max.code 2 (some .int)) (wl_mem 29 rfl)) (Nat.le_of_ble_eq_true rfl) (Nat.le_of_ble_eq_true rfl) (Nat.zero_le _) (Nat.zero_le _) dX7_meet_103 ?_
            refine lv_topi (fun xz206 exz206 => ?_)
            refine lv_isub hx hb dX7_meet_106 ?_
            refine lv_topi (fun xz207 exz207 => ?_)
            refine va_mmax hx hb (by rw [hml]; exact hl.1.symm) hown (hts (.methodLink RX7 75 Lib.Math.max.name) (wl_mem 26 rfl)) (hts (.static Lib.Math.max.name) (wl_mem 27 rfl)) (hts (.initialized "java/lang/Math") (wl_mem 28 rfl)) (hts (.code Lib.Math.max.name Lib.Math.max.code 2 (some .int)) (wl_mem 29 rfl)) (Nat.le_of_ble_eq_true rfl) (Nat.le_of_ble_eq_true rfl) (Nat.zero_le _) (Nat.zero_le _) dX7_meet_107 ?_
            refine lv_topi (fun xz208 exz208 => ?_)
            refine va_put (D := (dC, dI)) (ci := 7) (v := .int xz208) (ty := .int) (C := RX7) (T := TX7) (N := 9) hx hb hts (fun w h => List.mem_cons_of_mem _ (List.mem_append_right _ (List.mem_append_right _ (List.mem_append_left _ h)))) tyX7 tyX7_ok nmX7 hown hK hP hD hS 0 rfl rfl 6 (by decide) (hts (.fieldLink RX7 48 "SagMemory$State" "noise" "I") (wl_mem 7 rfl)) (fun _ h9 => h9) rfl (by decide +kernel) rfl rfl (Nat.le_of_ble_eq_true rfl) dX7_meet_110 (fun H locs hP hD hS => ?_)
            have hP : va_P (dC, dI) vwCl (List.flatten [(wState qS k (va_up (va_up (va_up (va_up (va_up (va_up vS 2 rz140) 3 (-1 : Int32)) 4 (0 : Int32)) 6 (0 : Int32)) 7 (0 : Int32)) 5 xz208) nS aS)] ++ List.flatten [(wValley qV k vV bV cV wV aV eV)]) H := hP
            have hD : va_D A (List.flatten [(wState qS k (va_up (va_up (va_up (va_up (va_up (va_up vS 2 rz140) 3 (-1 : Int32)) 4 (0 : Int32)) 6 (0 : Int32)) 7 (0 : Int32)) 5 xz208) nS aS)] ++ List.flatten [(wValley qV k vV bV cV wV aV eV)]) := hD
            refine lv_aload_n hx hb dX7_meet_113 rfl (lv_at hl 2 rfl) ?_
            refine lv_aload hx hb dX7_meet_114 (lv_at hl 1 rfl) ?_
            refine lv_iload hx hb dX7_meet_116 (lv_at hl 6 rfl) ?_
            refine lv_iload_n hx hb dX7_meet_118 rfl (lv_at hl 4 rfl) ?_
            refine lv_iload hx hb dX7_meet_119 (lv_at hl 7 rfl) ?_
            have hPc := hP.sub (ws' := (List.flatten [(wMem (fun i => qS (i + 5)) k (fun i => nS (i + 1)) (fun i => aS (i + 2)))] ++ List.flatten ([] : List va_W))) [5, 6, 7] rfl
            have hC : [5, 6, 7].map (fun i => (List.flatten [(wState qS k (va_up (va_up (va_up (va_up (va_up (va_up vS 2 rz140) 3 (-1 : Int32)) 4 (0 : Int32)) 6 (0 : Int32)) 7 (0 : Int32)) 5 xz208) nS aS)] ++ List.flatten [(wValley qV k vV bV cV wV aV eV)])[i]?) = (List.flatten [(wMem (fun i => qS (i + 5)) k (fun i => nS (i + 1)) (fun i => aS (i + 2)))] ++ List.flatten ([] : List va_W)).map some := rfl
            have hDc := hD.sub [5, 6, 7] (by decide) hC
            have hFc := va_free hD hS hA [5, 6, 7] hC
            refine va_calli (va_runV (As := [.int p4, .int p2, .int p5]) (rest := [.ref (qS 0)]) ⟨hx, hb, hml, hown, hts⟩ (c_X2_pass l dC dI k H.size (fun i => qS (i + 5)) (fun i => nS (i + 1)) (fun i => aS (i + 2)) p4 p2 p5 (fun i => hnS (i + 1)) (by show 0 ≤ p4.toInt ∧ p4.toInt ≤ 99; omega)) (cwV 3 hts (gk_V (wl_mem 30 rfl) (wl_mem 31 rfl) (wl_mem 32 rfl) (wl_mem 21 rfl) (fun w h => List.mem_cons_of_mem _ (List.mem_append_right _ (List.mem_append_right _ (List.mem_append_right _ (List.mem_append_right _ (List.mem_append_right _ (List.mem_append_right _ (List.mem_append_right _ (List.mem_append_right _ (List.mem_append_left _ h)))))))))) wkg_c_X2_pass) rfl rfl rfl (by decide +kernel) ⟨Nat.le_of_ble_eq_true rfl, Nat.le_of_ble_eq_true rfl⟩) ⟨fun a U g mk q => by obtain ⟨q0, q1, qP, qK, qD⟩ := q; exact ⟨q0, q1, qP, va_K.moved (u := U) (U := U.calling g mk a) (Vm.Alike.refl U.vm) qK, qD⟩, va_recv hK hPc (ci := 2) (q0 := 0) rfl rfl, fun U hU hW => ⟨rfl, by rw [hU], by rw [hU]; exact hPc, va_K.moved hW.alike hK, hDc.weaken (fun _ _ _ _ => trivial)⟩⟩ rfl rfl hl.1 rfl (lv_room (Nat.le_of_ble_eq_true rfl)) dX7_meet_121 ⟨Nat.le_of_ble_eq_true rfl, Nat.le_of_ble_eq_true rfl⟩) hS (fun q _ h => hFc q h) hFc (fun rz210 u t H1 locs ht hvm gz209 hB hz1 hk1 hS => ?_)
            obtain ⟨nz211, az212, hnz211, hP1⟩ := hB
            rw [ht] at hP1
            obtain ⟨hP, hD⟩ := w_call hP hD [5, 6, 7] hC hk1 hP1 rfl (by decide)
            clear hPc hC hDc hFc hk1 hP1
            generalize H1 = H at hP hS ⊢
            have hP : va_P (dC, dI) vwCl (List.flatten [(wState qS k (va_up (va_up (va_up (va_up (va_up (va_up vS 2 rz140) 3 (-1 : Int32)) 4 (0 : Int32)) 6 (0 : Int32)) 7 (0 : Int32)) 5 xz208) (zput nS 1 1 nz211) (zput aS 2 2 az212))] ++ List.flatten [(wValley qV k vV bV cV wV aV eV)]) H := hP
            have hD : va_D A (List.flatten [(wState qS k (va_up (va_up (va_up (va_up (va_up (va_up vS 2 rz140) 3 (-1 : Int32)) 4 (0 : Int32)) 6 (0 : Int32)) 7 (0 : Int32)) 5 xz208) (zput nS 1 1 nz211) (zput aS 2 2 az212))] ++ List.flatten [(wValley qV k vV bV cV wV aV eV)]) := hD
            refine W.widen (k := 0) (n := 0) (Nat.le_refl 0) (Nat.le_refl 0) ?_
            refine va_put (D := (dC, dI)) (ci := 7) (v := .int rz210) (ty := .int) (C := RX7) (T := TX7) (N := 9) hx hb hts (fun w h => List.mem_cons_of_mem _ (List.mem_append_right _ (List.mem_append_right _ (List.mem_append_left _ h)))) tyX7 tyX7_ok nmX7 hown hK hP hD hS 0 rfl rfl 8 (by decide) (hts (.fieldLink RX7 54 "SagMemory$State" "wiped" "I") (wl_mem 9 rfl)) (fun _ h9 => h9) rfl (by decide +kernel) rfl rfl (Nat.le_of_ble_eq_true rfl) dX7_meet_124 (fun H locs hP hD hS => ?_)
            have hP : va_P (dC, dI) vwCl (List.flatten [(wState qS k (va_up (va_up (va_up (va_up (va_up (va_up vS 2 rz140) 3 (-1 : Int32)) 4 (0 : Int32)) 6 (0 : Int32)) 5 xz208) 7 rz210) (zput nS 1 1 nz211) (zput aS 2 2 az212))] ++ List.flatten [(wValley qV k vV bV cV wV aV eV)]) H := hP
            have hD : va_D A (List.flatten [(wState qS k (va_up (va_up (va_up (va_up (va_up (va_up vS 2 rz140) 3 (-1 : Int32)) 4 (0 : Int32)) 6 (0 : Int32)) 5 xz208) 7 rz210) (zput nS 1 1 nz211) (zput aS 2 2 az212))] ++ List.flatten [(wValley qV k vV bV cV wV aV eV)]) := hD
            refine lv_aload hx hb dX7_meet_127 (lv_at hl 1 rfl) ?_
            have hPc := hP.sub (ws' := (List.flatten [(wMem (fun i => qS (i + 5)) k (fun i => (zput nS 1 1 nz211) (i + 1)) (fun i => (zput aS 2 2 az212) (i + 2)))])) [5, 6, 7] rfl
            refine vp_callSi (va_Run.run (va_runV (As := []) (rest := []) ⟨hx, hb, hml, hown, hts⟩ (c_X2_depth l dC dI k (fun i => qS (i + 5)) (fun i => (zput nS 1 1 nz211) (i + 1)) (fun i => (zput aS 2 2 az212) (i + 2)) (fun i => (rg_put hnS hnz211) (i + 1))) (cwV 0 hts (gk_V (wl_mem 18 rfl) (wl_mem 19 rfl) (wl_mem 20 rfl) (wl_mem 21 rfl) (fun w h => List.mem_cons_of_mem _ (List.mem_append_right _ (List.mem_append_right _ (List.mem_append_right _ (List.mem_append_right _ (List.mem_append_right _ (List.mem_append_left _ h))))))) wkg_c_X2_depth) rfl rfl rfl (by decide +kernel) ⟨Nat.le_of_ble_eq_true rfl, Nat.le_of_ble_eq_true rfl⟩) ⟨fun a U g mk q => by obtain ⟨q0, qP, qK⟩ := q; exact ⟨q0, qP, va_K.moved (u := U) (U := U.calling g mk a) (Vm.Alike.refl U.vm) qK⟩, va_recv hK hPc (ci := 2) (q0 := 0) rfl rfl, fun U hU hW => ⟨rfl, by rw [hU]; exact hPc, va_K.moved hW.alike hK⟩⟩ rfl rfl hl.1 rfl (lv_room (Nat.le_of_ble_eq_true rfl)) dX7_meet_129 ⟨Nat.le_of_ble_eq_true rfl, Nat.le_of_ble_eq_true rfl⟩)) (fun rz214 gz213 => ?_)
            clear hPc
            refine lv_istore (lv' := [(8, .int rz214), (7, .int rz201), (6, .ref (qS 5)), (0, .ref (qS 0)), (1, .ref (qV 0)), (2, .int p2), (3, .int p3), (4, .int p4), (5, .int p5)]) hx hb dX7_meet_132 hl (by decide) rfl (fun ls hl => ?_)
            refine lv_aload_n hx hb dX7_meet_134 rfl (lv_at hl 3 rfl) ?_
            refine lv_aload_n hx hb dX7_meet_135 rfl (lv_at hl 3 rfl) ?_
            refine va_get (D := (dC, dI)) (ci := 7) (v := .int rz140) (C := RX7) (T := TX7) (N := 9) hx hb hts (fun w h => List.mem_cons_of_mem _ (List.mem_append_right _ (List.mem_append_right _ (List.mem_append_left _ h)))) hown hK hP 0 rfl rfl 3 (by decide) (hts (.fieldLink RX7 17 "SagMemory$State" "came" "I") (wl_mem 4 rfl)) (fun _ h9 => h9) rfl dX7_meet_136 ?_
            refine va_put (D := (dC, dI)) (ci := 7) (v := .int rz140) (ty := .int) (C := RX7) (T := TX7) (N := 9) hx hb hts (fun w h => List.mem_cons_of_mem _ (List.mem_append_right _ (List.mem_append_right _ (List.mem_append_left _ h)))) tyX7 tyX7_ok nmX7 hown hK hP hD hS 0 rfl rfl 4 (by decide) (hts (.fieldLink RX7 21 "SagMemory$State" "went" "I") (wl_mem 5 rfl)) (fun _ h9 => h9) rfl (by decide +kernel) rfl rfl (Nat.le_of_ble_eq_true rfl) dX7_meet_139 (fun H locs hP hD hS => ?_)
            have hP : va_P (dC, dI) vwCl (List.flatten [(wState qS k (va_up (va_up (va_up (va_up (va_up (va_up vS 2 rz140) 4 (0 : Int32)) 6 (0 : Int32)) 5 xz208) 7 rz210) 3 rz140) (zput nS 1 1 nz211) (zput aS 2 2 az212))] ++ List.flatten [(wValley qV k vV bV cV wV aV eV)]) H := hP
            have hD : va_D A (List.flatten [(wState qS k (va_up (va_up (va_up (va_up (va_up (va_up vS 2 rz140) 4 (0 : Int32)) 6 (0 : Int32)) 5 xz208) 7 rz210) 3 rz140) (zput nS 1 1 nz211) (zput aS 2 2 az212))] ++ List.flatten [(wValley qV k vV bV cV wV aV eV)]) := hD
            refine lv_aload_n hx hb dX7_meet_142 rfl (lv_at hl 3 rfl) ?_
            refine lv_iload hx hb dX7_meet_143 (lv_at hl 0 rfl) ?_
            refine lv_iload hx hb dX7_meet_145 (lv_at hl 1 rfl) ?_
            refine lv_isub hx hb dX7_meet_147 ?_
            refine lv_topi (fun xz215 exz215 => ?_)
            refine va_put (D := (dC, dI)) (ci := 7) (v := .int xz215) (ty := .int) (C := RX7) (T := TX7) (N := 9) hx hb hts (fun w h => List.mem_cons_of_mem _ (List.mem_append_right _ (List.mem_append_right _ (List.mem_append_left _ h)))) tyX7 tyX7_ok nmX7 hown hK hP hD hS 0 rfl rfl 5 (by decide) (hts (.fieldLink RX7 45 "SagMemory$State" "more" "I") (wl_mem 6 rfl)) (fun _ h9 => h9) rfl (by decide +kernel) rfl rfl (Nat.le_of_ble_eq_true rfl) dX7_meet_148 (fun H locs hP hD hS => ?_)
            have hP : va_P (dC, dI) vwCl (List.flatten [(wState qS k (va_up (va_up (va_up (va_up (va_up (va_up vS 2 rz140) 6 (0 : Int32)) 5 xz208) 7 rz210) 3 rz140) 4 xz215) (zput nS 1 1 nz211) (zput aS 2 2 az212))] ++ List.flatten [(wValley qV k vV bV cV wV aV eV)]) H := hP
            have hD : va_D A (List.flatten [(wState qS k (va_up (va_up (va_up (va_up (va_up (va_up vS 2 rz140) 6 (0 : Int32)) 5 xz208) 7 rz210) 3 rz140) 4 xz215) (zput nS 1 1 nz211) (zput aS 2 2 az212))] ++ List.flatten [(wValley qV k vV bV cV wV aV eV)]) := hD
            refine lv_aload_n hx hb dX7_meet_151 rfl (lv_at hl 3 rfl) ?_
            refine lv_aload_n hx hb dX7_meet_152 rfl (lv_at hl 4 rfl) ?_
            refine va_get (D := (dC, dI)) (ci := 10) (v := .ref (qV 2)) (C := RX10) (T := TX10) (N := 16) hx hb hts (fun w h => List.mem_cons_of_mem _ (List.mem_append_right _ (List.mem_append_right _ (List.mem_append_right _ (List.mem_append_right _ (List.mem_append_right _ (List.mem_append_right _ (List.mem_append_right _ (List.mem_append_right _ (List.mem_append_right _ (List.mem_append_left _ h))))))))))) hown hK hP 11 rfl rfl 1 (by decide) (hts (.fieldLink RX7 84 "SagMemory$Valley" "tolls" "[I") (wl_mem 33 rfl)) (fun _ h9 => h9) rfl dX7_meet_153 ?_
            refine lv_aload_n hx hb dX7_meet_156 rfl (lv_at hl 3 rfl) ?_
            refine va_get (D := (dC, dI)) (ci := 7) (v := .int rz140) (C := RX7) (T := TX7) (N := 9) hx hb hts (fun w h => List.mem_cons_of_mem _ (List.mem_append_right _ (List.mem_append_right _ (List.mem_append_left _ h)))) hown hK hP 0 rfl rfl 3 (by decide) (hts (.fieldLink RX7 17 "SagMemory$State" "came" "I") (wl_mem 4 rfl)) (fun _ h9 => h9) rfl dX7_meet_157 ?_
            refine va_iald hx hb hK hP 13 0 rfl rfl (vp_in_iff.mpr ⟨by omega, by omega⟩) dX7_meet_160 ?_
            refine lv_topi (fun xz216 exz216 => ?_)
            refine lv_iconst (v := 0) hx hb dX7_meet_161 (by decide) ?_
            refine lv_aload_n hx hb dX7_meet_162 rfl (lv_at hl 3 rfl) ?_
            refine va_get (D := (dC, dI)) (ci := 7) (v := .int xz215) (C := RX7) (T := TX7) (N := 9) hx hb hts (fun w h => List.mem_cons_of_mem _ (List.mem_append_right _ (List.mem_append_right _ (List.mem_append_left _ h)))) hown hK hP 0 rfl rfl 5 (by decide) (hts (.fieldLink RX7 45 "SagMemory$State" "more" "I") (wl_mem 6 rfl)) (fun _ h9 => h9) rfl dX7_meet_163 ?_
            refine va_mmax hx hb (by rw [hml]; exact hl.1.symm) hown (hts (.methodLink RX7 75 Lib.Math.max.name) (wl_mem 26 rfl)) (hts (.static Lib.Math.max.name) (wl_mem 27 rfl)) (hts (.initialized "java/lang/Math") (wl_mem 28 rfl)) (hts (.code Lib.Math.max.name Lib.Math.max.code 2 (some .int)) (wl_mem 29 rfl)) (Nat.le_of_ble_eq_true rfl) (Nat.le_of_ble_eq_true rfl) (Nat.zero_le _) (Nat.zero_le _) dX7_meet_166 ?_
            refine lv_topi (fun xz217 exz217 => ?_)
            refine lv_imul hx hb dX7_meet_169 ?_
            refine lv_topi (fun xz218 exz218 => ?_)
            refine va_put (D := (dC, dI)) (ci := 7) (v := .int xz218) (ty := .int) (C := RX7) (T := TX7) (N := 9) hx hb hts (fun w h => List.mem_cons_of_mem _ (List.mem_append_right _ (List.mem_append_right _ (List.mem_append_left _ h)))) tyX7 tyX7_ok nmX7 hown hK hP hD hS 0 rfl rfl 7 (by decide) (hts (.fieldLink RX7 51 "SagMemory$State" "paid" "I") (wl_mem 8 rfl)) (fun _ h9 => h9) rfl (by decide +kernel) rfl rfl (Nat.le_of_ble_eq_true rfl) dX7_meet_170 (fun H locs hP hD hS => ?_)
            have hP : va_P (dC, dI) vwCl (List.flatten [(wState qS k (va_up (va_up (va_up (va_up (va_up (va_up vS 2 rz140) 5 xz208) 7 rz210) 3 rz140) 4 xz215) 6 xz218) (zput nS 1 1 nz211) (zput aS 2 2 az212))] ++ List.flatten [(wValley qV k vV bV cV wV aV eV)]) H := hP
            have hD : va_D A (List.flatten [(wState qS k (va_up (va_up (va_up (va_up (va_up (va_up vS 2 rz140) 5 xz208) 7 rz210) 3 rz140) 4 xz215) 6 xz218) (zput nS 1 1 nz211) (zput aS 2 2 az212))] ++ List.flatten [(wValley qV k vV bV cV wV aV eV)]) := hD
            refine lv_aload_n hx hb dX7_meet_173 rfl (lv_at hl 3 rfl) ?_
            refine lv_dup hx hb dX7_meet_174 rfl ?_
            refine va_get (D := (dC, dI)) (ci := 7) (v := .int (vS 1)) (C := RX7) (T := TX7) (N := 9) hx hb hts (fun w h => List.mem_cons_of_mem _ (List.mem_append_right _ (List.mem_append_right _ (List.mem_append_left _ h)))) hown hK hP 0 rfl rfl 2 (by decide) (hts (.fieldLink RX7 32 "SagMemory$State" "crossed" "I") (wl_mem 34 rfl)) (fun _ h9 => h9) rfl dX7_meet_175 ?_
            refine lv_iconst (v := 1) hx hb dX7_meet_178 (by decide) ?_
            refine lv_iload_n hx hb dX7_meet_179 rfl (lv_at hl 5 rfl) ?_
            refine lv_ishl hx hb dX7_meet_180 ?_
            refine lv_topi (fun xz219 exz219 => ?_)
            refine lv_ior hx hb dX7_meet_181 ?_
            refine lv_topi (fun xz220 exz220 => ?_)
            refine va_put (D := (dC, dI)) (ci := 7) (v := .int xz220) (ty := .int) (C := RX7) (T := TX7) (N := 9) hx hb hts (fun w h => List.mem_cons_of_mem _ (List.mem_append_right _ (List.mem_append_right _ (List.mem_append_left _ h)))) tyX7 tyX7_ok nmX7 hown hK hP hD hS 0 rfl rfl 2 (by decide) (hts (.fieldLink RX7 32 "SagMemory$State" "crossed" "I") (wl_mem 34 rfl)) (fun _ h9 => h9) rfl (by decide +kernel) rfl rfl (Nat.le_of_ble_eq_true rfl) dX7_meet_182 (fun H locs hP hD hS => ?_)
            have hP : va_P (dC, dI) vwCl (List.flatten [(wState qS k (va_up (va_up (va_up (va_up (va_up (va_up (va_up vS 2 rz140) 5 xz208) 7 rz210) 3 rz140) 4 xz215) 6 xz218) 1 xz220) (zput nS 1 1 nz211) (zput aS 2 2 az212))] ++ List.flatten [(wValley qV k vV bV cV wV aV eV)]) H := hP
            have hD : va_D A (List.flatten [(wState qS k (va_up (va_up (va_up (va_up (va_up (va_up (va_up vS 2 rz140) 5 xz208) 7 rz210) 3 rz140) 4 xz215) 6 xz218) 1 xz220) (zput nS 1 1 nz211) (zput aS 2 2 az212))] ++ List.flatten [(wValley qV k vV bV cV wV aV eV)]) := hD
            refine lv_iload hx hb dX7_meet_185 (lv_at hl 0 rfl) ?_
            refine lv_aload_n hx hb dX7_meet_187 rfl (lv_at hl 4 rfl) ?_
            refine va_get (D := (dC, dI)) (ci := 10) (v := .ref (qV 1)) (C := RX10) (T := TX10) (N := 16) hx hb hts (fun w h => List.mem_cons_of_mem _ (List.mem_append_right _ (List.mem_append_right _ (List.mem_append_right _ (List.mem_append_right _ (List.mem_append_right _ (List.mem_append_right _ (List.mem_append_right _ (List.mem_append_right _ (List.mem_append_right _ (List.mem_append_left _ h))))))))))) hown hK hP 11 rfl rfl 0 (by decide) (hts (.fieldLink RX7 88 "SagMemory$Valley" "holds" "[I") (wl_mem 35 rfl)) (fun _ h9 => h9) rfl dX7_meet_188 ?_
            refine lv_aload_n hx hb dX7_meet_191 rfl (lv_at hl 3 rfl) ?_
            refine va_get (D := (dC, dI)) (ci := 7) (v := .int rz140) (C := RX7) (T := TX7) (N := 9) hx hb hts (fun w h => List.mem_cons_of_mem _ (List.mem_append_right _ (List.mem_append_right _ (List.mem_append_left _ h)))) hown hK hP 0 rfl rfl 3 (by decide) (hts (.fieldLink RX7 17 "SagMemory$State" "came" "I") (wl_mem 4 rfl)) (fun _ h9 => h9) rfl dX7_meet_192 ?_
            refine va_iald hx hb hK hP 12 0 rfl rfl (vp_in_iff.mpr ⟨by omega, by omega⟩) dX7_meet_195 ?_
            refine lv_topi (fun xz221 exz221 => ?_)
            refine lv_icmp_le (tgt := 214) hx hb dX7_meet_196 (by decide) (fun cz222 => ?_) (fun cz222 => ?_)
            · skip
              have bz223 := fb_rng rz214
              have bz224 := fb_rng xz221
              have zz225 : rz214.toInt ≤ xz221.toInt := zi_le.mp cz222
              rw [hQ]
              exact W.vret hx hb hr (fun t ht hW => ⟨⟨(), rfl, trivial, (va_up (va_up (va_up (va_up (va_up (va_up (va_up vS 2 rz140) 5 xz208) 7 rz210) 3 rz140) 4 xz215) 6 xz218) 1 xz220), (zput nS 1 1 nz211), (zput aS 2 2 az212), (rg_put hnS hnz211), by rw [ht]; exact hP⟩, hS.F ht⟩) hS.2.2 dX7_meet_214
            · skip
              have bz226 := fb_rng rz214
              have bz227 := fb_rng xz221
              have zz228 : ¬ rz214.toInt ≤ xz221.toInt := fun h9 => cz222 (zi_le.mpr h9)
              refine lv_aload_n hx hb dX7_meet_199 rfl (lv_at hl 3 rfl) ?_
              refine lv_dup hx hb dX7_meet_200 rfl ?_
              refine va_get (D := (dC, dI)) (ci := 7) (v := .int (vS 0)) (C := RX7) (T := TX7) (N := 9) hx hb hts (fun w h => List.mem_cons_of_mem _ (List.mem_append_right _ (List.mem_append_right _ (List.mem_append_left _ h)))) hown hK hP 0 rfl rfl 1 (by decide) (hts (.fieldLink RX7 29 "SagMemory$State" "ruined" "I") (wl_mem 36 rfl)) (fun _ h9 => h9) rfl dX7_meet_201 ?_
              refine lv_iconst (v := 1) hx hb dX7_meet_204 (by decide) ?_
              refine lv_aload_n hx hb dX7_meet_205 rfl (lv_at hl 3 rfl) ?_
              refine va_get (D := (dC, dI)) (ci := 7) (v := .int rz140) (C := RX7) (T := TX7) (N := 9) hx hb hts (fun w h => List.mem_cons_of_mem _ (List.mem_append_right _ (List.mem_append_right _ (List.mem_append_left _ h)))) hown hK hP 0 rfl rfl 3 (by decide) (hts (.fieldLink RX7 17 "SagMemory$State" "came" "I") (wl_mem 4 rfl)) (fun _ h9 => h9) rfl dX7_meet_206 ?_
              refine lv_ishl hx hb dX7_meet_209 ?_
              refine lv_topi (fun xz229 exz229 => ?_)
              refine lv_ior hx hb dX7_meet_210 ?_
              refine lv_topi (fun xz230 exz230 => ?_)
              refine va_put (D := (dC, dI)) (ci := 7) (v := .int xz230) (ty := .int) (C := RX7) (T := TX7) (N := 9) hx hb hts (fun w h => List.mem_cons_of_mem _ (List.mem_append_right _ (List.mem_append_right _ (List.mem_append_left _ h)))) tyX7 tyX7_ok nmX7 hown hK hP hD hS 0 rfl rfl 1 (by decide) (hts (.fieldLink RX7 29 "SagMemory$State" "ruined" "I") (wl_mem 36 rfl)) (fun _ h9 => h9) rfl (by decide +kernel) rfl rfl (Nat.le_of_ble_eq_true rfl) dX7_meet_211 (fun H locs hP hD hS => ?_)
              have hP : va_P (dC, dI) vwCl (List.flatten [(wState qS k (va_up (va_up (va_up (va_up (va_up (va_up (va_up (va_up vS 2 rz140) 5 xz208) 7 rz210) 3 rz140) 4 xz215) 6 xz218) 1 xz220) 0 xz230) (zput nS 1 1 nz211) (zput aS 2 2 az212))] ++ List.flatten [(wValley qV k vV bV cV wV aV eV)]) H := hP
              have hD : va_D A (List.flatten [(wState qS k (va_up (va_up (va_up (va_up (va_up (va_up (va_up (va_up vS 2 rz140) 5 xz208) 7 rz210) 3 rz140) 4 xz215) 6 xz218) 1 xz220) 0 xz230) (zput nS 1 1 nz211) (zput aS 2 2 az212))] ++ List.flatten [(wValley qV k vV bV cV wV aV eV)]) := hD
              rw [hQ]
              exact W.vret hx hb hr (fun t ht hW => ⟨⟨(), rfl, trivial, (va_up (va_up (va_up (va_up (va_up (va_up (va_up (va_up vS 2 rz140) 5 xz208) 7 rz210) 3 rz140) 4 xz215) 6 xz218) 1 xz220) 0 xz230), (zput nS 1 1 nz211), (zput aS 2 2 az212), (rg_put hnS hnz211), by rw [ht]; exact hP⟩, hS.F ht⟩) hS.2.2 dX7_meet_214
          · skip
            have zz231 : rz140.toInt = (2 : Int) := zi_eq.mp cz166
            refine W.eq (g2 := F0 m 76 ls [.int 2, .ref (qS 1)]) (by rw [cz166]) ?_
            refine va_aldq hx hb hK hP 1 4 rfl rfl (by unfold vp_in; decide) dX7_meet_76 ?_
            refine W.eq (g2 := F0 m 77 ls [.ref (qS 8)]) rfl ?_
            refine lv_astore (lv' := [(6, .ref (qS 8)), (0, .ref (qS 0)), (1, .ref (qV 0)), (2, .int p2), (3, .int p3), (4, .int p4), (5, .int p5)]) hx hb dX7_meet_77 hl (by decide) rfl (fun ls hl => ?_)
            refine lv_aload hx hb dX7_meet_79 (lv_at hl 0 rfl) ?_
            have hPc := hP.sub (ws' := (List.flatten [(wMem (fun i => qS (i + 8)) k (fun i => nS (i + 2)) (fun i => aS (i + 4)))])) [8, 9, 10] rfl
            refine vp_callSi (va_Run.run (va_runV (As := []) (rest := []) ⟨hx, hb, hml, hown, hts⟩ (c_X2_depth l dC dI k (fun i => qS (i + 8)) (fun i => nS (i + 2)) (fun i => aS (i + 4)) (fun i => hnS (i + 2))) (cwV 0 hts (gk_V (wl_mem 18 rfl) (wl_mem 19 rfl) (wl_mem 20 rfl) (wl_mem 21 rfl) (fun w h => List.mem_cons_of_mem _ (List.mem_append_right _ (List.mem_append_right _ (List.mem_append_right _ (List.mem_append_right _ (List.mem_append_right _ (List.mem_append_left _ h))))))) wkg_c_X2_depth) rfl rfl rfl (by decide +kernel) ⟨Nat.le_of_ble_eq_true rfl, Nat.le_of_ble_eq_true rfl⟩) ⟨fun a U g mk q => by obtain ⟨q0, qP, qK⟩ := q; exact ⟨q0, qP, va_K.moved (u := U) (U := U.calling g mk a) (Vm.Alike.refl U.vm) qK⟩, va_recv hK hPc (ci := 2) (q0 := 0) rfl rfl, fun U hU hW => ⟨rfl, by rw [hU]; exact hPc, va_K.moved hW.alike hK⟩⟩ rfl rfl hl.1 rfl (lv_room (Nat.le_of_ble_eq_true rfl)) dX7_meet_81 ⟨Nat.le_of_ble_eq_true rfl, Nat.le_of_ble_eq_true rfl⟩)) (fun rz233 gz232 => ?_)
            clear hPc
            refine lv_istore (lv' := [(7, .int rz233), (6, .ref (qS 8)), (0, .ref (qS 0)), (1, .ref (qV 0)), (2, .int p2), (3, .int p3), (4, .int p4), (5, .int p5)]) hx hb dX7_meet_84 hl (by decide) rfl (fun ls hl => ?_)
            refine lv_aload_n hx hb dX7_meet_86 rfl (lv_at hl 2 rfl) ?_
            refine lv_iconst (v := 0) hx hb dX7_meet_87 (by decide) ?_
            refine lv_iload hx hb dX7_meet_88 (lv_at hl 6 rfl) ?_
            refine lv_iconst (v := 0) hx hb dX7_meet_90 (by decide) ?_
            refine lv_aload hx hb dX7_meet_91 (lv_at hl 1 rfl) ?_
            refine lv_aload hx hb dX7_meet_93 (lv_at hl 1 rfl) ?_
            refine va_get (D := (dC, dI)) (ci := 2) (v := .int (nS 2)) (C := RX2) (T := TX2) (N := 3) hx hb hts (fun w h => List.mem_cons_of_mem _ (List.mem_append_right _ (List.mem_append_right _ (List.mem_append_right _ (List.mem_append_right _ (List.mem_append_right _ (List.mem_append_right _ (List.mem_append_left _ h)))))))) hown hK hP 8 rfl rfl 2 (by decide) (hts (.fieldLink RX7 68 "SagMemory$Memory" "size" "I") (wl_mem 22 rfl)) (fun _ h9 => h9) rfl dX7_meet_95 ?_
            have bz234 := hnS 2
            refine lv_iconst (v := 1) hx hb dX7_meet_98 (by decide) ?_
            refine lv_isub hx hb dX7_meet_99 ?_
            refine lv_topi (fun xz235 exz235 => ?_)
            have fxz235 : xz235.toInt = (nS 2).toInt - (1 : Int) := by rw [exz235]; exact fb_subI (x := (nS 2)) (y := (1 : Int32)) (by show -2147483648 ≤ (nS 2).toInt - (1 : Int); omega) (by show (nS 2).toInt - (1 : Int) < 2147483648; omega)
            have hPc := hP.sub (ws' := (List.flatten [(wMem (fun i => qS (i + 8)) k (fun i => nS (i + 2)) (fun i => aS (i + 4)))])) [8, 9, 10] rfl
            refine vp_callSi (va_Run.run (va_runV (As := [.int xz235]) (rest := [.int 0, .int p4, .int 0, .ref (qS 0)]) ⟨hx, hb, hml, hown, hts⟩ (c_X2_heaviest l dC dI k (fun i => qS (i + 8)) (fun i => nS (i + 2)) (fun i => aS (i + 4)) xz235 (fun i => hnS (i + 2))) (cwV 1 hts (gk_V (wl_mem 23 rfl) (wl_mem 24 rfl) (wl_mem 25 rfl) (wl_mem 21 rfl) (fun w h => List.mem_cons_of_mem _ (List.mem_append_right _ (List.mem_append_right _ (List.mem_append_right _ (List.mem_append_right _ (List.mem_append_right _ (List.mem_append_right _ (List.mem_append_right _ (List.mem_append_left _ h))))))))) wkg_c_X2_heaviest) rfl rfl rfl (by decide +kernel) ⟨Nat.le_of_ble_eq_true rfl, Nat.le_of_ble_eq_true rfl⟩) ⟨fun a U g mk q => by obtain ⟨q0, qP, qK⟩ := q; exact ⟨q0, qP, va_K.moved (u := U) (U := U.calling g mk a) (Vm.Alike.refl U.vm) qK⟩, va_recv hK hPc (ci := 2) (q0 := 0) rfl rfl, fun U hU hW => ⟨rfl, by rw [hU]; exact hPc, va_K.moved hW.alike hK⟩⟩ rfl rfl hl.1 rfl (lv_room (Nat.le_of_ble_eq_true rfl)) dX7_meet_100 ⟨Nat.le_of_ble_eq_true rfl, Nat.le_of_ble_eq_true rfl⟩)) (fun rz237 gz236 => ?_)
            clear hPc
            refine va_mmax hx hb (by rw [hml]; exact hl.1.symm) hown (hts (.methodLink RX7 75 Lib.Math.max.name) (wl_mem 26 rfl)) (hts (.static Lib.Math.max.name) (wl_mem 27 rfl)) (hts (.initialized "java/lang/Math") (wl_mem 28 rfl)) (hts (.code Lib.Math.max.name Lib.Math.max.code 2 (some .int)) (wl_mem 29 rfl)) (Nat.le_of_ble_eq_true rfl) (Nat.le_of_ble_eq_true rfl) (Nat.zero_le _) (Nat.zero_le _) dX7_meet_103 ?_
            refine lv_topi (fun xz238 exz238 => ?_)
            refine lv_isub hx hb dX7_meet_106 ?_
            refine lv_topi (fun xz239 exz239 => ?_)
            refine va_mmax hx hb (by rw [hml]; exact hl.1.symm) hown (hts (.methodLink RX7 75 Lib.Math.max.name) (wl_mem 26 rfl)) (hts (.static Lib.Math.max.name) (wl_mem 27 rfl)) (hts (.initialized "java/lang/Math") (wl_mem 28 rfl)) (hts (.code Lib.Math.max.name Lib.Math.max.code 2 (some .int)) (wl_mem 29 rfl)) (Nat.le_of_ble_eq_true rfl) (Nat.le_of_ble_eq_true rfl) (Nat.zero_le _) (Nat.zero_le _) dX7_meet_107 ?_
            refine lv_topi (fun xz240 exz240 => ?_)
            refine va_put (D := (dC, dI)) (ci := 7) (v := .int xz240) (ty := .int) (C := RX7) (T := TX7) (N := 9) hx hb hts (fun w h => List.mem_cons_of_mem _ (List.mem_append_right _ (List.mem_append_right _ (List.mem_append_left _ h)))) tyX7 tyX7_ok nmX7 hown hK hP hD hS 0 rfl rfl 6 (by decide) (hts (.fieldLink RX7 48 "SagMemory$State" "noise" "I") (wl_mem 7 rfl)) (fun _ h9 => h9) rfl (by decide +kernel) rfl rfl (Nat.le_of_ble_eq_true rfl) dX7_meet_110 (fun H locs hP hD hS => ?_)
            have hP : va_P (dC, dI) vwCl (List.flatten [(wState qS k (va_up (va_up (va_up (va_up (va_up (va_up vS 2 rz140) 3 (-1 : Int32)) 4 (0 : Int32)) 6 (0 : Int32)) 7 (0 : Int32)) 5 xz240) nS aS)] ++ List.flatten [(wValley qV k vV bV cV wV aV eV)]) H := hP
            have hD : va_D A (List.flatten [(wState qS k (va_up (va_up (va_up (va_up (va_up (va_up vS 2 rz140) 3 (-1 : Int32)) 4 (0 : Int32)) 6 (0 : Int32)) 7 (0 : Int32)) 5 xz240) nS aS)] ++ List.flatten [(wValley qV k vV bV cV wV aV eV)]) := hD
            refine lv_aload_n hx hb dX7_meet_113 rfl (lv_at hl 2 rfl) ?_
            refine lv_aload hx hb dX7_meet_114 (lv_at hl 1 rfl) ?_
            refine lv_iload hx hb dX7_meet_116 (lv_at hl 6 rfl) ?_
            refine lv_iload_n hx hb dX7_meet_118 rfl (lv_at hl 4 rfl) ?_
            refine lv_iload hx hb dX7_meet_119 (lv_at hl 7 rfl) ?_
            have hPc := hP.sub (ws' := (List.flatten [(wMem (fun i => qS (i + 8)) k (fun i => nS (i + 2)) (fun i => aS (i + 4)))] ++ List.flatten ([] : List va_W))) [8, 9, 10] rfl
            have hC : [8, 9, 10].map (fun i => (List.flatten [(wState qS k (va_up (va_up (va_up (va_up (va_up (va_up vS 2 rz140) 3 (-1 : Int32)) 4 (0 : Int32)) 6 (0 : Int32)) 7 (0 : Int32)) 5 xz240) nS aS)] ++ List.flatten [(wValley qV k vV bV cV wV aV eV)])[i]?) = (List.flatten [(wMem (fun i => qS (i + 8)) k (fun i => nS (i + 2)) (fun i => aS (i + 4)))] ++ List.flatten ([] : List va_W)).map some := rfl
            have hDc := hD.sub [8, 9, 10] (by decide) hC
            have hFc := va_free hD hS hA [8, 9, 10] hC
            refine va_calli (va_runV (As := [.int p4, .int p2, .int p5]) (rest := [.ref (qS 0)]) ⟨hx, hb, hml, hown, hts⟩ (c_X2_pass l dC dI k H.size (fun i => qS (i + 8)) (fun i => nS (i + 2)) (fun i => aS (i + 4)) p4 p2 p5 (fun i => hnS (i + 2)) (by show 0 ≤ p4.toInt ∧ p4.toInt ≤ 99; omega)) (cwV 3 hts (gk_V (wl_mem 30 rfl) (wl_mem 31 rfl) (wl_mem 32 rfl) (wl_mem 21 rfl) (fun w h => List.mem_cons_of_mem _ (List.mem_append_right _ (List.mem_append_right _ (List.mem_append_right _ (List.mem_append_right _ (List.mem_append_right _ (List.mem_append_right _ (List.mem_append_right _ (List.mem_append_right _ (List.mem_append_left _ h)))))))))) wkg_c_X2_pass) rfl rfl rfl (by decide +kernel) ⟨Nat.le_of_ble_eq_true rfl, Nat.le_of_ble_eq_true rfl⟩) ⟨fun a U g mk q => by obtain ⟨q0, q1, qP, qK, qD⟩ := q; exact ⟨q0, q1, qP, va_K.moved (u := U) (U := U.calling g mk a) (Vm.Alike.refl U.vm) qK, qD⟩, va_recv hK hPc (ci := 2) (q0 := 0) rfl rfl, fun U hU hW => ⟨rfl, by rw [hU], by rw [hU]; exact hPc, va_K.moved hW.alike hK, hDc.weaken (fun _ _ _ _ => trivial)⟩⟩ rfl rfl hl.1 rfl (lv_room (Nat.le_of_ble_eq_true rfl)) dX7_meet_121 ⟨Nat.le_of_ble_eq_true rfl, Nat.le_of_ble_eq_true rfl⟩) hS (fun q _ h => hFc q h) hFc (fun rz242 u t H1 locs ht hvm gz241 hB hz1 hk1 hS => ?_)
            obtain ⟨nz243, az244, hnz243, hP1⟩ := hB
            rw [ht] at hP1
            obtain ⟨hP, hD⟩ := w_call hP hD [8, 9, 10] hC hk1 hP1 rfl (by decide)
            clear hPc hC hDc hFc hk1 hP1
            generalize H1 = H at hP hS ⊢
            have hP : va_P (dC, dI) vwCl (List.flatten [(wState qS k (va_up (va_up (va_up (va_up (va_up (va_up vS 2 rz140) 3 (-1 : Int32)) 4 (0 : Int32)) 6 (0 : Int32)) 7 (0 : Int32)) 5 xz240) (zput nS 2 1 nz243) (zput aS 4 2 az244))] ++ List.flatten [(wValley qV k vV bV cV wV aV eV)]) H := hP
            have hD : va_D A (List.flatten [(wState qS k (va_up (va_up (va_up (va_up (va_up (va_up vS 2 rz140) 3 (-1 : Int32)) 4 (0 : Int32)) 6 (0 : Int32)) 7 (0 : Int32)) 5 xz240) (zput nS 2 1 nz243) (zput aS 4 2 az244))] ++ List.flatten [(wValley qV k vV bV cV wV aV eV)]) := hD
            refine W.widen (k := 0) (n := 0) (Nat.le_refl 0) (Nat.le_refl 0) ?_
            refine va_put (D := (dC, dI)) (ci := 7) (v := .int rz242) (ty := .int) (C := RX7) (T := TX7) (N := 9) hx hb hts (fun w h => List.mem_cons_of_mem _ (List.mem_append_right _ (List.mem_append_right _ (List.mem_append_left _ h)))) tyX7 tyX7_ok nmX7 hown hK hP hD hS 0 rfl rfl 8 (by decide) (hts (.fieldLink RX7 54 "SagMemory$State" "wiped" "I") (wl_mem 9 rfl)) (fun _ h9 => h9) rfl (by decide +kernel) rfl rfl (Nat.le_of_ble_eq_true rfl) dX7_meet_124 (fun H locs hP hD hS => ?_)
            have hP : va_P (dC, dI) vwCl (List.flatten [(wState qS k (va_up (va_up (va_up (va_up (va_up (va_up vS 2 rz140) 3 (-1 : Int32)) 4 (0 : Int32)) 6 (0 : Int32)) 5 xz240) 7 rz242) (zput nS 2 1 nz243) (zput aS 4 2 az244))] ++ List.flatten [(wValley qV k vV bV cV wV aV eV)]) H := hP
            have hD : va_D A (List.flatten [(wState qS k (va_up (va_up (va_up (va_up (va_up (va_up vS 2 rz140) 3 (-1 : Int32)) 4 (0 : Int32)) 6 (0 : Int32)) 5 xz240) 7 rz242) (zput nS 2 1 nz243) (zput aS 4 2 az244))] ++ List.flatten [(wValley qV k vV bV cV wV aV eV)]) := hD
            refine lv_aload hx hb dX7_meet_127 (lv_at hl 1 rfl) ?_
            have hPc := hP.sub (ws' := (List.flatten [(wMem (fun i => qS (i + 8)) k (fun i => (zput nS 2 1 nz243) (i + 2)) (fun i => (zput aS 4 2 az244) (i + 4)))])) [8, 9, 10] rfl
            refine vp_callSi (va_Run.run (va_runV (As := []) (rest := []) ⟨hx, hb, hml, hown, hts⟩ (c_X2_depth l dC dI k (fun i => qS (i + 8)) (fun i => (zput nS 2 1 nz243) (i + 2)) (fun i => (zput aS 4 2 az244) (i + 4)) (fun i => (rg_put hnS hnz243) (i + 2))) (cwV 0 hts (gk_V (wl_mem 18 rfl) (wl_mem 19 rfl) (wl_mem 20 rfl) (wl_mem 21 rfl) (fun w h => List.mem_cons_of_mem _ (List.mem_append_right _ (List.mem_append_right _ (List.mem_append_right _ (List.mem_append_right _ (List.mem_append_right _ (List.mem_append_left _ h))))))) wkg_c_X2_depth) rfl rfl rfl (by decide +kernel) ⟨Nat.le_of_ble_eq_true rfl, Nat.le_of_ble_eq_true rfl⟩) ⟨fun a U g mk q => by obtain ⟨q0, qP, qK⟩ := q; exact ⟨q0, qP, va_K.moved (u := U) (U := U.calling g mk a) (Vm.Alike.refl U.vm) qK⟩, va_recv hK hPc (ci := 2) (q0 := 0) rfl rfl, fun U hU hW => ⟨rfl, by rw [hU]; exact hPc, va_K.moved hW.alike hK⟩⟩ rfl rfl hl.1 rfl (lv_room (Nat.le_of_ble_eq_true rfl)) dX7_meet_129 ⟨Nat.le_of_ble_eq_true rfl, Nat.le_of_ble_eq_true rfl⟩)) (fun rz246 gz245 => ?_)
            clear hPc
            refine lv_istore (lv' := [(8, .int rz246), (7, .int rz233), (6, .ref (qS 8)), (0, .ref (qS 0)), (1, .ref (qV 0)), (2, .int p2), (3, .int p3), (4, .int p4), (5, .int p5)]) hx hb dX7_meet_132 hl (by decide) rfl (fun ls hl => ?_)
            refine lv_aload_n hx hb dX7_meet_134 rfl (lv_at hl 3 rfl) ?_
            refine lv_aload_n hx hb dX7_meet_135 rfl (lv_at hl 3 rfl) ?_
            refine va_get (D := (dC, dI)) (ci := 7) (v := .int rz140) (C := RX7) (T := TX7) (N := 9) hx hb hts (fun w h => List.mem_cons_of_mem _ (List.mem_append_right _ (List.mem_append_right _ (List.mem_append_left _ h)))) hown hK hP 0 rfl rfl 3 (by decide) (hts (.fieldLink RX7 17 "SagMemory$State" "came" "I") (wl_mem 4 rfl)) (fun _ h9 => h9) rfl dX7_meet_136 ?_
            refine va_put (D := (dC, dI)) (ci := 7) (v := .int rz140) (ty := .int) (C := RX7) (T := TX7) (N := 9) hx hb hts (fun w h => List.mem_cons_of_mem _ (List.mem_append_right _ (List.mem_append_right _ (List.mem_append_left _ h)))) tyX7 tyX7_ok nmX7 hown hK hP hD hS 0 rfl rfl 4 (by decide) (hts (.fieldLink RX7 21 "SagMemory$State" "went" "I") (wl_mem 5 rfl)) (fun _ h9 => h9) rfl (by decide +kernel) rfl rfl (Nat.le_of_ble_eq_true rfl) dX7_meet_139 (fun H locs hP hD hS => ?_)
            have hP : va_P (dC, dI) vwCl (List.flatten [(wState qS k (va_up (va_up (va_up (va_up (va_up (va_up vS 2 rz140) 4 (0 : Int32)) 6 (0 : Int32)) 5 xz240) 7 rz242) 3 rz140) (zput nS 2 1 nz243) (zput aS 4 2 az244))] ++ List.flatten [(wValley qV k vV bV cV wV aV eV)]) H := hP
            have hD : va_D A (List.flatten [(wState qS k (va_up (va_up (va_up (va_up (va_up (va_up vS 2 rz140) 4 (0 : Int32)) 6 (0 : Int32)) 5 xz240) 7 rz242) 3 rz140) (zput nS 2 1 nz243) (zput aS 4 2 az244))] ++ List.flatten [(wValley qV k vV bV cV wV aV eV)]) := hD
            refine lv_aload_n hx hb dX7_meet_142 rfl (lv_at hl 3 rfl) ?_
            refine lv_iload hx hb dX7_meet_143 (lv_at hl 0 rfl) ?_
            refine lv_iload hx hb dX7_meet_145 (lv_at hl 1 rfl) ?_
            refine lv_isub hx hb dX7_meet_147 ?_
            refine lv_topi (fun xz247 exz247 => ?_)
            refine va_put (D := (dC, dI)) (ci := 7) (v := .int xz247) (ty := .int) (C := RX7) (T := TX7) (N := 9) hx hb hts (fun w h => List.mem_cons_of_mem _ (List.mem_append_right _ (List.mem_append_right _ (List.mem_append_left _ h)))) tyX7 tyX7_ok nmX7 hown hK hP hD hS 0 rfl rfl 5 (by decide) (hts (.fieldLink RX7 45 "SagMemory$State" "more" "I") (wl_mem 6 rfl)) (fun _ h9 => h9) rfl (by decide +kernel) rfl rfl (Nat.le_of_ble_eq_true rfl) dX7_meet_148 (fun H locs hP hD hS => ?_)
            have hP : va_P (dC, dI) vwCl (List.flatten [(wState qS k (va_up (va_up (va_up (va_up (va_up (va_up vS 2 rz140) 6 (0 : Int32)) 5 xz240) 7 rz242) 3 rz140) 4 xz247) (zput nS 2 1 nz243) (zput aS 4 2 az244))] ++ List.flatten [(wValley qV k vV bV cV wV aV eV)]) H := hP
            have hD : va_D A (List.flatten [(wState qS k (va_up (va_up (va_up (va_up (va_up (va_up vS 2 rz140) 6 (0 : Int32)) 5 xz240) 7 rz242) 3 rz140) 4 xz247) (zput nS 2 1 nz243) (zput aS 4 2 az244))] ++ List.flatten [(wValley qV k vV bV cV wV aV eV)]) := hD
            refine lv_aload_n hx hb dX7_meet_151 rfl (lv_at hl 3 rfl) ?_
            refine lv_aload_n hx hb dX7_meet_152 rfl (lv_at hl 4 rfl) ?_
            refine va_get (D := (dC, dI)) (ci := 10) (v := .ref (qV 2)) (C := RX10) (T := TX10) (N := 16) hx hb hts (fun w h => List.mem_cons_of_mem _ (List.mem_append_right _ (List.mem_append_right _ (List.mem_append_right _ (List.mem_append_right _ (List.mem_append_right _ (List.mem_append_right _ (List.mem_append_right _ (List.mem_append_right _ (List.mem_append_right _ (List.mem_append_left _ h))))))))))) hown hK hP 11 rfl rfl 1 (by decide) (hts (.fieldLink RX7 84 "SagMemory$Valley" "tolls" "[I") (wl_mem 33 rfl)) (fun _ h9 => h9) rfl dX7_meet_153 ?_
            refine lv_aload_n hx hb dX7_meet_156 rfl (lv_at hl 3 rfl) ?_
            refine va_get (D := (dC, dI)) (ci := 7) (v := .int rz140) (C := RX7) (T := TX7) (N := 9) hx hb hts (fun w h => List.mem_cons_of_mem _ (List.mem_append_right _ (List.mem_append_right _ (List.mem_append_left _ h)))) hown hK hP 0 rfl rfl 3 (by decide) (hts (.fieldLink RX7 17 "SagMemory$State" "came" "I") (wl_mem 4 rfl)) (fun _ h9 => h9) rfl dX7_meet_157 ?_
            refine va_iald hx hb hK hP 13 0 rfl rfl (vp_in_iff.mpr ⟨by omega, by omega⟩) dX7_meet_160 ?_
            refine lv_topi (fun xz248 exz248 => ?_)
            refine lv_iconst (v := 0) hx hb dX7_meet_161 (by decide) ?_
            refine lv_aload_n hx hb dX7_meet_162 rfl (lv_at hl 3 rfl) ?_
            refine va_get (D := (dC, dI)) (ci := 7) (v := .int xz247) (C := RX7) (T := TX7) (N := 9) hx hb hts (fun w h => List.mem_cons_of_mem _ (List.mem_append_right _ (List.mem_append_right _ (List.mem_append_left _ h)))) hown hK hP 0 rfl rfl 5 (by decide) (hts (.fieldLink RX7 45 "SagMemory$State" "more" "I") (wl_mem 6 rfl)) (fun _ h9 => h9) rfl dX7_meet_163 ?_
            refine va_mmax hx hb (by rw [hml]; exact hl.1.symm) hown (hts (.methodLink RX7 75 Lib.Math.max.name) (wl_mem 26 rfl)) (hts (.static Lib.Math.max.name) (wl_mem 27 rfl)) (hts (.initialized "java/lang/Math") (wl_mem 28 rfl)) (hts (.code Lib.Math.max.name Lib.Math.max.code 2 (some .int)) (wl_mem 29 rfl)) (Nat.le_of_ble_eq_true rfl) (Nat.le_of_ble_eq_true rfl) (Nat.zero_le _) (Nat.zero_le _) dX7_meet_166 ?_
            refine lv_topi (fun xz249 exz249 => ?_)
            refine lv_imul hx hb dX7_meet_169 ?_
            refine lv_topi (fun xz250 exz250 => ?_)
            refine va_put (D := (dC, dI)) (ci := 7) (v := .int xz250) (ty := .int) (C := RX7) (T := TX7) (N := 9) hx hb hts (fun w h => List.mem_cons_of_mem _ (List.mem_append_right _ (List.mem_append_right _ (List.mem_append_left _ h)))) tyX7 tyX7_ok nmX7 hown hK hP hD hS 0 rfl rfl 7 (by decide) (hts (.fieldLink RX7 51 "SagMemory$State" "paid" "I") (wl_mem 8 rfl)) (fun _ h9 => h9) rfl (by decide +kernel) rfl rfl (Nat.le_of_ble_eq_true rfl) dX7_meet_170 (fun H locs hP hD hS => ?_)
            have hP : va_P (dC, dI) vwCl (List.flatten [(wState qS k (va_up (va_up (va_up (va_up (va_up (va_up vS 2 rz140) 5 xz240) 7 rz242) 3 rz140) 4 xz247) 6 xz250) (zput nS 2 1 nz243) (zput aS 4 2 az244))] ++ List.flatten [(wValley qV k vV bV cV wV aV eV)]) H := hP
            have hD : va_D A (List.flatten [(wState qS k (va_up (va_up (va_up (va_up (va_up (va_up vS 2 rz140) 5 xz240) 7 rz242) 3 rz140) 4 xz247) 6 xz250) (zput nS 2 1 nz243) (zput aS 4 2 az244))] ++ List.flatten [(wValley qV k vV bV cV wV aV eV)]) := hD
            refine lv_aload_n hx hb dX7_meet_173 rfl (lv_at hl 3 rfl) ?_
            refine lv_dup hx hb dX7_meet_174 rfl ?_
            refine va_get (D := (dC, dI)) (ci := 7) (v := .int (vS 1)) (C := RX7) (T := TX7) (N := 9) hx hb hts (fun w h => List.mem_cons_of_mem _ (List.mem_append_right _ (List.mem_append_right _ (List.mem_append_left _ h)))) hown hK hP 0 rfl rfl 2 (by decide) (hts (.fieldLink RX7 32 "SagMemory$State" "crossed" "I") (wl_mem 34 rfl)) (fun _ h9 => h9) rfl dX7_meet_175 ?_
            refine lv_iconst (v := 1) hx hb dX7_meet_178 (by decide) ?_
            refine lv_iload_n hx hb dX7_meet_179 rfl (lv_at hl 5 rfl) ?_
            refine lv_ishl hx hb dX7_meet_180 ?_
            refine lv_topi (fun xz251 exz251 => ?_)
            refine lv_ior hx hb dX7_meet_181 ?_
            refine lv_topi (fun xz252 exz252 => ?_)
            refine va_put (D := (dC, dI)) (ci := 7) (v := .int xz252) (ty := .int) (C := RX7) (T := TX7) (N := 9) hx hb hts (fun w h => List.mem_cons_of_mem _ (List.mem_append_right _ (List.mem_append_right _ (List.mem_append_left _ h)))) tyX7 tyX7_ok nmX7 hown hK hP hD hS 0 rfl rfl 2 (by decide) (hts (.fieldLink RX7 32 "SagMemory$State" "crossed" "I") (wl_mem 34 rfl)) (fun _ h9 => h9) rfl (by decide +kernel) rfl rfl (Nat.le_of_ble_eq_true rfl) dX7_meet_182 (fun H locs hP hD hS => ?_)
            have hP : va_P (dC, dI) vwCl (List.flatten [(wState qS k (va_up (va_up (va_up (va_up (va_up (va_up (va_up vS 2 rz140) 5 xz240) 7 rz242) 3 rz140) 4 xz247) 6 xz250) 1 xz252) (zput nS 2 1 nz243) (zput aS 4 2 az244))] ++ List.flatten [(wValley qV k vV bV cV wV aV eV)]) H := hP
            have hD : va_D A (List.flatten [(wState qS k (va_up (va_up (va_up (va_up (va_up (va_up (va_up vS 2 rz140) 5 xz240) 7 rz242) 3 rz140) 4 xz247) 6 xz250) 1 xz252) (zput nS 2 1 nz243) (zput aS 4 2 az244))] ++ List.flatten [(wValley qV k vV bV cV wV aV eV)]) := hD
            refine lv_iload hx hb dX7_meet_185 (lv_at hl 0 rfl) ?_
            refine lv_aload_n hx hb dX7_meet_187 rfl (lv_at hl 4 rfl) ?_
            refine va_get (D := (dC, dI)) (ci := 10) (v := .ref (qV 1)) (C := RX10) (T := TX10) (N := 16) hx hb hts (fun w h => List.mem_cons_of_mem _ (List.mem_append_right _ (List.mem_append_right _ (List.mem_append_right _ (List.mem_append_right _ (List.mem_append_right _ (List.mem_append_right _ (List.mem_append_right _ (List.mem_append_right _ (List.mem_append_right _ (List.mem_append_left _ h))))))))))) hown hK hP 11 rfl rfl 0 (by decide) (hts (.fieldLink RX7 88 "SagMemory$Valley" "holds" "[I") (wl_mem 35 rfl)) (fun _ h9 => h9) rfl dX7_meet_188 ?_
            refine lv_aload_n hx hb dX7_meet_191 rfl (lv_at hl 3 rfl) ?_
            refine va_get (D := (dC, dI)) (ci := 7) (v := .int rz140) (C := RX7) (T := TX7) (N := 9) hx hb hts (fun w h => List.mem_cons_of_mem _ (List.mem_append_right _ (List.mem_append_right _ (List.mem_append_left _ h)))) hown hK hP 0 rfl rfl 3 (by decide) (hts (.fieldLink RX7 17 "SagMemory$State" "came" "I") (wl_mem 4 rfl)) (fun _ h9 => h9) rfl dX7_meet_192 ?_
            refine va_iald hx hb hK hP 12 0 rfl rfl (vp_in_iff.mpr ⟨by omega, by omega⟩) dX7_meet_195 ?_
            refine lv_topi (fun xz253 exz253 => ?_)
            refine lv_icmp_le (tgt := 214) hx hb dX7_meet_196 (by decide) (fun cz254 => ?_) (fun cz254 => ?_)
            · skip
              have bz255 := fb_rng rz246
              have bz256 := fb_rng xz253
              have zz257 : rz246.toInt ≤ xz253.toInt := zi_le.mp cz254
              rw [hQ]
              exact W.vret hx hb hr (fun t ht hW => ⟨⟨(), rfl, trivial, (va_up (va_up (va_up (va_up (va_up (va_up (va_up vS 2 rz140) 5 xz240) 7 rz242) 3 rz140) 4 xz247) 6 xz250) 1 xz252), (zput nS 2 1 nz243), (zput aS 4 2 az244), (rg_put hnS hnz243), by rw [ht]; exact hP⟩, hS.F ht⟩) hS.2.2 dX7_meet_214
            · skip
              have bz258 := fb_rng rz246
              have bz259 := fb_rng xz253
              have zz260 : ¬ rz246.toInt ≤ xz253.toInt := fun h9 => cz254 (zi_le.mpr h9)
              refine lv_aload_n hx hb dX7_meet_199 rfl (lv_at hl 3 rfl) ?_
              refine lv_dup hx hb dX7_meet_200 rfl ?_
              refine va_get (D := (dC, dI)) (ci := 7) (v := .int (vS 0)) (C := RX7) (T := TX7) (N := 9) hx hb hts (fun w h => List.mem_cons_of_mem _ (List.mem_append_right _ (List.mem_append_right _ (List.mem_append_left _ h)))) hown hK hP 0 rfl rfl 1 (by decide) (hts (.fieldLink RX7 29 "SagMemory$State" "ruined" "I") (wl_mem 36 rfl)) (fun _ h9 => h9) rfl dX7_meet_201 ?_
              refine lv_iconst (v := 1) hx hb dX7_meet_204 (by decide) ?_
              refine lv_aload_n hx hb dX7_meet_205 rfl (lv_at hl 3 rfl) ?_
              refine va_get (D := (dC, dI)) (ci := 7) (v := .int rz140) (C := RX7) (T := TX7) (N := 9) hx hb hts (fun w h => List.mem_cons_of_mem _ (List.mem_append_right _ (List.mem_append_right _ (List.mem_append_left _ h)))) hown hK hP 0 rfl rfl 3 (by decide) (hts (.fieldLink RX7 17 "SagMemory$State" "came" "I") (wl_mem 4 rfl)) (fun _ h9 => h9) rfl dX7_meet_206 ?_
              refine lv_ishl hx hb dX7_meet_209 ?_
              refine lv_topi (fun xz261 exz261 => ?_)
              refine lv_ior hx hb dX7_meet_210 ?_
              refine lv_topi (fun xz262 exz262 => ?_)
              refine va_put (D := (dC, dI)) (ci := 7) (v := .int xz262) (ty := .int) (C := RX7) (T := TX7) (N := 9) hx hb hts (fun w h => List.mem_cons_of_mem _ (List.mem_append_right _ (List.mem_append_right _ (List.mem_append_left _ h)))) tyX7 tyX7_ok nmX7 hown hK hP hD hS 0 rfl rfl 1 (by decide) (hts (.fieldLink RX7 29 "SagMemory$State" "ruined" "I") (wl_mem 36 rfl)) (fun _ h9 => h9) rfl (by decide +kernel) rfl rfl (Nat.le_of_ble_eq_true rfl) dX7_meet_211 (fun H locs hP hD hS => ?_)
              have hP : va_P (dC, dI) vwCl (List.flatten [(wState qS k (va_up (va_up (va_up (va_up (va_up (va_up (va_up (va_up vS 2 rz140) 5 xz240) 7 rz242) 3 rz140) 4 xz247) 6 xz250) 1 xz252) 0 xz262) (zput nS 2 1 nz243) (zput aS 4 2 az244))] ++ List.flatten [(wValley qV k vV bV cV wV aV eV)]) H := hP
              have hD : va_D A (List.flatten [(wState qS k (va_up (va_up (va_up (va_up (va_up (va_up (va_up (va_up vS 2 rz140) 5 xz240) 7 rz242) 3 rz140) 4 xz247) 6 xz250) 1 xz252) 0 xz262) (zput nS 2 1 nz243) (zput aS 4 2 az244))] ++ List.flatten [(wValley qV k vV bV cV wV aV eV)]) := hD
              rw [hQ]
              exact W.vret hx hb hr (fun t ht hW => ⟨⟨(), rfl, trivial, (va_up (va_up (va_up (va_up (va_up (va_up (va_up (va_up vS 2 rz140) 5 xz240) 7 rz242) 3 rz140) 4 xz247) 6 xz250) 1 xz252) 0 xz262), (zput nS 2 1 nz243), (zput aS 4 2 az244), (rg_put hnS hnz243), by rw [ht]; exact hP⟩, hS.F ht⟩) hS.2.2 dX7_meet_214
        · skip
          have zz263 : ¬ rz162.toInt = (0 : Int) := fun h9 => cz164 (zi_eq.mpr h9)
          rw [hQ]
          exact W.vret hx hb hr (fun t ht hW => ⟨⟨(), rfl, trivial, (va_up (va_up (va_up (va_up (va_up (va_up vS 2 rz140) 3 (-1 : Int32)) 4 (0 : Int32)) 5 (0 : Int32)) 6 (0 : Int32)) 7 (0 : Int32)), nS, aS, hnS, by rw [ht]; exact hP⟩, hS.F ht⟩) hS.2.2 dX7_meet_67
  · skip
    have zz264 : p3.toInt = (-1 : Int) := zi_eq.mp cz137
    refine lv_iconst (v := (-1)) hx hb dX7_meet_6 (by decide) ?_
    refine lv_goto (tgt := 17) hx hb dX7_meet_7 (by decide) ?_
    refine va_put (D := (dC, dI)) (ci := 7) (v := .int (-1)) (ty := .int) (C := RX7) (T := TX7) (N := 9) hx hb hts (fun w h => List.mem_cons_of_mem _ (List.mem_append_right _ (List.mem_append_right _ (List.mem_append_left _ h)))) tyX7 tyX7_ok nmX7 hown hK hP hD hS 0 rfl rfl 3 (by decide) (hts (.fieldLink RX7 17 "SagMemory$State" "came" "I") (wl_mem 4 rfl)) (fun _ h9 => h9) rfl (by decide +kernel) rfl rfl (Nat.le_of_ble_eq_true rfl) dX7_meet_17 (fun H locs hP hD hS => ?_)
    have hP : va_P (dC, dI) vwCl (List.flatten [(wState qS k (va_up vS 2 (-1 : Int32)) nS aS)] ++ List.flatten [(wValley qV k vV bV cV wV aV eV)]) H := hP
    have hD : va_D A (List.flatten [(wState qS k (va_up vS 2 (-1 : Int32)) nS aS)] ++ List.flatten [(wValley qV k vV bV cV wV aV eV)]) := hD
    refine lv_aload_n hx hb dX7_meet_20 rfl (lv_at hl 0 rfl) ?_
    refine lv_iconst (v := (-1)) hx hb dX7_meet_21 (by decide) ?_
    refine va_put (D := (dC, dI)) (ci := 7) (v := .int (-1)) (ty := .int) (C := RX7) (T := TX7) (N := 9) hx hb hts (fun w h => List.mem_cons_of_mem _ (List.mem_append_right _ (List.mem_append_right _ (List.mem_append_left _ h)))) tyX7 tyX7_ok nmX7 hown hK hP hD hS 0 rfl rfl 4 (by decide) (hts (.fieldLink RX7 21 "SagMemory$State" "went" "I") (wl_mem 5 rfl)) (fun _ h9 => h9) rfl (by decide +kernel) rfl rfl (Nat.le_of_ble_eq_true rfl) dX7_meet_22 (fun H locs hP hD hS => ?_)
    have hP : va_P (dC, dI) vwCl (List.flatten [(wState qS k (va_up (va_up vS 2 (-1 : Int32)) 3 (-1 : Int32)) nS aS)] ++ List.flatten [(wValley qV k vV bV cV wV aV eV)]) H := hP
    have hD : va_D A (List.flatten [(wState qS k (va_up (va_up vS 2 (-1 : Int32)) 3 (-1 : Int32)) nS aS)] ++ List.flatten [(wValley qV k vV bV cV wV aV eV)]) := hD
    refine lv_aload_n hx hb dX7_meet_25 rfl (lv_at hl 0 rfl) ?_
    refine lv_iconst (v := 0) hx hb dX7_meet_26 (by decide) ?_
    refine va_put (D := (dC, dI)) (ci := 7) (v := .int 0) (ty := .int) (C := RX7) (T := TX7) (N := 9) hx hb hts (fun w h => List.mem_cons_of_mem _ (List.mem_append_right _ (List.mem_append_right _ (List.mem_append_left _ h)))) tyX7 tyX7_ok nmX7 hown hK hP hD hS 0 rfl rfl 5 (by decide) (hts (.fieldLink RX7 45 "SagMemory$State" "more" "I") (wl_mem 6 rfl)) (fun _ h9 => h9) rfl (by decide +kernel) rfl rfl (Nat.le_of_ble_eq_true rfl) dX7_meet_27 (fun H locs hP hD hS => ?_)
    have hP : va_P (dC, dI) vwCl (List.flatten [(wState qS k (va_up (va_up (va_up vS 2 (-1 : Int32)) 3 (-1 : Int32)) 4 (0 : Int32)) nS aS)] ++ List.flatten [(wValley qV k vV bV cV wV aV eV)]) H := hP
    have hD : va_D A (List.flatten [(wState qS k (va_up (va_up (va_up vS 2 (-1 : Int32)) 3 (-1 : Int32)) 4 (0 : Int32)) nS aS)] ++ List.flatten [(wValley qV k vV bV cV wV aV eV)]) := hD
    refine lv_aload_n hx hb dX7_meet_30 rfl (lv_at hl 0 rfl) ?_
    refine lv_iconst (v := 0) hx hb dX7_meet_31 (by decide) ?_
    refine va_put (D := (dC, dI)) (ci := 7) (v := .int 0) (ty := .int) (C := RX7) (T := TX7) (N := 9) hx hb hts (fun w h => List.mem_cons_of_mem _ (List.mem_append_right _ (List.mem_append_right _ (List.mem_append_left _ h)))) tyX7 tyX7_ok nmX7 hown hK hP hD hS 0 rfl rfl 6 (by decide) (hts (.fieldLink RX7 48 "SagMemory$State" "noise" "I") (wl_mem 7 rfl)) (fun _ h9 => h9) rfl (by decide +kernel) rfl rfl (Nat.le_of_ble_eq_true rfl) dX7_meet_32 (fun H locs hP hD hS => ?_)
    have hP : va_P (dC, dI) vwCl (List.flatten [(wState qS k (va_up (va_up (va_up (va_up vS 2 (-1 : Int32)) 3 (-1 : Int32)) 4 (0 : Int32)) 5 (0 : Int32)) nS aS)] ++ List.flatten [(wValley qV k vV bV cV wV aV eV)]) H := hP
    have hD : va_D A (List.flatten [(wState qS k (va_up (va_up (va_up (va_up vS 2 (-1 : Int32)) 3 (-1 : Int32)) 4 (0 : Int32)) 5 (0 : Int32)) nS aS)] ++ List.flatten [(wValley qV k vV bV cV wV aV eV)]) := hD
    refine lv_aload_n hx hb dX7_meet_35 rfl (lv_at hl 0 rfl) ?_
    refine lv_iconst (v := 0) hx hb dX7_meet_36 (by decide) ?_
    refine va_put (D := (dC, dI)) (ci := 7) (v := .int 0) (ty := .int) (C := RX7) (T := TX7) (N := 9) hx hb hts (fun w h => List.mem_cons_of_mem _ (List.mem_append_right _ (List.mem_append_right _ (List.mem_append_left _ h)))) tyX7 tyX7_ok nmX7 hown hK hP hD hS 0 rfl rfl 7 (by decide) (hts (.fieldLink RX7 51 "SagMemory$State" "paid" "I") (wl_mem 8 rfl)) (fun _ h9 => h9) rfl (by decide +kernel) rfl rfl (Nat.le_of_ble_eq_true rfl) dX7_meet_37 (fun H locs hP hD hS => ?_)
    have hP : va_P (dC, dI) vwCl (List.flatten [(wState qS k (va_up (va_up (va_up (va_up (va_up vS 2 (-1 : Int32)) 3 (-1 : Int32)) 4 (0 : Int32)) 5 (0 : Int32)) 6 (0 : Int32)) nS aS)] ++ List.flatten [(wValley qV k vV bV cV wV aV eV)]) H := hP
    have hD : va_D A (List.flatten [(wState qS k (va_up (va_up (va_up (va_up (va_up vS 2 (-1 : Int32)) 3 (-1 : Int32)) 4 (0 : Int32)) 5 (0 : Int32)) 6 (0 : Int32)) nS aS)] ++ List.flatten [(wValley qV k vV bV cV wV aV eV)]) := hD
    refine lv_aload_n hx hb dX7_meet_40 rfl (lv_at hl 0 rfl) ?_
    refine lv_iconst (v := 0) hx hb dX7_meet_41 (by decide) ?_
    refine va_put (D := (dC, dI)) (ci := 7) (v := .int 0) (ty := .int) (C := RX7) (T := TX7) (N := 9) hx hb hts (fun w h => List.mem_cons_of_mem _ (List.mem_append_right _ (List.mem_append_right _ (List.mem_append_left _ h)))) tyX7 tyX7_ok nmX7 hown hK hP hD hS 0 rfl rfl 8 (by decide) (hts (.fieldLink RX7 54 "SagMemory$State" "wiped" "I") (wl_mem 9 rfl)) (fun _ h9 => h9) rfl (by decide +kernel) rfl rfl (Nat.le_of_ble_eq_true rfl) dX7_meet_42 (fun H locs hP hD hS => ?_)
    have hP : va_P (dC, dI) vwCl (List.flatten [(wState qS k (va_up (va_up (va_up (va_up (va_up (va_up vS 2 (-1 : Int32)) 3 (-1 : Int32)) 4 (0 : Int32)) 5 (0 : Int32)) 6 (0 : Int32)) 7 (0 : Int32)) nS aS)] ++ List.flatten [(wValley qV k vV bV cV wV aV eV)]) H := hP
    have hD : va_D A (List.flatten [(wState qS k (va_up (va_up (va_up (va_up (va_up (va_up vS 2 (-1 : Int32)) 3 (-1 : Int32)) 4 (0 : Int32)) 5 (0 : Int32)) 6 (0 : Int32)) 7 (0 : Int32)) nS aS)] ++ List.flatten [(wValley qV k vV bV cV wV aV eV)]) := hD
    refine lv_aload_n hx hb dX7_meet_45 rfl (lv_at hl 1 rfl) ?_
    refine lv_aload_n hx hb dX7_meet_46 rfl (lv_at hl 0 rfl) ?_
    refine va_get (D := (dC, dI)) (ci := 7) (v := .int (-1)) (C := RX7) (T := TX7) (N := 9) hx hb hts (fun w h => List.mem_cons_of_mem _ (List.mem_append_right _ (List.mem_append_right _ (List.mem_append_left _ h)))) hown hK hP 0 rfl rfl 3 (by decide) (hts (.fieldLink RX7 17 "SagMemory$State" "came" "I") (wl_mem 4 rfl)) (fun _ h9 => h9) rfl dX7_meet_47 ?_
    have hPc := hP.sub (ws' := (List.flatten [(wValley qV k vV bV cV wV aV eV)])) [11, 12, 13, 14, 15, 16, 17, 18] rfl
    refine vp_callSi (va_Run.run (va_runV (As := [.int (-1)]) (rest := []) ⟨hx, hb, hml, hown, hts⟩ (c_X10_hasBridge l dC dI k qV vV bV cV wV aV eV (-1 : Int32) hbV hcV hwV heV) (cwV 1 hts (gk_V (wl_mem 10 rfl) (wl_mem 11 rfl) (wl_mem 12 rfl) (wl_mem 3 rfl) (fun w h => List.mem_cons_of_mem _ (List.mem_append_right _ (List.mem_append_right _ (List.mem_append_right _ (List.mem_append_left _ h))))) wkg_c_X10_hasBridge) rfl rfl rfl (by decide +kernel) ⟨Nat.le_of_ble_eq_true rfl, Nat.le_of_ble_eq_true rfl⟩) ⟨fun a U g mk q => by obtain ⟨q0, qP, qK⟩ := q; exact ⟨q0, qP, va_K.moved (u := U) (U := U.calling g mk a) (Vm.Alike.refl U.vm) qK⟩, va_recv hK hPc (ci := 10) (q0 := 0) rfl rfl, fun U hU hW => ⟨rfl, by rw [hU]; exact hPc, va_K.moved hW.alike hK⟩⟩ rfl rfl hl.1 rfl (lv_room (Nat.le_of_ble_eq_true rfl)) dX7_meet_50 ⟨Nat.le_of_ble_eq_true rfl, Nat.le_of_ble_eq_true rfl⟩)) (fun rz266 gz265 => ?_)
    clear hPc
    rcases gz265 with ⟨er, cz267⟩ | ⟨er, cz268, cz269⟩ | ⟨er, cz270, cz271⟩
    · obtain rfl := er.symm
      refine lv_if_eq (tgt := 67) hx hb dX7_meet_53 (by decide) (fun cz272 => ?_) (fun cz272 => ?_)
      · skip
        rw [hQ]
        exact W.vret hx hb hr (fun t ht hW => ⟨⟨(), rfl, trivial, (va_up (va_up (va_up (va_up (va_up (va_up vS 2 (-1 : Int32)) 3 (-1 : Int32)) 4 (0 : Int32)) 5 (0 : Int32)) 6 (0 : Int32)) 7 (0 : Int32)), nS, aS, hnS, by rw [ht]; exact hP⟩, hS.F ht⟩) hS.2.2 dX7_meet_67
      · skip
        exact absurd cz272 (by decide)
    · obtain rfl := er.symm
      exact absurd cz268 (by decide)
    · obtain rfl := er.symm
      exact absurd cz270 (by decide)
