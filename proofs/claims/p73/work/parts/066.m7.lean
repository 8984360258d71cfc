def wk_c_X12_sagOf : List Cond := .code yX12_sagOf cX12_sagOf 4 (some .int) :: ([.fieldLink RX12 71 "SagMemoryModel" "deepNow" "[I", .fieldLink RX12 65 "SagMemoryModel" "memory" "[I"] ++ (wsX120 ++ []))
theorem wkg_c_X12_sagOf : wk_c_X12_sagOf.all goodWord = true := by decide +kernel
set_option maxHeartbeats 4000000 in
set_option maxRecDepth 100000 in
theorem c_X12_sagOf (l : Launch) (dC : Nat → ClassId) (dI : Nat → Nat → Nat) (k : Nat → ClassId) (qO : Nat → Nat) (widthO : Nat) (manyO : Nat) (cellsO : Nat) (movedO : Nat) (tapeO : Nat) (linesO : Nat) (hasO : Nat) (bridgeO : Nat) (cartO : Nat) (wardO : Nat) (frostAtO : Nat) (actO : Nat) (isKeptO : Nat) (loadNowO : Nat) (byNowO : Nat) (rowO : Nat) (whoseO : Nat) (brokenByO : Nat) (brokenAtO : Nat) (goesByO : Nat) (comesToO : Nat) (sagMoreO : Nat) (creakOfO : Nat) (wipedByO : Nat) (deepAtO : Nat) (sagAtO : Nat) (loadAtO : Nat) (orderRowO : Nat) (oftenO : Nat) (lossOneO : Nat) (lossOtherO : Nat) (vO : Nat → Int32) (tO : Nat → Int32) (mO : Nat → Int32) (gO : Nat → Int64) (qDn : Nat → Nat) (uDn : Nat → Nat → Int32) (qMe : Nat → Nat) (aMe : Nat → Nat → Int32) (p1 : Int32) (htO : Rg 0 700 tO) (hmO : Rg (-1) 127 mO) (huDn : RuA 8 uDn) (hp0 : 0 ≤ p1.toInt ∧ p1.toInt ≤ 2) : Met l yX12_sagOf wk_c_X12_sagOf ({ frames := 0, cells := 0, slots := 0, locals := 0 }) (va_Pc [.ref (qO 0), .int p1] (fun U => va_P (dC, dI) vwCl (List.flatten [(wMO qO k widthO manyO cellsO movedO tapeO linesO hasO bridgeO cartO wardO frostAtO actO isKeptO loadNowO byNowO rowO (qMe 0) whoseO (qDn 0) brokenByO brokenAtO goesByO comesToO sagMoreO creakOfO wipedByO deepAtO sagAtO loadAtO orderRowO oftenO lossOneO lossOtherO vO tO mO gO), (wmDn qDn k uDn), (wmMe qMe k aMe)]) U.heap ∧ va_K (dC, dI) vwCl (tK k) U)) (vp_Si (fun r : Int32 => True)) 0 0 (fun _ => False) := by
  refine Met.ofW (cc := cX12_sagOf) (maxL := 4) (ret := (some .int)) (by decide) rfl ?_
  intro p e s m args below meth c s₁ B hml hv
  obtain ⟨rfl, hP, hK⟩ := hv
  have hx := B.exec
  have hb := B.bytes
  have hr := B.returns
  have hts := atoms_spec (ws := wk_c_X12_sagOf) B.pre
  have hown : s.vm.findClass RX12 = some m.cls := findClass_of_methodNamed B.named
  have hlocks := B.notSynchronized
  have hP : va_P (dC, dI) vwCl (List.flatten [(wMO qO k widthO manyO cellsO movedO tapeO linesO hasO bridgeO cartO wardO frostAtO actO isKeptO loadNowO byNowO rowO (qMe 0) whoseO (qDn 0) brokenByO brokenAtO goesByO comesToO sagMoreO creakOfO wipedByO deepAtO sagAtO loadAtO orderRowO oftenO lossOneO lossOtherO vO tO mO gO), (wmDn qDn k uDn), (wmMe qMe k aMe)]) s.heap := hP
  have hl := lv_entry ([.ref (qO 0), .int p1]) (n := 4) (Nat.le_of_ble_eq_true rfl)
  rw [lg_entry_eq]
  generalize (lg_sl ([.ref (qO 0), .int p1]) ++ List.replicate (4 - (lg_sl ([.ref (qO 0), .int p1])).length) Slot.unset).toArray = ls at hl ⊢
  have hl : lv_has ls 4 [(0, .ref (qO 0)), (1, .int p1)] := hl
  refine w_gen (fun Q hQ => ?_)
  refine lv_iconst (v := 0) hx hb dX12_sagOf_0 (by decide) ?_
  refine lv_istore_n (lv' := [(2, .int 0), (0, .ref (qO 0)), (1, .int p1)]) hx hb dX12_sagOf_1 rfl hl (by decide) rfl (fun ls hl => ?_)
  refine lv_iconst (v := 0) hx hb dX12_sagOf_2 (by decide) ?_
  refine lv_istore_n (lv' := [(3, .int 0), (2, .int 0), (0, .ref (qO 0)), (1, .int p1)]) hx hb dX12_sagOf_3 rfl hl (by decide) rfl (fun ls hl => ?_)
  have lp4_kz18 : ∀ (n9_4 : Nat) (ls : Array Slot) (xz16 : Int32) (xz17 : Int32), (2147483647 - xz17.toInt).toNat < n9_4 → 0 ≤ xz17.toInt → lv_has ls 4 [(0, .ref (qO 0)), (1, .int p1), (2, .int xz16), (3, .int xz17)] → W p l e (headSpec wk_c_X12_sagOf ({ frames := 0, cells := 0, slots := 0, locals := 0 })).room s m ([.ref (qO 0), .int p1] : List Value).toArray below meth c s.heap [] 0 0 Q (F0 m 4 ls []) := by
    intro n9_4
    induction n9_4 with
    | zero => intro ls xz16 xz17 hm; exact absurd hm (Nat.not_lt_zero _)
    | succ n9_4 ih4 =>
      intro ls xz16 xz17 hm4 jz19 hl
      refine lv_iload_n hx hb dX12_sagOf_4 rfl (lv_at hl 3 rfl) ?_
      refine lv_aload_n hx hb dX12_sagOf_5 rfl (lv_at hl 0 rfl) ?_
      refine va_get (D := (dC, dI)) (ci := 12) (v := .ref (qDn 0)) (C := RX12) (T := TX12) (N := 59) hx hb hts (fun w h => List.mem_cons_of_mem _ (List.mem_append_right _ (List.mem_append_left _ h))) hown hK hP 0 rfl rfl 32 (by decide) (hts (.fieldLink RX12 71 "SagMemoryModel" "deepNow" "[I") (wl_mem 0 rfl)) (fun _ h9 => h9) rfl dX12_sagOf_6 ?_
      refine lv_iload_n hx hb dX12_sagOf_9 rfl (lv_at hl 1 rfl) ?_
      refine va_iald hx hb hK hP 1 0 rfl rfl (vp_in_iff.mpr ⟨by omega, by omega⟩) dX12_sagOf_10 ?_
      refine lv_topi (fun xz20 exz20 => ?_)
      have bxz20 : 0 ≤ xz20.toInt ∧ xz20.toInt ≤ 8 := by rw [exz20]; exact ru_rd huDn (by show 0 ≤ p1.toInt; omega) (by show p1.toInt ≤ 2; omega)
      have gxz20 : xz20.toInt = ((uDn 0) p1.toNatClampNeg).toInt := congrArg Int32.toInt exz20
      refine lv_icmp_ge (tgt := 38) hx hb dX12_sagOf_11 (by decide) (fun cz21 => ?_) (fun cz21 => ?_)
      · skip
        have bz22 := fb_rng xz17
        have zz23 : xz20.toInt ≤ xz17.toInt := zi_le.mp cz21
        refine lv_iload_n hx hb dX12_sagOf_38 rfl (lv_at hl 2 rfl) ?_
        rw [hQ]
        exact W.iret (v := xz16) hx hb hr (fun t ht hW => ⟨xz16, rfl, trivial, ht⟩) (fun _ h => absurd h List.not_mem_nil) dX12_sagOf_39
      · skip
        have bz24 := fb_rng xz17
        have zz25 : ¬ xz20.toInt ≤ xz17.toInt := fun h9 => cz21 (zi_le.mpr h9)
        refine lv_iload_n hx hb dX12_sagOf_14 rfl (lv_at hl 2 rfl) ?_
        refine lv_aload_n hx hb dX12_sagOf_15 rfl (lv_at hl 0 rfl) ?_
        refine va_get (D := (dC, dI)) (ci := 12) (v := .ref (qMe 0)) (C := RX12) (T := TX12) (N := 59) hx hb hts (fun w h => List.mem_cons_of_mem _ (List.mem_append_right _ (List.mem_append_left _ h))) hown hK hP 0 rfl rfl 30 (by decide) (hts (.fieldLink RX12 65 "SagMemoryModel" "memory" "[I") (wl_mem 1 rfl)) (fun _ h9 => h9) rfl dX12_sagOf_16 ?_
        refine lv_bipush (v := 8) hx hb dX12_sagOf_19 (by decide) ?_
        refine lv_iload_n hx hb dX12_sagOf_21 rfl (lv_at hl 1 rfl) ?_
        refine lv_imul hx hb dX12_sagOf_22 ?_
        refine lv_topi (fun xz26 exz26 => ?_)
        have fxz26 : xz26.toInt = (8 : Int) * p1.toInt := by rw [exz26]; exact fb_mulI (x := (8 : Int32)) (y := p1) (by show -2147483648 ≤ (8 : Int) * p1.toInt; omega) (by show (8 : Int) * p1.toInt < 2147483648; omega)
        refine lv_iload_n hx hb dX12_sagOf_23 rfl (lv_at hl 3 rfl) ?_
        refine lv_iadd hx hb dX12_sagOf_24 ?_
        refine lv_topi (fun xz27 exz27 => ?_)
        have fxz27 : xz27.toInt = xz26.toInt + xz17.toInt := by rw [exz27]; exact fb_addI (x := xz26) (y := xz17) (by show -2147483648 ≤ xz26.toInt + xz17.toInt; omega) (by show xz26.toInt + xz17.toInt < 2147483648; omega)
        refine va_iald hx hb hK hP 2 0 rfl rfl (vp_in_iff.mpr ⟨by omega, by omega⟩) dX12_sagOf_25 ?_
        refine lv_topi (fun xz28 exz28 => ?_)
        refine lv_iload_n hx hb dX12_sagOf_26 rfl (lv_at hl 3 rfl) ?_
        refine lv_iconst (v := 1) hx hb dX12_sagOf_27 (by decide) ?_
        refine lv_iadd hx hb dX12_sagOf_28 ?_
        refine lv_topi (fun xz29 exz29 => ?_)
        have fxz29 : xz29.toInt = xz17.toInt + (1 : Int) := by rw [exz29]; exact fb_addI (x := xz17) (y := (1 : Int32)) (by show -2147483648 ≤ xz17.toInt + (1 : Int); omega) (by show xz17.toInt + (1 : Int) < 2147483648; omega)
        refine lv_idiv hx hb dX12_sagOf_29 (fun h9 => by have h8 := zi_eq.mp h9; have h8 : xz29.toInt = (0 : Int) := h8; omega) ?_
        refine lv_topi (fun xz30 exz30 => ?_)
        refine lv_iadd hx hb dX12_sagOf_30 ?_
        refine lv_topi (fun xz31 exz31 => ?_)
        refine lv_istore_n (lv' := [(2, .int xz31), (0, .ref (qO 0)), (1, .int p1), (3, .int xz17)]) hx hb dX12_sagOf_31 rfl hl (by decide) rfl (fun ls hl => ?_)
        obtain ⟨xz32, exz32⟩ : ∃ y : Int32, y = xz17 + Int32.ofInt (1) := ⟨_, rfl⟩
        have fxz32 : xz32.toInt = xz17.toInt + (1) := by rw [exz32]; exact fb_addI (y := Int32.ofInt (1)) (by show -2147483648 ≤ xz17.toInt + (1); omega) (by show xz17.toInt + (1) < 2147483648; omega)
        refine lv_iinc (v := xz32) (lv' := [(3, .int xz32), (2, .int xz31), (0, .ref (qO 0)), (1, .int p1)]) hx hb dX12_sagOf_32 hl (k := 3) rfl exz32.symm (by decide) rfl (fun ls hl => ?_)
        refine lv_goto (tgt := 4) hx hb dX12_sagOf_35 (by decide) ?_
        exact ih4 ls xz31 xz32 (by show (2147483647 - xz32.toInt).toNat < n9_4; omega) (by show 0 ≤ xz32.toInt; omega) (lv_sub hl [2, 3, 1, 0] rfl)
  exact lp4_kz18 _ ls (0 : Int32) (0 : Int32) (Nat.lt_succ_self _) (by show 0 ≤ (0 : Int); omega) (lv_sub hl [2, 3, 1, 0] rfl)
def wk_c_X12_lastOf : List Cond := .code yX12_lastOf cX12_lastOf 2 (some .int) :: ([.fieldLink RX12 71 "SagMemoryModel" "deepNow" "[I", .fieldLink RX12 65 "SagMemoryModel" "memory" "[I"] ++ (wsX120 ++ []))
theorem wkg_c_X12_lastOf : wk_c_X12_lastOf.all goodWord = true := by decide +kernel
set_option maxHeartbeats 4000000 in
set_option maxRecDepth 100000 in
theorem c_X12_lastOf (l : Launch) (dC : Nat → ClassId) (dI : Nat → Nat → Nat) (k : Nat → ClassId) (qO : Nat → Nat) (widthO : Nat) (manyO : Nat) (cellsO : Nat) (movedO : Nat) (tapeO : Nat) (linesO : Nat) (hasO : Nat) (bridgeO : Nat) (cartO : Nat) (wardO : Nat) (frostAtO : Nat) (actO : Nat) (isKeptO : Nat) (loadNowO : Nat) (byNowO : Nat) (rowO : Nat) (whoseO : Nat) (brokenByO : Nat) (brokenAtO : Nat) (goesByO : Nat) (comesToO : Nat) (sagMoreO : Nat) (creakOfO : Nat) (wipedByO : Nat) (deepAtO : Nat) (sagAtO : Nat) (loadAtO : Nat) (orderRowO : Nat) (oftenO : Nat) (lossOneO : Nat) (lossOtherO : Nat) (vO : Nat → Int32) (tO : Nat → Int32) (mO : Nat → Int32) (gO : Nat → Int64) (qDn : Nat → Nat) (uDn : Nat → Nat → Int32) (qMe : Nat → Nat) (aMe : Nat → Nat → Int32) (p1 : Int32) (htO : Rg 0 700 tO) (hmO : Rg (-1) 127 mO) (huDn : RuA 8 uDn) (hp0 : 0 ≤ p1.toInt ∧ p1.toInt ≤ 2) : Met l yX12_lastOf wk_c_X12_lastOf ({ frames := 0, cells := 0, slots := 0, locals := 0 }) (va_Pc [.ref (qO 0), .int p1] (fun U => va_P (dC, dI) vwCl (List.flatten [(wMO qO k widthO manyO cellsO movedO tapeO linesO hasO bridgeO cartO wardO frostAtO actO isKeptO loadNowO byNowO rowO (qMe 0) whoseO (qDn 0) brokenByO brokenAtO goesByO comesToO sagMoreO creakOfO wipedByO deepAtO sagAtO loadAtO orderRowO oftenO lossOneO lossOtherO vO tO mO gO), (wmDn qDn k uDn), (wmMe qMe k aMe)]) U.heap ∧ va_K (dC, dI) vwCl (tK k) U)) (vp_Si (fun r : Int32 => True)) 0 0 (fun _ => False) := by
  refine Met.ofW (cc := cX12_lastOf) (maxL := 2) (ret := (some .int)) (by decide) rfl ?_
  intro p e s m args below meth c s₁ B hml hv
  obtain ⟨rfl, hP, hK⟩ := hv
  have hx := B.exec
  have hb := B.bytes
  have hr := B.returns
  have hts := atoms_spec (ws := wk_c_X12_lastOf) B.pre
  have hown : s.vm.findClass RX12 = some m.cls := findClass_of_methodNamed B.named
  have hlocks := B.notSynchronized
  have hP : va_P (dC, dI) vwCl (List.flatten [(wMO qO k widthO manyO cellsO movedO tapeO linesO hasO bridgeO cartO wardO frostAtO actO isKeptO loadNowO byNowO rowO (qMe 0) whoseO (qDn 0) brokenByO brokenAtO goesByO comesToO sagMoreO creakOfO wipedByO deepAtO sagAtO loadAtO orderRowO oftenO lossOneO lossOtherO vO tO mO gO), (wmDn qDn k uDn), (wmMe qMe k aMe)]) s.heap := hP
  have hl := lv_entry ([.ref (qO 0), .int p1]) (n := 2) (Nat.le_of_ble_eq_true rfl)
  rw [lg_entry_eq]
  generalize (lg_sl ([.ref (qO 0), .int p1]) ++ List.replicate (2 - (lg_sl ([.ref (qO 0), .int p1])).length) Slot.unset).toArray = ls at hl ⊢
  have hl : lv_has ls 2 [(0, .ref (qO 0)), (1, .int p1)] := hl
  refine w_gen (fun Q hQ => ?_)
  refine lv_aload_n hx hb dX12_lastOf_0 rfl (lv_at hl 0 rfl) ?_
  refine va_get (D := (dC, dI)) (ci := 12) (v := .ref (qDn 0)) (C := RX12) (T := TX12) (N := 59) hx hb hts (fun w h => List.mem_cons_of_mem _ (List.mem_append_right _ (List.mem_append_left _ h))) hown hK hP 0 rfl rfl 32 (by decide) (hts (.fieldLink RX12 71 "SagMemoryModel" "deepNow" "[I") (wl_mem 0 rfl)) (fun _ h9 => h9) rfl dX12_lastOf_1 ?_
  refine lv_iload_n hx hb dX12_lastOf_4 rfl (lv_at hl 1 rfl) ?_
  refine va_iald hx hb hK hP 1 0 rfl rfl (vp_in_iff.mpr ⟨by omega, by omega⟩) dX12_lastOf_5 ?_
  refine lv_topi (fun xz1 exz1 => ?_)
  have bxz1 : 0 ≤ xz1.toInt ∧ xz1.toInt ≤ 8 := by rw [exz1]; exact ru_rd huDn (by show 0 ≤ p1.toInt; omega) (by show p1.toInt ≤ 2; omega)
  have gxz1 : xz1.toInt = ((uDn 0) p1.toNatClampNeg).toInt := congrArg Int32.toInt exz1
  refine lv_if_ne (tgt := 13) hx hb dX12_lastOf_6 (by decide) (fun cz2 => ?_) (fun cz2 => ?_)
  · skip
    have zz3 : ¬ xz1.toInt = (0 : Int) := fun h9 => cz2 (zi_eq.mpr h9)
    refine lv_aload_n hx hb dX12_lastOf_13 rfl (lv_at hl 0 rfl) ?_
    refine va_get (D := (dC, dI)) (ci := 12) (v := .ref (qMe 0)) (C := RX12) (T := TX12) (N := 59) hx hb hts (fun w h => List.mem_cons_of_mem _ (List.mem_append_right _ (List.mem_append_left _ h))) hown hK hP 0 rfl rfl 30 (by decide) (hts (.fieldLink RX12 65 "SagMemoryModel" "memory" "[I") (wl_mem 1 rfl)) (fun _ h9 => h9) rfl dX12_lastOf_14 ?_
    refine lv_bipush (v := 8) hx hb dX12_lastOf_17 (by decide) ?_
    refine lv_iload_n hx hb dX12_lastOf_19 rfl (lv_at hl 1 rfl) ?_
    refine lv_imul hx hb dX12_lastOf_20 ?_
    refine lv_topi (fun xz4 exz4 => ?_)
    have fxz4 : xz4.toInt = (8 : Int) * p1.toInt := by rw [exz4]; exact fb_mulI (x := (8 : Int32)) (y := p1) (by show -2147483648 ≤ (8 : Int) * p1.toInt; omega) (by show (8 : Int) * p1.toInt < 2147483648; omega)
    refine lv_aload_n hx hb dX12_lastOf_21 rfl (lv_at hl 0 rfl) ?_
    refine va_get (D := (dC, dI)) (ci := 12) (v := .ref (qDn 0)) (C := RX12) (T := TX12) (N := 59) hx hb hts (fun w h => List.mem_cons_of_mem _ (List.mem_append_right _ (List.mem_append_left _ h))) hown hK hP 0 rfl rfl 32 (by decide) (hts (.fieldLink RX12 71 "SagMemoryModel" "deepNow" "[I") (wl_mem 0 rfl)) (fun _ h9 => h9) rfl dX12_lastOf_22 ?_
    refine lv_iload_n hx hb dX12_lastOf_25 rfl (lv_at hl 1 rfl) ?_
    refine va_iald hx hb hK hP 1 0 rfl rfl (vp_in_iff.mpr ⟨by omega, by omega⟩) dX12_lastOf_26 ?_
    refine lv_topi (fun xz5 exz5 => ?_)
    have bxz5 : 0 ≤ xz5.toInt ∧ xz5.toInt ≤ 8 := by rw [exz5]; exact ru_rd huDn (by show 0 ≤ p1.toInt; omega) (by show p1.toInt ≤ 2; omega)
    have gxz5 : xz5.toInt = ((uDn 0) p1.toNatClampNeg).toInt := congrArg Int32.toInt exz5
    refine lv_iadd hx hb dX12_lastOf_27 ?_
    refine lv_topi (fun xz6 exz6 => ?_)
    have fxz6 : xz6.toInt = xz4.toInt + xz5.toInt := by rw [exz6]; exact fb_addI (x := xz4) (y := xz5) (by show -2147483648 ≤ xz4.toInt + xz5.toInt; omega) (by show xz4.toInt + xz5.toInt < 2147483648; omega)
    refine lv_iconst (v := 1) hx hb dX12_lastOf_28 (by decide) ?_
    refine lv_isub hx hb dX12_lastOf_29 ?_
    refine lv_topi (fun xz7 exz7 => ?_)
    have fxz7 : xz7.toInt = xz6.toInt - (1 : Int) := by rw [exz7]; exact fb_subI (x := xz6) (y := (1 : Int32)) (by show -2147483648 ≤ xz6.toInt - (1 : Int); omega) (by show xz6.toInt - (1 : Int) < 2147483648; omega)
    refine va_iald hx hb hK hP 2 0 rfl rfl (vp_in_iff.mpr ⟨by omega, by omega⟩) dX12_lastOf_30 ?_
    refine lv_topi (fun xz8 exz8 => ?_)
    rw [hQ]
    exact W.iret (v := xz8) hx hb hr (fun t ht hW => ⟨xz8, rfl, trivial, ht⟩) (fun _ h => absurd h List.not_mem_nil) dX12_lastOf_31
  · skip
    have zz9 : xz1.toInt = (0 : Int) := zi_eq.mp cz2
    refine lv_iconst (v := 0) hx hb dX12_lastOf_9 (by decide) ?_
    refine lv_goto (tgt := 31) hx hb dX12_lastOf_10 (by decide) ?_
    rw [hQ]
    exact W.iret (v := (0 : Int32)) hx hb hr (fun t ht hW => ⟨(0 : Int32), rfl, trivial, ht⟩) (fun _ h => absurd h List.not_mem_nil) dX12_lastOf_31
def wk_c_X12_crosses : List Cond := .code yX12_crosses cX12_crosses 7 (some .int) :: ([.methodLink RX12 304 yX12_lastOf, .instanceMethod yX12_lastOf, .selects RX12 yX12_lastOf yX12_lastOf, .initialized RX12, .fieldLink RX12 295 "SagMemoryModel" "law" "I", .fieldLink RX12 71 "SagMemoryModel" "deepNow" "[I", .fieldLink RX12 65 "SagMemoryModel" "memory" "[I", .fieldLink RX12 68 "SagMemoryModel" "whose" "[I"] ++ (wk_c_X12_lastOf ++ (wsX120 ++ [])))
theorem wkg_c_X12_crosses : wk_c_X12_crosses.all goodWord = true := by decide +kernel
set_option maxHeartbeats 4000000 in
set_option maxRecDepth 100000 in
theorem c_X12_crosses (l : Launch) (dC : Nat → ClassId) (dI : Nat → Nat → Nat) (k : Nat → ClassId) (sz : Nat) (qO : Nat → Nat) (widthO : Nat) (manyO : Nat) (cellsO : Nat) (movedO : Nat) (tapeO : Nat) (linesO : Nat) (hasO : Nat) (bridgeO : Nat) (cartO : Nat) (wardO : Nat) (frostAtO : Nat) (actO : Nat) (isKeptO : Nat) (loadNowO : Nat) (byNowO : Nat) (rowO : Nat) (brokenByO : Nat) (brokenAtO : Nat) (goesByO : Nat) (comesToO : Nat) (sagMoreO : Nat) (creakOfO : Nat) (wipedByO : Nat) (deepAtO : Nat) (sagAtO : Nat) (loadAtO : Nat) (orderRowO : Nat) (oftenO : Nat) (lossOneO : Nat) (lossOtherO : Nat) (vO : Nat → Int32) (tO : Nat → Int32) (mO : Nat → Int32) (gO : Nat → Int64) (qDn : Nat → Nat) (uDn : Nat → Nat → Int32) (qMe : Nat → Nat) (aMe : Nat → Nat → Int32) (qWh : Nat → Nat) (aWh : Nat → Nat → Int32) (p1 : Int32) (p2 : Int32) (p3 : Int32) (T9 : Int) (htO : Rg 0 700 tO) (hmO : Rg (-1) 127 mO) (huDn : RuA T9 uDn) (hp0 : 0 ≤ p1.toInt ∧ p1.toInt ≤ 2) (hp1 : T9 ≤ 8) (hp2 : ((uDn 0) p1.toNatClampNeg).toInt < T9) : Met l yX12_crosses wk_c_X12_crosses ({ frames := 1, cells := 0, slots := 0, locals := 21 }) (va_Pc [.ref (qO 0), .int p1, .int p2, .int p3] (fun U => U.heap.size = sz ∧ va_P (dC, dI) vwCl (List.flatten [(wmDn qDn k uDn), (wmMe qMe k aMe), (wmWh qWh k aWh)] ++ List.flatten [(wMO qO k widthO manyO cellsO movedO tapeO linesO hasO bridgeO cartO wardO frostAtO actO isKeptO loadNowO byNowO rowO (qMe 0) (qWh 0) (qDn 0) brokenByO brokenAtO goesByO comesToO sagMoreO creakOfO wipedByO deepAtO sagAtO loadAtO orderRowO oftenO lossOneO lossOtherO vO tO mO gO)]) U.heap ∧ va_K (dC, dI) vwCl (tK k) U ∧ va_D (fun _ => True) (List.flatten [(wmDn qDn k uDn), (wmMe qMe k aMe), (wmWh qWh k aWh)] ++ List.flatten [(wMO qO k widthO manyO cellsO movedO tapeO linesO hasO bridgeO cartO wardO frostAtO actO isKeptO loadNowO byNowO rowO (qMe 0) (qWh 0) (qDn 0) brokenByO brokenAtO goesByO comesToO sagMoreO creakOfO wipedByO deepAtO sagAtO loadAtO orderRowO oftenO lossOneO lossOtherO vO tO mO gO)]))) (va_Qi (fun (r : Int32) (_ : Unit) => True) (fun (_ : Unit) (t : State) => ∃ (uDn' : Nat → Nat → Int32) (aMe' : Nat → Nat → Int32) (aWh' : Nat → Nat → Int32), RuA T9 uDn' ∧ va_P (dC, dI) vwCl (List.flatten [(wmDn qDn k uDn'), (wmMe qMe k aMe'), (wmWh qWh k aWh')] ++ List.flatten [(wMO qO k widthO manyO cellsO movedO tapeO linesO hasO bridgeO cartO wardO frostAtO actO isKeptO loadNowO byNowO rowO (qMe 0) (qWh 0) (qDn 0) brokenByO brokenAtO goesByO comesToO sagMoreO creakOfO wipedByO deepAtO sagAtO loadAtO orderRowO oftenO lossOneO lossOtherO vO tO mO gO)]) t.heap) (va_A (List.flatten [(wmDn qDn k uDn), (wmMe qMe k aMe), (wmWh qWh k aWh)] ++ List.flatten [(wMO qO k widthO manyO cellsO movedO tapeO linesO hasO bridgeO cartO wardO frostAtO actO isKeptO loadNowO byNowO rowO (qMe 0) (qWh 0) (qDn 0) brokenByO brokenAtO goesByO comesToO sagMoreO creakOfO wipedByO deepAtO sagAtO loadAtO orderRowO oftenO lossOneO lossOtherO vO tO mO gO)]) sz)) 0 0 (va_A (List.flatten [(wmDn qDn k uDn), (wmMe qMe k aMe), (wmWh qWh k aWh)] ++ List.flatten [(wMO qO k widthO manyO cellsO movedO tapeO linesO hasO bridgeO cartO wardO frostAtO actO isKeptO loadNowO byNowO rowO (qMe 0) (qWh 0) (qDn 0) brokenByO brokenAtO goesByO comesToO sagMoreO creakOfO wipedByO deepAtO sagAtO loadAtO orderRowO oftenO lossOneO lossOtherO vO tO mO gO)]) sz) := by
  refine Met.ofW (cc := cX12_crosses) (maxL := 7) (ret := (some .int)) (by decide) rfl ?_
  intro p e s m args below meth c s₁ B hml hv
  obtain ⟨rfl, hsz, hP, hK, hD0⟩ := hv
  have hx := B.exec
  have hb := B.bytes
  have hr := B.returns
  have hts := atoms_spec (ws := wk_c_X12_crosses) B.pre
  have hown : s.vm.findClass RX12 = some m.cls := findClass_of_methodNamed B.named
  have hlocks := B.notSynchronized
  subst hsz
  have hD := hD0.self (sz := s.heap.size)
  generalize hAe : va_A (List.flatten [(wmDn qDn k uDn), (wmMe qMe k aMe), (wmWh qWh k aWh)] ++ List.flatten [(wMO qO k widthO manyO cellsO movedO tapeO linesO hasO bridgeO cartO wardO frostAtO actO isKeptO loadNowO byNowO rowO (qMe 0) (qWh 0) (qDn 0) brokenByO brokenAtO goesByO comesToO sagMoreO creakOfO wipedByO deepAtO sagAtO loadAtO orderRowO oftenO lossOneO lossOtherO vO tO mO gO)]) s.heap.size = A at hD ⊢
  have hA : ∀ q : Nat, s.heap.size ≤ q → A q := fun q h => by rw [← hAe]; exact Or.inr h
  have hS : va_S A s.heap s.heap [] := va_S.rf
  have hP : va_P (dC, dI) vwCl (List.flatten [(wmDn qDn k uDn), (wmMe qMe k aMe), (wmWh qWh k aWh)] ++ List.flatten [(wMO qO k widthO manyO cellsO movedO tapeO linesO hasO bridgeO cartO wardO frostAtO actO isKeptO loadNowO byNowO rowO (qMe 0) (qWh 0) (qDn 0) brokenByO brokenAtO goesByO comesToO sagMoreO creakOfO wipedByO deepAtO sagAtO loadAtO orderRowO oftenO lossOneO lossOtherO vO tO mO gO)]) s.heap := hP
  have hl := lv_entry ([.ref (qO 0), .int p1, .int p2, .int p3]) (n := 7) (Nat.le_of_ble_eq_true rfl)
  rw [lg_entry_eq]
  generalize (lg_sl ([.ref (qO 0), .int p1, .int p2, .int p3]) ++ List.replicate (7 - (lg_sl ([.ref (qO 0), .int p1, .int p2, .int p3])).length) Slot.unset).toArray = ls at hl ⊢
  have hl : lv_has ls 7 [(0, .ref (qO 0)), (1, .int p1), (2, .int p2), (3, .int p3)] := hl
  refine w_gen (fun Q hQ => ?_)
  refine lv_aload_n hx hb dX12_crosses_0 rfl (lv_at hl 0 rfl) ?_
  refine lv_iload_n hx hb dX12_crosses_1 rfl (lv_at hl 1 rfl) ?_
  have hPc := hP.sub (ws' := (List.flatten [(wMO qO k widthO manyO cellsO movedO tapeO linesO hasO bridgeO cartO wardO frostAtO actO isKeptO loadNowO byNowO rowO (qMe 0) (qWh 0) (qDn 0) brokenByO brokenAtO goesByO comesToO sagMoreO creakOfO wipedByO deepAtO sagAtO loadAtO orderRowO oftenO lossOneO lossOtherO vO tO mO gO), (wmDn qDn k uDn), (wmMe qMe k aMe)])) [3, 0, 1] rfl
  refine vp_callSi (va_Run.run (va_runV (As := [.int p1]) (rest := []) ⟨hx, hb, hml, hown, hts⟩ (c_X12_lastOf l dC dI k qO widthO manyO cellsO movedO tapeO linesO hasO bridgeO cartO wardO frostAtO actO isKeptO loadNowO byNowO rowO (qWh 0) brokenByO brokenAtO goesByO comesToO sagMoreO creakOfO wipedByO deepAtO sagAtO loadAtO orderRowO oftenO lossOneO lossOtherO vO tO mO gO qDn uDn qMe aMe p1 htO hmO (ru_wk huDn (by show (T9 : Int) ≤ 8; omega)) (by show 0 ≤ p1.toInt ∧ p1.toInt ≤ 2; omega)) (cwV 1 hts (gk_V (wl_mem 0 rfl) (wl_mem 1 rfl) (wl_mem 2 rfl) (wl_mem 3 rfl) (fun w h => List.mem_cons_of_mem _ (List.mem_append_right _ (List.mem_append_left _ h))) wkg_c_X12_lastOf) rfl rfl rfl (by decide +kernel) ⟨Nat.le_of_ble_eq_true rfl, Nat.le_of_ble_eq_true rfl⟩) ⟨fun a U g mk q => by obtain ⟨q0, qP, qK⟩ := q; exact ⟨q0, qP, va_K.moved (u := U) (U := U.calling g mk a) (Vm.Alike.refl U.vm) qK⟩, va_recv hK hPc (ci := 12) (q0 := 0) rfl rfl, fun U hU hW => ⟨rfl, by rw [hU]; exact hPc, va_K.moved hW.alike hK⟩⟩ rfl rfl hl.1 rfl (lv_room (Nat.le_of_ble_eq_true rfl)) dX12_crosses_2 ⟨Nat.le_of_ble_eq_true rfl, Nat.le_of_ble_eq_true rfl⟩)) (fun rz2 gz1 => ?_)
  clear hPc
  refine lv_istore (lv' := [(4, .int rz2), (0, .ref (qO 0)), (1, .int p1), (2, .int p2), (3, .int p3)]) hx hb dX12_crosses_5 hl (by decide) rfl (fun ls hl => ?_)
  refine lv_aload_n hx hb dX12_crosses_7 rfl (lv_at hl 1 rfl) ?_
  refine va_get (D := (dC, dI)) (ci := 12) (v := .int (vO 8)) (C := RX12) (T := TX12) (N := 59) hx hb hts (fun w h => List.mem_cons_of_mem _ (List.mem_append_right _ (List.mem_append_right _ (List.mem_append_left _ h)))) hown hK hP 3 rfl rfl 24 (by decide) (hts (.fieldLink RX12 295 "SagMemoryModel" "law" "I") (wl_mem 4 rfl)) (fun _ h9 => h9) rfl dX12_crosses_8 ?_
  refine lv_iconst (v := 1) hx hb dX12_crosses_11 (by decide) ?_
  have ct37_kz148 : ∀ (H : Heap) (locs : List Loc) (ls : Array Slot) (xz147 : Int32), 0 ≤ xz147.toInt ∧ xz147.toInt ≤ 1 → va_P (dC, dI) vwCl (List.flatten [(wmDn qDn k uDn), (wmMe qMe k aMe), (wmWh qWh k aWh)] ++ List.flatten [(wMO qO k widthO manyO cellsO movedO tapeO linesO hasO bridgeO cartO wardO frostAtO actO isKeptO loadNowO byNowO rowO (qMe 0) (qWh 0) (qDn 0) brokenByO brokenAtO goesByO comesToO sagMoreO creakOfO wipedByO deepAtO sagAtO loadAtO orderRowO oftenO lossOneO lossOtherO vO tO mO gO)]) H → va_D A (List.flatten [(wmDn qDn k uDn), (wmMe qMe k aMe), (wmWh qWh k aWh)] ++ List.flatten [(wMO qO k widthO manyO cellsO movedO tapeO linesO hasO bridgeO cartO wardO frostAtO actO isKeptO loadNowO byNowO rowO (qMe 0) (qWh 0) (qDn 0) brokenByO brokenAtO goesByO comesToO sagMoreO creakOfO wipedByO deepAtO sagAtO loadAtO orderRowO oftenO lossOneO lossOtherO vO tO mO gO)]) → va_S A s.heap H locs → lv_has ls 7 [(0, .ref (qO 0)), (1, .int p1), (2, .int p2), (3, .int p3), (4, .int rz2), (5, .int xz147)] → W p l e (headSpec wk_c_X12_crosses ({ frames := 1, cells := 0, slots := 0, locals := 21 })).room s m ([.ref (qO 0), .int p1, .int p2, .int p3] : List Value).toArray below meth c H locs 0 0 Q (F0 m 37 ls []) := by
    intro H locs ls xz147 jz149 hP hD hS hl
    refine lv_aload_n hx hb dX12_crosses_37 rfl (lv_at hl 0 rfl) ?_
    refine va_get (D := (dC, dI)) (ci := 12) (v := .int (vO 8)) (C := RX12) (T := TX12) (N := 59) hx hb hts (fun w h => List.mem_cons_of_mem _ (List.mem_append_right _ (List.mem_append_right _ (List.mem_append_left _ h)))) hown hK hP 3 rfl rfl 24 (by decide) (hts (.fieldLink RX12 295 "SagMemoryModel" "law" "I") (wl_mem 4 rfl)) (fun _ h9 => h9) rfl dX12_crosses_38 ?_
    refine lv_iconst (v := 2) hx hb dX12_crosses_41 (by decide) ?_
    have ct64_kz165 : ∀ (H : Heap) (locs : List Loc) (ls : Array Slot), va_P (dC, dI) vwCl (List.flatten [(wmDn qDn k uDn), (wmMe qMe k aMe), (wmWh qWh k aWh)] ++ List.flatten [(wMO qO k widthO manyO cellsO movedO tapeO linesO hasO bridgeO cartO wardO frostAtO actO isKeptO loadNowO byNowO rowO (qMe 0) (qWh 0) (qDn 0) brokenByO brokenAtO goesByO comesToO sagMoreO creakOfO wipedByO deepAtO sagAtO loadAtO orderRowO oftenO lossOneO lossOtherO vO tO mO gO)]) H → va_D A (List.flatten [(wmDn qDn k uDn), (wmMe qMe k aMe), (wmWh qWh k aWh)] ++ List.flatten [(wMO qO k widthO manyO cellsO movedO tapeO linesO hasO bridgeO cartO wardO frostAtO actO isKeptO loadNowO byNowO rowO (qMe 0) (qWh 0) (qDn 0) brokenByO brokenAtO goesByO comesToO sagMoreO creakOfO wipedByO deepAtO sagAtO loadAtO orderRowO oftenO lossOneO lossOtherO vO tO mO gO)]) → va_S A s.heap H locs → lv_has ls 7 [(0, .ref (qO 0)), (1, .int p1), (2, .int p2), (3, .int p3), (4, .int rz2), (5, .int xz147)] → W p l e (headSpec wk_c_X12_crosses ({ frames := 1, cells := 0, slots := 0, locals := 21 })).room s m ([.ref (qO 0), .int p1, .int p2, .int p3] : List Value).toArray below meth c H locs 0 0 Q (F0 m 64 ls []) := by
      intro H locs ls  hP hD hS hl
      refine lv_iload hx hb dX12_crosses_64 (lv_at hl 5 rfl) ?_
      have ct98_kz184 : ∀ (H : Heap) (locs : List Loc) (ls : Array Slot), va_P (dC, dI) vwCl (List.flatten [(wmDn qDn k uDn), (wmMe qMe k aMe), (wmWh qWh k aWh)] ++ List.flatten [(wMO qO k widthO manyO cellsO movedO tapeO linesO hasO bridgeO cartO wardO frostAtO actO isKeptO loadNowO byNowO rowO (qMe 0) (qWh 0) (qDn 0) brokenByO brokenAtO goesByO comesToO sagMoreO creakOfO wipedByO deepAtO sagAtO loadAtO orderRowO oftenO lossOneO lossOtherO vO tO mO gO)]) H → va_D A (List.flatten [(wmDn qDn k uDn), (wmMe qMe k aMe), (wmWh qWh k aWh)] ++ List.flatten [(wMO qO k widthO manyO cellsO movedO tapeO linesO hasO bridgeO cartO wardO frostAtO actO isKeptO loadNowO byNowO rowO (qMe 0) (qWh 0) (qDn 0) brokenByO brokenAtO goesByO comesToO sagMoreO creakOfO wipedByO deepAtO sagAtO loadAtO orderRowO oftenO lossOneO lossOtherO vO tO mO gO)]) → va_S A s.heap H locs → lv_has ls 7 [(0, .ref (qO 0)), (1, .int p1), (2, .int p2), (3, .int p3)] → W p l e (headSpec wk_c_X12_crosses ({ frames := 1, cells := 0, slots := 0, locals := 21 })).room s m ([.ref (qO 0), .int p1, .int p2, .int p3] : List Value).toArray below meth c H locs 0 0 Q (F0 m 98 ls []) := by
        intro H locs ls  hP hD hS hl
        refine lv_iconst (v := 0) hx hb dX12_crosses_98 (by decide) ?_
        refine lv_istore (lv' := [(6, .int 0), (0, .ref (qO 0)), (1, .int p1), (2, .int p2), (3, .int p3)]) hx hb dX12_crosses_99 hl (by decide) rfl (fun ls hl => ?_)
        have lp101_kz225 : ∀ (n9_101 : Nat) (H : Heap) (locs : List Loc) (ls : Array Slot) (uz223 : Nat → Nat → Int32) (xz224 : Int32), (((uz223 0) p1.toNatClampNeg).toInt).toNat < n9_101 → RuA T9 uz223 → ((uz223 0) p1.toNatClampNeg).toInt < T9 → va_P (dC, dI) vwCl (List.flatten [(wmDn qDn k uz223), (wmMe qMe k aMe), (wmWh qWh k aWh)] ++ List.flatten [(wMO qO k widthO manyO cellsO movedO tapeO linesO hasO bridgeO cartO wardO frostAtO actO isKeptO loadNowO byNowO rowO (qMe 0) (qWh 0) (qDn 0) brokenByO brokenAtO goesByO comesToO sagMoreO creakOfO wipedByO deepAtO sagAtO loadAtO orderRowO oftenO lossOneO lossOtherO vO tO mO gO)]) H → va_D A (List.flatten [(wmDn qDn k uz223), (wmMe qMe k aMe), (wmWh qWh k aWh)] ++ List.flatten [(wMO qO k widthO manyO cellsO movedO tapeO linesO hasO bridgeO cartO wardO frostAtO actO isKeptO loadNowO byNowO rowO (qMe 0) (qWh 0) (qDn 0) brokenByO brokenAtO goesByO comesToO sagMoreO creakOfO wipedByO deepAtO sagAtO loadAtO orderRowO oftenO lossOneO lossOtherO vO tO mO gO)]) → va_S A s.heap H locs → lv_has ls 7 [(0, .ref (qO 0)), (1, .int p1), (2, .int p2), (3, .int p3), (6, .int xz224)] → W p l e (headSpec wk_c_X12_crosses ({ frames := 1, cells := 0, slots := 0, locals := 21 })).room s m ([.ref (qO 0), .int p1, .int p2, .int p3] : List Value).toArray below meth c H locs 0 0 Q (F0 m 101 ls []) := by
          intro n9_101
          induction n9_101 with
          | zero => intro H locs ls uz223 xz224 hm; exact absurd hm (Nat.not_lt_zero _)
          | succ n9_101 ih101 =>
            intro H locs ls uz223 xz224 hm101 huz223 jz226 hP hD hS hl
            refine lv_aload_n hx hb dX12_crosses_101 rfl (lv_at hl 0 rfl) ?_
            refine va_get (D := (dC, dI)) (ci := 12) (v := .ref (qDn 0)) (C := RX12) (T := TX12) (N := 59) hx hb hts (fun w h => List.mem_cons_of_mem _ (List.mem_append_right _ (List.mem_append_right _ (List.mem_append_left _ h)))) hown hK hP 3 rfl rfl 32 (by decide) (hts (.fieldLink RX12 71 "SagMemoryModel" "deepNow" "[I") (wl_mem 5 rfl)) (fun _ h9 => h9) rfl dX12_crosses_102 ?_
            refine lv_iload_n hx hb dX12_crosses_105 rfl (lv_at hl 1 rfl) ?_
            refine va_iald hx hb hK hP 0 0 rfl rfl (vp_in_iff.mpr ⟨by omega, by omega⟩) dX12_crosses_106 ?_
            refine lv_topi (fun xz227 exz227 => ?_)
            have bxz227 : 0 ≤ xz227.toInt ∧ xz227.toInt ≤ T9 := by rw [exz227]; exact ru_rd huz223 (by show 0 ≤ p1.toInt; omega) (by show p1.toInt ≤ 2; omega)
            have gxz227 : xz227.toInt = ((uz223 0) p1.toNatClampNeg).toInt := congrArg Int32.toInt exz227
            have ct135_kz244 : ∀ (H : Heap) (locs : List Loc) (ls : Array Slot), va_P (dC, dI) vwCl (List.flatten [(wmDn qDn k uz223), (wmMe qMe k aMe), (wmWh qWh k aWh)] ++ List.flatten [(wMO qO k widthO manyO cellsO movedO tapeO linesO hasO bridgeO cartO wardO frostAtO actO isKeptO loadNowO byNowO rowO (qMe 0) (qWh 0) (qDn 0) brokenByO brokenAtO goesByO comesToO sagMoreO creakOfO wipedByO deepAtO sagAtO loadAtO orderRowO oftenO lossOneO lossOtherO vO tO mO gO)]) H → va_D A (List.flatten [(wmDn qDn k uz223), (wmMe qMe k aMe), (wmWh qWh k aWh)] ++ List.flatten [(wMO qO k widthO manyO cellsO movedO tapeO linesO hasO bridgeO cartO wardO frostAtO actO isKeptO loadNowO byNowO rowO (qMe 0) (qWh 0) (qDn 0) brokenByO brokenAtO goesByO comesToO sagMoreO creakOfO wipedByO deepAtO sagAtO loadAtO orderRowO oftenO lossOneO lossOtherO vO tO mO gO)]) → va_S A s.heap H locs → lv_has ls 7 [(0, .ref (qO 0)), (1, .int p1), (2, .int p2), (3, .int p3), (6, .int xz224)] → W p l e (headSpec wk_c_X12_crosses ({ frames := 1, cells := 0, slots := 0, locals := 21 })).room s m ([.ref (qO 0), .int p1, .int p2, .int p3] : List Value).toArray below meth c H locs 0 0 Q (F0 m 135 ls []) := by
              intro H locs ls  hP hD hS hl
              refine lv_aload_n hx hb dX12_crosses_135 rfl (lv_at hl 0 rfl) ?_
              refine va_get (D := (dC, dI)) (ci := 12) (v := .ref (qMe 0)) (C := RX12) (T := TX12) (N := 59) hx hb hts (fun w h => List.mem_cons_of_mem _ (List.mem_append_right _ (List.mem_append_right _ (List.mem_append_left _ h)))) hown hK hP 3 rfl rfl 30 (by decide) (hts (.fieldLink RX12 65 "SagMemoryModel" "memory" "[I") (wl_mem 6 rfl)) (fun _ h9 => h9) rfl dX12_crosses_136 ?_
              refine lv_bipush (v := 8) hx hb dX12_crosses_139 (by decide) ?_
              refine lv_iload_n hx hb dX12_crosses_141 rfl (lv_at hl 1 rfl) ?_
              refine lv_imul hx hb dX12_crosses_142 ?_
              refine lv_topi (fun xz245 exz245 => ?_)
              have fxz245 : xz245.toInt = (8 : Int) * p1.toInt := by rw [exz245]; exact fb_mulI (x := (8 : Int32)) (y := p1) (by show -2147483648 ≤ (8 : Int) * p1.toInt; omega) (by show (8 : Int) * p1.toInt < 2147483648; omega)
              refine lv_aload_n hx hb dX12_crosses_143 rfl (lv_at hl 0 rfl) ?_
              refine va_get (D := (dC, dI)) (ci := 12) (v := .ref (qDn 0)) (C := RX12) (T := TX12) (N := 59) hx hb hts (fun w h => List.mem_cons_of_mem _ (List.mem_append_right _ (List.mem_append_right _ (List.mem_append_left _ h)))) hown hK hP 3 rfl rfl 32 (by decide) (hts (.fieldLink RX12 71 "SagMemoryModel" "deepNow" "[I") (wl_mem 5 rfl)) (fun _ h9 => h9) rfl dX12_crosses_144 ?_
              refine lv_iload_n hx hb dX12_crosses_147 rfl (lv_at hl 1 rfl) ?_
              refine va_iald hx hb hK hP 0 0 rfl rfl (vp_in_iff.mpr ⟨by omega, by omega⟩) dX12_crosses_148 ?_
              refine lv_topi (fun xz246 exz246 => ?_)
              have bxz246 : 0 ≤ xz246.toInt ∧ xz246.toInt ≤ T9 := by rw [exz246]; exact ru_rd huz223 (by show 0 ≤ p1.toInt; omega) (by show p1.toInt ≤ 2; omega)
              have gxz246 : xz246.toInt = ((uz223 0) p1.toNatClampNeg).toInt := congrArg Int32.toInt exz246
              refine lv_iadd hx hb dX12_crosses_149 ?_
              refine lv_topi (fun xz247 exz247 => ?_)
              have fxz247 : xz247.toInt = xz245.toInt + xz246.toInt := by rw [exz247]; exact fb_addI (x := xz245) (y := xz246) (by show -2147483648 ≤ xz245.toInt + xz246.toInt; omega) (by show xz245.toInt + xz246.toInt < 2147483648; omega)
              refine lv_iload_n hx hb dX12_crosses_150 rfl (lv_at hl 2 rfl) ?_
              refine va_iast hx hb hK hP hD hS 1 0 rfl rfl (vp_in_iff.mpr ⟨by omega, by omega⟩) dX12_crosses_151 (fun H locs hP hD hS => ?_)
              obtain ⟨fz248, efz248, hP, hD⟩ : ∃ fz248 : Nat → Int32, fz248 = upd (aMe 0) xz247.toNatClampNeg p2 ∧ va_P (dC, dI) vwCl (List.flatten [(wmDn qDn k uz223), (wmMe qMe k (va_up aMe 0 fz248)), (wmWh qWh k aWh)] ++ List.flatten [(wMO qO k widthO manyO cellsO movedO tapeO linesO hasO bridgeO cartO wardO frostAtO actO isKeptO loadNowO byNowO rowO (qMe 0) (qWh 0) (qDn 0) brokenByO brokenAtO goesByO comesToO sagMoreO creakOfO wipedByO deepAtO sagAtO loadAtO orderRowO oftenO lossOneO lossOtherO vO tO mO gO)]) H ∧ va_D A (List.flatten [(wmDn qDn k uz223), (wmMe qMe k (va_up aMe 0 fz248)), (wmWh qWh k aWh)] ++ List.flatten [(wMO qO k widthO manyO cellsO movedO tapeO linesO hasO bridgeO cartO wardO frostAtO actO isKeptO loadNowO byNowO rowO (qMe 0) (qWh 0) (qDn 0) brokenByO brokenAtO goesByO comesToO sagMoreO creakOfO wipedByO deepAtO sagAtO loadAtO orderRowO oftenO lossOneO lossOtherO vO tO mO gO)]) := ⟨_, rfl, hP, hD⟩
              have kfz248 : fz248 xz247.toNatClampNeg = p2 := by rw [efz248]; exact pk_us
              refine lv_aload_n hx hb dX12_crosses_152 rfl (lv_at hl 0 rfl) ?_
              refine va_get (D := (dC, dI)) (ci := 12) (v := .ref (qWh 0)) (C := RX12) (T := TX12) (N := 59) hx hb hts (fun w h => List.mem_cons_of_mem _ (List.mem_append_right _ (List.mem_append_right _ (List.mem_append_left _ h)))) hown hK hP 3 rfl rfl 31 (by decide) (hts (.fieldLink RX12 68 "SagMemoryModel" "whose" "[I") (wl_mem 7 rfl)) (fun _ h9 => h9) rfl dX12_crosses_153 ?_
              refine lv_bipush (v := 8) hx hb dX12_crosses_156 (by decide) ?_
              refine lv_iload_n hx hb dX12_crosses_158 rfl (lv_at hl 1 rfl) ?_
              refine lv_imul hx hb dX12_crosses_159 ?_
              refine lv_topi (fun xz249 exz249 => ?_)
              have fxz249 : xz249.toInt = (8 : Int) * p1.toInt := by rw [exz249]; exact fb_mulI (x := (8 : Int32)) (y := p1) (by show -2147483648 ≤ (8 : Int) * p1.toInt; omega) (by show (8 : Int) * p1.toInt < 2147483648; omega)
              refine lv_aload_n hx hb dX12_crosses_160 rfl (lv_at hl 0 rfl) ?_
              refine va_get (D := (dC, dI)) (ci := 12) (v := .ref (qDn 0)) (C := RX12) (T := TX12) (N := 59) hx hb hts (fun w h => List.mem_cons_of_mem _ (List.mem_append_right _ (List.mem_append_right _ (List.mem_append_left _ h)))) hown hK hP 3 rfl rfl 32 (by decide) (hts (.fieldLink RX12 71 "SagMemoryModel" "deepNow" "[I") (wl_mem 5 rfl)) (fun _ h9 => h9) rfl dX12_crosses_161 ?_
              refine lv_iload_n hx hb dX12_crosses_164 rfl (lv_at hl 1 rfl) ?_
              refine va_iald hx hb hK hP 0 0 rfl rfl (vp_in_iff.mpr ⟨by omega, by omega⟩) dX12_crosses_165 ?_
              refine lv_topi (fun xz250 exz250 => ?_)
              have bxz250 : 0 ≤ xz250.toInt ∧ xz250.toInt ≤ T9 := by rw [exz250]; exact ru_rd huz223 (by show 0 ≤ p1.toInt; omega) (by show p1.toInt ≤ 2; omega)
              have gxz250 : xz250.toInt = ((uz223 0) p1.toNatClampNeg).toInt := congrArg Int32.toInt exz250
              refine lv_iadd hx hb dX12_crosses_166 ?_
              refine lv_topi (fun xz251 exz251 => ?_)
              have fxz251 : xz251.toInt = xz249.toInt + xz250.toInt := by rw [exz251]; exact fb_addI (x := xz249) (y := xz250) (by show -2147483648 ≤ xz249.toInt + xz250.toInt; omega) (by show xz249.toInt + xz250.toInt < 2147483648; omega)
              refine lv_iload_n hx hb dX12_crosses_167 rfl (lv_at hl 3 rfl) ?_
              refine va_iast hx hb hK hP hD hS 2 0 rfl rfl (vp_in_iff.mpr ⟨by omega, by omega⟩) dX12_crosses_168 (fun H locs hP hD hS => ?_)
              obtain ⟨fz252, efz252, hP, hD⟩ : ∃ fz252 : Nat → Int32, fz252 = upd (aWh 0) xz251.toNatClampNeg p3 ∧ va_P (dC, dI) vwCl (List.flatten [(wmDn qDn k uz223), (wmMe qMe k (va_up aMe 0 fz248)), (wmWh qWh k (va_up aWh 0 fz252))] ++ List.flatten [(wMO qO k widthO manyO cellsO movedO tapeO linesO hasO bridgeO cartO wardO frostAtO actO isKeptO loadNowO byNowO rowO (qMe 0) (qWh 0) (qDn 0) brokenByO brokenAtO goesByO comesToO sagMoreO creakOfO wipedByO deepAtO sagAtO loadAtO orderRowO oftenO lossOneO lossOtherO vO tO mO gO)]) H ∧ va_D A (List.flatten [(wmDn qDn k uz223), (wmMe qMe k (va_up aMe 0 fz248)), (wmWh qWh k (va_up aWh 0 fz252))] ++ List.flatten [(wMO qO k widthO manyO cellsO movedO tapeO linesO hasO bridgeO cartO wardO frostAtO actO isKeptO loadNowO byNowO rowO (qMe 0) (qWh 0) (qDn 0) brokenByO brokenAtO goesByO comesToO sagMoreO creakOfO wipedByO deepAtO sagAtO loadAtO orderRowO oftenO lossOneO lossOtherO vO tO mO gO)]) := ⟨_, rfl, hP, hD⟩
              have kfz252 : fz252 xz251.toNatClampNeg = p3 := by rw [efz252]; exact pk_us
              refine lv_aload_n hx hb dX12_crosses_169 rfl (lv_at hl 0 rfl) ?_
              refine va_get (D := (dC, dI)) (ci := 12) (v := .ref (qDn 0)) (C := RX12) (T := TX12) (N := 59) hx hb hts (fun w h => List.mem_cons_of_mem _ (List.mem_append_right _ (List.mem_append_right _ (List.mem_append_left _ h)))) hown hK hP 3 rfl rfl 32 (by decide) (hts (.fieldLink RX12 71 "SagMemoryModel" "deepNow" "[I") (wl_mem 5 rfl)) (fun _ h9 => h9) rfl dX12_crosses_170 ?_
              refine lv_iload_n hx hb dX12_crosses_173 rfl (lv_at hl 1 rfl) ?_
              refine lv_dup2_11 hx hb dX12_crosses_174 rfl rfl ?_
              refine va_iald hx hb hK hP 0 0 rfl rfl (vp_in_iff.mpr ⟨by omega, by omega⟩) dX12_crosses_175 ?_
              refine lv_topi (fun xz253 exz253 => ?_)
              have bxz253 : 0 ≤ xz253.toInt ∧ xz253.toInt ≤ T9 := by rw [exz253]; exact ru_rd huz223 (by show 0 ≤ p1.toInt; omega) (by show p1.toInt ≤ 2; omega)
              have gxz253 : xz253.toInt = ((uz223 0) p1.toNatClampNeg).toInt := congrArg Int32.toInt exz253
              refine lv_iconst (v := 1) hx hb dX12_crosses_176 (by decide) ?_
              refine lv_iadd hx hb dX12_crosses_177 ?_
              refine lv_topi (fun xz254 exz254 => ?_)
              have fxz254 : xz254.toInt = xz253.toInt + (1 : Int) := by rw [exz254]; exact fb_addI (x := xz253) (y := (1 : Int32)) (by show -2147483648 ≤ xz253.toInt + (1 : Int); omega) (by show xz253.toInt + (1 : Int) < 2147483648; omega)
              refine va_iast hx hb hK hP hD hS 0 0 rfl rfl (vp_in_iff.mpr ⟨by omega, by omega⟩) dX12_crosses_178 (fun H locs hP hD hS => ?_)
              obtain ⟨fz255, efz255, hP, hD⟩ : ∃ fz255 : Nat → Int32, fz255 = upd (uz223 0) p1.toNatClampNeg xz254 ∧ va_P (dC, dI) vwCl (List.flatten [(wmDn qDn k (va_up uz223 0 fz255)), (wmMe qMe k (va_up aMe 0 fz248)), (wmWh qWh k (va_up aWh 0 fz252))] ++ List.flatten [(wMO qO k widthO manyO cellsO movedO tapeO linesO hasO bridgeO cartO wardO frostAtO actO isKeptO loadNowO byNowO rowO (qMe 0) (qWh 0) (qDn 0) brokenByO brokenAtO goesByO comesToO sagMoreO creakOfO wipedByO deepAtO sagAtO loadAtO orderRowO oftenO lossOneO lossOtherO vO tO mO gO)]) H ∧ va_D A (List.flatten [(wmDn qDn k (va_up uz223 0 fz255)), (wmMe qMe k (va_up aMe 0 fz248)), (wmWh qWh k (va_up aWh 0 fz252))] ++ List.flatten [(wMO qO k widthO manyO cellsO movedO tapeO linesO hasO bridgeO cartO wardO frostAtO actO isKeptO loadNowO byNowO rowO (qMe 0) (qWh 0) (qDn 0) brokenByO brokenAtO goesByO comesToO sagMoreO creakOfO wipedByO deepAtO sagAtO loadAtO orderRowO oftenO lossOneO lossOtherO vO tO mO gO)]) := ⟨_, rfl, hP, hD⟩
              have hfz255 : Ru T9 fz255 := by rw [efz255]; exact ru_upd huz223 (by show 0 ≤ xz254.toInt ∧ xz254.toInt ≤ T9; omega)
              have kfz255 : fz255 p1.toNatClampNeg = xz254 := by rw [efz255]; exact pk_us
              have mfz255 : (fz255 p1.toNatClampNeg).toInt = xz254.toInt := congrArg Int32.toInt kfz255
              refine lv_iload hx hb dX12_crosses_179 (lv_at hl 4 rfl) ?_
              rw [hQ]
              exact W.iret (v := xz224) hx hb hr (fun t ht hW => ⟨⟨xz224, (), rfl, trivial, (va_up uz223 0 fz255), (va_up aMe 0 fz248), (va_up aWh 0 fz252), (ruA_up hfz255), by rw [ht]; exact hP⟩, hS.F ht⟩) hS.2.2 dX12_crosses_181
            refine lv_if_le (tgt := 135) hx hb dX12_crosses_107 (by decide) (fun cz256 => ?_) (fun cz256 => ?_)
            · skip
              have zz257 : xz227.toInt ≤ (0 : Int) := zi_le.mp cz256
              exact ct135_kz244 H locs ls   hP hD hS (lv_sub hl [0, 1, 2, 3, 4] rfl)
            · skip
              have zz258 : ¬ xz227.toInt ≤ (0 : Int) := fun h9 => cz256 (zi_le.mpr h9)
              refine lv_aload_n hx hb dX12_crosses_110 rfl (lv_at hl 0 rfl) ?_
              refine lv_iload_n hx hb dX12_crosses_111 rfl (lv_at hl 1 rfl) ?_
              have hPc := hP.sub (ws' := (List.flatten [(wMO qO k widthO manyO cellsO movedO tapeO linesO hasO bridgeO cartO wardO frostAtO actO isKeptO loadNowO byNowO rowO (qMe 0) (qWh 0) (qDn 0) brokenByO brokenAtO goesByO comesToO sagMoreO creakOfO wipedByO deepAtO sagAtO loadAtO orderRowO oftenO lossOneO lossOtherO vO tO mO gO), (wmDn qDn k uz223), (wmMe qMe k aMe)])) [3, 0, 1] rfl
              refine vp_callSi (va_Run.run (va_runV (As := [.int p1]) (rest := []) ⟨hx, hb, hml, hown, hts⟩ (c_X12_lastOf l dC dI k qO widthO manyO cellsO movedO tapeO linesO hasO bridgeO cartO wardO frostAtO actO isKeptO loadNowO byNowO rowO (qWh 0) brokenByO brokenAtO goesByO comesToO sagMoreO creakOfO wipedByO deepAtO sagAtO loadAtO orderRowO oftenO lossOneO lossOtherO vO tO mO gO qDn uz223 qMe aMe p1 htO hmO (ru_wk huz223 (by show (T9 : Int) ≤ 8; omega)) (by show 0 ≤ p1.toInt ∧ p1.toInt ≤ 2; omega)) (cwV 1 hts (gk_V (wl_mem 0 rfl) (wl_mem 1 rfl) (wl_mem 2 rfl) (wl_mem 3 rfl) (fun w h => List.mem_cons_of_mem _ (List.mem_append_right _ (List.mem_append_left _ h))) wkg_c_X12_lastOf) rfl rfl rfl (by decide +kernel) ⟨Nat.le_of_ble_eq_true rfl, Nat.le_of_ble_eq_true rfl⟩) ⟨fun a U g mk q => by obtain ⟨q0, qP, qK⟩ := q; exact ⟨q0, qP, va_K.moved (u := U) (U := U.calling g mk a) (Vm.Alike.refl U.vm) qK⟩, va_recv hK hPc (ci := 12) (q0 := 0) rfl rfl, fun U hU hW => ⟨rfl, by rw [hU]; exact hPc, va_K.moved hW.alike hK⟩⟩ rfl rfl hl.1 rfl (lv_room (Nat.le_of_ble_eq_true rfl)) dX12_crosses_112 ⟨Nat.le_of_ble_eq_true rfl, Nat.le_of_ble_eq_true rfl⟩)) (fun rz260 gz259 => ?_)
              clear hPc
              refine lv_iload_n hx hb dX12_crosses_115 rfl (lv_at hl 2 rfl) ?_
              refine lv_icmp_gt (tgt := 135) hx hb dX12_crosses_116 (by decide) (fun cz261 => ?_) (fun cz261 => ?_)
              · skip
                have bz262 := fb_rng p2
                have bz263 := fb_rng rz260
                have zz264 : p2.toInt < rz260.toInt := zi_lt.mp cz261
                exact ct135_kz244 H locs ls   hP hD hS (lv_sub hl [0, 1, 2, 3, 4] rfl)
              · skip
                have bz265 := fb_rng p2
                have bz266 := fb_rng rz260
                have zz267 : ¬ p2.toInt < rz260.toInt := fun h9 => cz261 (zi_lt.mpr h9)
                refine lv_aload_n hx hb dX12_crosses_119 rfl (lv_at hl 0 rfl) ?_
                refine va_get (D := (dC, dI)) (ci := 12) (v := .ref (qDn 0)) (C := RX12) (T := TX12) (N := 59) hx hb hts (fun w h => List.mem_cons_of_mem _ (List.mem_append_right _ (List.mem_append_right _ (List.mem_append_left _ h)))) hown hK hP 3 rfl rfl 32 (by decide) (hts (.fieldLink RX12 71 "SagMemoryModel" "deepNow" "[I") (wl_mem 5 rfl)) (fun _ h9 => h9) rfl dX12_crosses_120 ?_
                refine lv_iload_n hx hb dX12_crosses_123 rfl (lv_at hl 1 rfl) ?_
                refine lv_dup2_11 hx hb dX12_crosses_124 rfl rfl ?_
                refine va_iald hx hb hK hP 0 0 rfl rfl (vp_in_iff.mpr ⟨by omega, by omega⟩) dX12_crosses_125 ?_
                refine lv_topi (fun xz268 exz268 => ?_)
                have bxz268 : 0 ≤ xz268.toInt ∧ xz268.toInt ≤ T9 := by rw [exz268]; exact ru_rd huz223 (by show 0 ≤ p1.toInt; omega) (by show p1.toInt ≤ 2; omega)
                have gxz268 : xz268.toInt = ((uz223 0) p1.toNatClampNeg).toInt := congrArg Int32.toInt exz268
                refine lv_iconst (v := 1) hx hb dX12_crosses_126 (by decide) ?_
                refine lv_isub hx hb dX12_crosses_127 ?_
                refine lv_topi (fun xz269 exz269 => ?_)
                have fxz269 : xz269.toInt = xz268.toInt - (1 : Int) := by rw [exz269]; exact fb_subI (x := xz268) (y := (1 : Int32)) (by show -2147483648 ≤ xz268.toInt - (1 : Int); omega) (by show xz268.toInt - (1 : Int) < 2147483648; omega)
                refine va_iast hx hb hK hP hD hS 0 0 rfl rfl (vp_in_iff.mpr ⟨by omega, by omega⟩) dX12_crosses_128 (fun H locs hP hD hS => ?_)
                obtain ⟨fz270, efz270, hP, hD⟩ : ∃ fz270 : Nat → Int32, fz270 = upd (uz223 0) p1.toNatClampNeg xz269 ∧ va_P (dC, dI) vwCl (List.flatten [(wmDn qDn k (va_up uz223 0 fz270)), (wmMe qMe k aMe), (wmWh qWh k aWh)] ++ List.flatten [(wMO qO k widthO manyO cellsO movedO tapeO linesO hasO bridgeO cartO wardO frostAtO actO isKeptO loadNowO byNowO rowO (qMe 0) (qWh 0) (qDn 0) brokenByO brokenAtO goesByO comesToO sagMoreO creakOfO wipedByO deepAtO sagAtO loadAtO orderRowO oftenO lossOneO lossOtherO vO tO mO gO)]) H ∧ va_D A (List.flatten [(wmDn qDn k (va_up uz223 0 fz270)), (wmMe qMe k aMe), (wmWh qWh k aWh)] ++ List.flatten [(wMO qO k widthO manyO cellsO movedO tapeO linesO hasO bridgeO cartO wardO frostAtO actO isKeptO loadNowO byNowO rowO (qMe 0) (qWh 0) (qDn 0) brokenByO brokenAtO goesByO comesToO sagMoreO creakOfO wipedByO deepAtO sagAtO loadAtO orderRowO oftenO lossOneO lossOtherO vO tO mO gO)]) := ⟨_, rfl, hP, hD⟩
                have hfz270 : Ru T9 fz270 := by rw [efz270]; exact ru_upd huz223 (by show 0 ≤ xz269.toInt ∧ xz269.toInt ≤ T9; omega)
                have kfz270 : fz270 p1.toNatClampNeg = xz269 := by rw [efz270]; exact pk_us
                have mfz270 : (fz270 p1.toNatClampNeg).toInt = xz269.toInt := congrArg Int32.toInt kfz270
                obtain ⟨xz271, exz271⟩ : ∃ y : Int32, y = xz224 + Int32.ofInt (1) := ⟨_, rfl⟩
                refine lv_iinc (v := xz271) (lv' := [(6, .int xz271), (0, .ref (qO 0)), (1, .int p1), (2, .int p2), (3, .int p3)]) hx hb dX12_crosses_129 hl (k := 4) rfl exz271.symm (by decide) rfl (fun ls hl => ?_)
                refine lv_goto (tgt := 101) hx hb dX12_crosses_132 (by decide) ?_
                exact ih101 H locs ls (va_up uz223 0 fz270) xz271 (by show ((fz270 p1.toNatClampNeg).toInt).toNat < n9_101; omega) (ruA_up hfz270) (by show (fz270 p1.toNatClampNeg).toInt < T9; omega) hP hD hS (lv_sub hl [1, 2, 3, 4, 0] rfl)
        exact lp101_kz225 _ H locs ls uDn (0 : Int32) (Nat.lt_succ_self _) huDn (by show ((uDn 0) p1.toNatClampNeg).toInt < T9; omega) hP hD hS (lv_sub hl [1, 2, 3, 4, 0] rfl)
      refine lv_if_eq (tgt := 98) hx hb dX12_crosses_66 (by decide) (fun cz272 => ?_) (fun cz272 => ?_)
      · skip
        have zz273 : xz147.toInt = (0 : Int) := zi_eq.mp cz272
        exact ct98_kz184 H locs ls   hP hD hS (lv_sub hl [0, 1, 2, 3] rfl)
      · skip
        have zz274 : ¬ xz147.toInt = (0 : Int) := fun h9 => cz272 (zi_eq.mpr h9)
        refine lv_aload_n hx hb dX12_crosses_69 rfl (lv_at hl 0 rfl) ?_
        refine va_get (D := (dC, dI)) (ci := 12) (v := .ref (qDn 0)) (C := RX12) (T := TX12) (N := 59) hx hb hts (fun w h => List.mem_cons_of_mem _ (List.mem_append_right _ (List.mem_append_right _ (List.mem_append_left _ h)))) hown hK hP 3 rfl rfl 32 (by decide) (hts (.fieldLink RX12 71 "SagMemoryModel" "deepNow" "[I") (wl_mem 5 rfl)) (fun _ h9 => h9) rfl dX12_crosses_70 ?_
        refine lv_iload_n hx hb dX12_crosses_73 rfl (lv_at hl 1 rfl) ?_
        refine va_iald hx hb hK hP 0 0 rfl rfl (vp_in_iff.mpr ⟨by omega, by omega⟩) dX12_crosses_74 ?_
        refine lv_topi (fun xz275 exz275 => ?_)
        have bxz275 : 0 ≤ xz275.toInt ∧ xz275.toInt ≤ T9 := by rw [exz275]; exact ru_rd huDn (by show 0 ≤ p1.toInt; omega) (by show p1.toInt ≤ 2; omega)
        have gxz275 : xz275.toInt = ((uDn 0) p1.toNatClampNeg).toInt := congrArg Int32.toInt exz275
        refine lv_if_le (tgt := 98) hx hb dX12_crosses_75 (by decide) (fun cz276 => ?_) (fun cz276 => ?_)
        · skip
          have zz277 : xz275.toInt ≤ (0 : Int) := zi_le.mp cz276
          exact ct98_kz184 H locs ls   hP hD hS (lv_sub hl [0, 1, 2, 3] rfl)
        · skip
          have zz278 : ¬ xz275.toInt ≤ (0 : Int) := fun h9 => cz276 (zi_le.mpr h9)
          refine lv_iconst (v := 2) hx hb dX12_crosses_78 (by decide) ?_
          refine lv_iload_n hx hb dX12_crosses_79 rfl (lv_at hl 2 rfl) ?_
          refine lv_imul hx hb dX12_crosses_80 ?_
          refine lv_topi (fun xz279 exz279 => ?_)
          refine lv_iload hx hb dX12_crosses_81 (lv_at hl 4 rfl) ?_
          refine lv_icmp_ge (tgt := 98) hx hb dX12_crosses_83 (by decide) (fun cz280 => ?_) (fun cz280 => ?_)
          · skip
            have bz281 := fb_rng rz2
            have bz282 := fb_rng xz279
            have zz283 : rz2.toInt ≤ xz279.toInt := zi_le.mp cz280
            exact ct98_kz184 H locs ls   hP hD hS (lv_sub hl [0, 1, 2, 3] rfl)
          · skip
            have bz284 := fb_rng rz2
            have bz285 := fb_rng xz279
            have zz286 : ¬ rz2.toInt ≤ xz279.toInt := fun h9 => cz280 (zi_le.mpr h9)
            refine lv_aload_n hx hb dX12_crosses_86 rfl (lv_at hl 0 rfl) ?_
            refine va_get (D := (dC, dI)) (ci := 12) (v := .ref (qDn 0)) (C := RX12) (T := TX12) (N := 59) hx hb hts (fun w h => List.mem_cons_of_mem _ (List.mem_append_right _ (List.mem_append_right _ (List.mem_append_left _ h)))) hown hK hP 3 rfl rfl 32 (by decide) (hts (.fieldLink RX12 71 "SagMemoryModel" "deepNow" "[I") (wl_mem 5 rfl)) (fun _ h9 => h9) rfl dX12_crosses_87 ?_
            refine lv_iload_n hx hb dX12_crosses_90 rfl (lv_at hl 1 rfl) ?_
            refine lv_dup2_11 hx hb dX12_crosses_91 rfl rfl ?_
            refine va_iald hx hb hK hP 0 0 rfl rfl (vp_in_iff.mpr ⟨by omega, by omega⟩) dX12_crosses_92 ?_
            refine lv_topi (fun xz287 exz287 => ?_)
            have bxz287 : 0 ≤ xz287.toInt ∧ xz287.toInt ≤ T9 := by rw [exz287]; exact ru_rd huDn (by show 0 ≤ p1.toInt; omega) (by show p1.toInt ≤ 2; omega)
            have gxz287 : xz287.toInt = ((uDn 0) p1.toNatClampNeg).toInt := congrArg Int32.toInt exz287
            refine lv_iconst (v := 1) hx hb dX12_crosses_93 (by decide) ?_
            refine lv_isub hx hb dX12_crosses_94 ?_
            refine lv_topi (fun xz288 exz288 => ?_)
            have fxz288 : xz288.toInt = xz287.toInt - (1 : Int) := by rw [exz288]; exact fb_subI (x := xz287) (y := (1 : Int32)) (by show -2147483648 ≤ xz287.toInt - (1 : Int); omega) (by show xz287.toInt - (1 : Int) < 2147483648; omega)
            refine va_iast hx hb hK hP hD hS 0 0 rfl rfl (vp_in_iff.mpr ⟨by omega, by omega⟩) dX12_crosses_95 (fun H locs hP hD hS => ?_)
            obtain ⟨fz289, efz289, hP, hD⟩ : ∃ fz289 : Nat → Int32, fz289 = upd (uDn 0) p1.toNatClampNeg xz288 ∧ va_P (dC, dI) vwCl (List.flatten [(wmDn qDn k (va_up uDn 0 fz289)), (wmMe qMe k aMe), (wmWh qWh k aWh)] ++ List.flatten [(wMO qO k widthO manyO cellsO movedO tapeO linesO hasO bridgeO cartO wardO frostAtO actO isKeptO loadNowO byNowO rowO (qMe 0) (qWh 0) (qDn 0) brokenByO brokenAtO goesByO comesToO sagMoreO creakOfO wipedByO deepAtO sagAtO loadAtO orderRowO oftenO lossOneO lossOtherO vO tO mO gO)]) H ∧ va_D A (List.flatten [(wmDn qDn k (va_up uDn 0 fz289)), (wmMe qMe k aMe), (wmWh qWh k aWh)] ++ List.flatten [(wMO qO k widthO manyO cellsO movedO tapeO linesO hasO bridgeO cartO wardO frostAtO actO isKeptO loadNowO byNowO rowO (qMe 0) (qWh 0) (qDn 0) brokenByO brokenAtO goesByO comesToO sagMoreO creakOfO wipedByO deepAtO sagAtO loadAtO orderRowO oftenO lossOneO lossOtherO vO tO mO gO)]) := ⟨_, rfl, hP, hD⟩
            have hfz289 : Ru T9 fz289 := by rw [efz289]; exact ru_upd huDn (by show 0 ≤ xz288.toInt ∧ xz288.toInt ≤ T9; omega)
            have kfz289 : fz289 p1.toNatClampNeg = xz288 := by rw [efz289]; exact pk_us
            have mfz289 : (fz289 p1.toNatClampNeg).toInt = xz288.toInt := congrArg Int32.toInt kfz289
            refine lv_iconst (v := 1) hx hb dX12_crosses_96 (by decide) ?_
            rw [hQ]
            exact W.iret (v := (1 : Int32)) hx hb hr (fun t ht hW => ⟨⟨(1 : Int32), (), rfl, trivial, (va_up uDn 0 fz289), aMe, aWh, (ruA_up hfz289), by rw [ht]; exact hP⟩, hS.F ht⟩) hS.2.2 dX12_crosses_97
    refine lv_icmp_ne (tgt := 64) hx hb dX12_crosses_42 (by decide) (fun cz290 => ?_) (fun cz290 => ?_)
    · skip
      have zz291 : ¬ (vO 8).toInt = (2 : Int) := fun h9 => cz290 (zi_eq.mpr h9)
      exact ct64_kz165 H locs ls   hP hD hS (lv_sub hl [0, 1, 2, 3, 4, 5] rfl)
    · skip
      have zz292 : (vO 8).toInt = (2 : Int) := zi_eq.mp cz290
      refine lv_aload_n hx hb dX12_crosses_45 rfl (lv_at hl 0 rfl) ?_
      refine va_get (D := (dC, dI)) (ci := 12) (v := .ref (qDn 0)) (C := RX12) (T := TX12) (N := 59) hx hb hts (fun w h => List.mem_cons_of_mem _ (List.mem_append_right _ (List.mem_append_right _ (List.mem_append_left _ h)))) hown hK hP 3 rfl rfl 32 (by decide) (hts (.fieldLink RX12 71 "SagMemoryModel" "deepNow" "[I") (wl_mem 5 rfl)) (fun _ h9 => h9) rfl dX12_crosses_46 ?_
      refine lv_iload_n hx hb dX12_crosses_49 rfl (lv_at hl 1 rfl) ?_
      refine va_iald hx hb hK hP 0 0 rfl rfl (vp_in_iff.mpr ⟨by omega, by omega⟩) dX12_crosses_50 ?_
      refine lv_topi (fun xz293 exz293 => ?_)
      have bxz293 : 0 ≤ xz293.toInt ∧ xz293.toInt ≤ T9 := by rw [exz293]; exact ru_rd huDn (by show 0 ≤ p1.toInt; omega) (by show p1.toInt ≤ 2; omega)
      have gxz293 : xz293.toInt = ((uDn 0) p1.toNatClampNeg).toInt := congrArg Int32.toInt exz293
      refine lv_if_le (tgt := 64) hx hb dX12_crosses_51 (by decide) (fun cz294 => ?_) (fun cz294 => ?_)
      · skip
        have zz295 : xz293.toInt ≤ (0 : Int) := zi_le.mp cz294
        exact ct64_kz165 H locs ls   hP hD hS (lv_sub hl [0, 1, 2, 3, 4, 5] rfl)
      · skip
        have zz296 : ¬ xz293.toInt ≤ (0 : Int) := fun h9 => cz294 (zi_le.mpr h9)
        refine lv_iconst (v := 2) hx hb dX12_crosses_54 (by decide) ?_
        refine lv_iload_n hx hb dX12_crosses_55 rfl (lv_at hl 2 rfl) ?_
        refine lv_imul hx hb dX12_crosses_56 ?_
        refine lv_topi (fun xz297 exz297 => ?_)
        refine lv_iload hx hb dX12_crosses_57 (lv_at hl 4 rfl) ?_
        refine lv_icmp_gt (tgt := 64) hx hb dX12_crosses_59 (by decide) (fun cz298 => ?_) (fun cz298 => ?_)
        · skip
          have bz299 := fb_rng rz2
          have bz300 := fb_rng xz297
          have zz301 : rz2.toInt < xz297.toInt := zi_lt.mp cz298
          exact ct64_kz165 H locs ls   hP hD hS (lv_sub hl [0, 1, 2, 3, 4, 5] rfl)
        · skip
          have bz302 := fb_rng rz2
          have bz303 := fb_rng xz297
          have zz304 : ¬ rz2.toInt < xz297.toInt := fun h9 => cz298 (zi_lt.mpr h9)
          refine lv_iconst (v := 0) hx hb dX12_crosses_62 (by decide) ?_
          rw [hQ]
          exact W.iret (v := (0 : Int32)) hx hb hr (fun t ht hW => ⟨⟨(0 : Int32), (), rfl, trivial, uDn, aMe, aWh, huDn, by rw [ht]; exact hP⟩, hS.F ht⟩) hS.2.2 dX12_crosses_63
  have ct30_kz323 : ∀ (H : Heap) (locs : List Loc) (ls : Array Slot), va_P (dC, dI) vwCl (List.flatten [(wmDn qDn k uDn), (wmMe qMe k aMe), (wmWh qWh k aWh)] ++ List.flatten [(wMO qO k widthO manyO cellsO movedO tapeO linesO hasO bridgeO cartO wardO frostAtO actO isKeptO loadNowO byNowO rowO (qMe 0) (qWh 0) (qDn 0) brokenByO brokenAtO goesByO comesToO sagMoreO creakOfO wipedByO deepAtO sagAtO loadAtO orderRowO oftenO lossOneO lossOtherO vO tO mO gO)]) H → va_D A (List.flatten [(wmDn qDn k uDn), (wmMe qMe k aMe), (wmWh qWh k aWh)] ++ List.flatten [(wMO qO k widthO manyO cellsO movedO tapeO linesO hasO bridgeO cartO wardO frostAtO actO isKeptO loadNowO byNowO rowO (qMe 0) (qWh 0) (qDn 0) brokenByO brokenAtO goesByO comesToO sagMoreO creakOfO wipedByO deepAtO sagAtO loadAtO orderRowO oftenO lossOneO lossOtherO vO tO mO gO)]) → va_S A s.heap H locs → lv_has ls 7 [(0, .ref (qO 0)), (1, .int p1), (2, .int p2), (3, .int p3), (4, .int rz2)] → W p l e (headSpec wk_c_X12_crosses ({ frames := 1, cells := 0, slots := 0, locals := 21 })).room s m ([.ref (qO 0), .int p1, .int p2, .int p3] : List Value).toArray below meth c H locs 0 0 Q (F0 m 30 ls []) := by
    intro H locs ls  hP hD hS hl
    refine lv_iconst (v := 1) hx hb dX12_crosses_30 (by decide) ?_
    refine lv_goto (tgt := 35) hx hb dX12_crosses_31 (by decide) ?_
    refine lv_istore (lv' := [(5, .int 1), (0, .ref (qO 0)), (1, .int p1), (2, .int p2), (3, .int p3), (4, .int rz2)]) hx hb dX12_crosses_35 hl (by decide) rfl (fun ls hl => ?_)
    exact ct37_kz148 H locs ls (1 : Int32)  (by show 0 ≤ (1 : Int) ∧ (1 : Int) ≤ 1; omega) hP hD hS (lv_sub hl [1, 2, 3, 4, 5, 0] rfl)
  refine lv_icmp_eq (tgt := 30) hx hb dX12_crosses_12 (by decide) (fun cz324 => ?_) (fun cz324 => ?_)
  · skip
    have zz325 : (vO 8).toInt = (1 : Int) := zi_eq.mp cz324
    exact ct30_kz323 s.heap [] ls   hP hD hS (lv_sub hl [1, 2, 3, 4, 0] rfl)
  · skip
    have zz326 : ¬ (vO 8).toInt = (1 : Int) := fun h9 => cz324 (zi_eq.mpr h9)
    refine lv_aload_n hx hb dX12_crosses_15 rfl (lv_at hl 1 rfl) ?_
    refine va_get (D := (dC, dI)) (ci := 12) (v := .int (vO 8)) (C := RX12) (T := TX12) (N := 59) hx hb hts (fun w h => List.mem_cons_of_mem _ (List.mem_append_right _ (List.mem_append_right _ (List.mem_append_left _ h)))) hown hK hP 3 rfl rfl 24 (by decide) (hts (.fieldLink RX12 295 "SagMemoryModel" "law" "I") (wl_mem 4 rfl)) (fun _ h9 => h9) rfl dX12_crosses_16 ?_
    refine lv_iconst (v := 3) hx hb dX12_crosses_19 (by decide) ?_
    have ct34_kz334 : ∀ (H : Heap) (locs : List Loc) (ls : Array Slot), va_P (dC, dI) vwCl (List.flatten [(wmDn qDn k uDn), (wmMe qMe k aMe), (wmWh qWh k aWh)] ++ List.flatten [(wMO qO k widthO manyO cellsO movedO tapeO linesO hasO bridgeO cartO wardO frostAtO actO isKeptO loadNowO byNowO rowO (qMe 0) (qWh 0) (qDn 0) brokenByO brokenAtO goesByO comesToO sagMoreO creakOfO wipedByO deepAtO sagAtO loadAtO orderRowO oftenO lossOneO lossOtherO vO tO mO gO)]) H → va_D A (List.flatten [(wmDn qDn k uDn), (wmMe qMe k aMe), (wmWh qWh k aWh)] ++ List.flatten [(wMO qO k widthO manyO cellsO movedO tapeO linesO hasO bridgeO cartO wardO frostAtO actO isKeptO loadNowO byNowO rowO (qMe 0) (qWh 0) (qDn 0) brokenByO brokenAtO goesByO comesToO sagMoreO creakOfO wipedByO deepAtO sagAtO loadAtO orderRowO oftenO lossOneO lossOtherO vO tO mO gO)]) → va_S A s.heap H locs → lv_has ls 7 [(0, .ref (qO 0)), (1, .int p1), (2, .int p2), (3, .int p3), (4, .int rz2)] → W p l e (headSpec wk_c_X12_crosses ({ frames := 1, cells := 0, slots := 0, locals := 21 })).room s m ([.ref (qO 0), .int p1, .int p2, .int p3] : List Value).toArray below meth c H locs 0 0 Q (F0 m 34 ls []) := by
      intro H locs ls  hP hD hS hl
      refine lv_iconst (v := 0) hx hb dX12_crosses_34 (by decide) ?_
      refine lv_istore (lv' := [(5, .int 0), (0, .ref (qO 0)), (1, .int p1), (2, .int p2), (3, .int p3), (4, .int rz2)]) hx hb dX12_crosses_35 hl (by decide) rfl (fun ls hl => ?_)
      exact ct37_kz148 H locs ls (0 : Int32)  (by show 0 ≤ (0 : Int) ∧ (0 : Int) ≤ 1; omega) hP hD hS (lv_sub hl [1, 2, 3, 4, 5, 0] rfl)
    refine lv_icmp_ne (tgt := 34) hx hb dX12_crosses_20 (by decide) (fun cz335 => ?_) (fun cz335 => ?_)
    · skip
      have zz336 : ¬ (vO 8).toInt = (3 : Int) := fun h9 => cz335 (zi_eq.mpr h9)
      exact ct34_kz334 s.heap [] ls   hP hD hS (lv_sub hl [1, 2, 3, 4, 0] rfl)
    · skip
      have zz337 : (vO 8).toInt = (3 : Int) := zi_eq.mp cz335
      refine lv_iload_n hx hb dX12_crosses_23 rfl (lv_at hl 3 rfl) ?_
      refine lv_iconst (v := 2) hx hb dX12_crosses_24 (by decide) ?_
      refine lv_irem hx hb dX12_crosses_25 (by decide) ?_
      refine lv_topi (fun xz338 exz338 => ?_)
      refine lv_iconst (v := 1) hx hb dX12_crosses_26 (by decide) ?_
      refine lv_icmp_ne (tgt := 34) hx hb dX12_crosses_27 (by decide) (fun cz339 => ?_) (fun cz339 => ?_)
      · skip
        have zz340 : ¬ xz338.toInt = (1 : Int) := fun h9 => cz339 (zi_eq.mpr h9)
        exact ct34_kz334 s.heap [] ls   hP hD hS (lv_sub hl [1, 2, 3, 4, 0] rfl)
      · skip
        have zz341 : xz338.toInt = (1 : Int) := zi_eq.mp cz339
        exact ct30_kz323 s.heap [] ls   hP hD hS (lv_sub hl [1, 2, 3, 4, 0] rfl)
def wk_c_X12_freezes : List Cond := .code yX12_freezes cX12_freezes 5 none :: ([.methodLink RX12 283 yX12_bridges, .instanceMethod yX12_bridges, .selects RX12 yX12_bridges yX12_bridges, .initialized RX12, .fieldLink RX12 71 "SagMemoryModel" "deepNow" "[I", .fieldLink RX12 65 "SagMemoryModel" "memory" "[I", .fieldLink RX12 34 "SagMemoryModel" "has" "[I", .fieldLink RX12 68 "SagMemoryModel" "whose" "[I"] ++ (wk_c_X12_bridges ++ (wsX120 ++ [])))
theorem wkg_c_X12_freezes : wk_c_X12_freezes.all goodWord = true := by decide +kernel
set_option maxHeartbeats 4000000 in
set_option maxRecDepth 100000 in
theorem c_X12_freezes (l : Launch) (dC : Nat → ClassId) (dI : Nat → Nat → Nat) (k : Nat → ClassId) (sz : Nat) (qO : Nat → Nat) (widthO : Nat) (manyO : Nat) (cellsO : Nat) (movedO : Nat) (tapeO : Nat) (linesO : Nat) (bridgeO : Nat) (cartO : Nat) (wardO : Nat) (frostAtO : Nat) (actO : Nat) (isKeptO : Nat) (loadNowO : Nat) (byNowO : Nat) (rowO : Nat) (brokenByO : Nat) (brokenAtO : Nat) (goesByO : Nat) (comesToO : Nat) (sagMoreO : Nat) (creakOfO : Nat) (wipedByO : Nat) (deepAtO : Nat) (sagAtO : Nat) (loadAtO : Nat) (orderRowO : Nat) (oftenO : Nat) (lossOneO : Nat) (lossOtherO : Nat) (vO : Nat → Int32) (tO : Nat → Int32) (mO : Nat → Int32) (gO : Nat → Int64) (qHa : Nat → Nat) (hHa : Nat → Nat → Int32) (qDn : Nat → Nat) (uDn : Nat → Nat → Int32) (qMe : Nat → Nat) (aMe : Nat → Nat → Int32) (qWh : Nat → Nat) (aWh : Nat → Nat → Int32) (T9 : Int) (htO : Rg 0 700 tO) (hmO : Rg (-1) 127 mO) (hhHa : Pa_h hHa) (huDn : RuA T9 uDn) (hp0 : 0 ≤ T9 ∧ T9 ≤ 8) : Met l yX12_freezes wk_c_X12_freezes ({ frames := 1, cells := 0, slots := 0, locals := 20 }) (va_Pc [.ref (qO 0)] (fun U => U.heap.size = sz ∧ va_P (dC, dI) vwCl (List.flatten [(wmDn qDn k uDn), (wmMe qMe k aMe), (wmWh qWh k aWh)] ++ List.flatten [(wMO qO k widthO manyO cellsO movedO tapeO linesO (qHa 0) bridgeO cartO wardO frostAtO actO isKeptO loadNowO byNowO rowO (qMe 0) (qWh 0) (qDn 0) brokenByO brokenAtO goesByO comesToO sagMoreO creakOfO wipedByO deepAtO sagAtO loadAtO orderRowO oftenO lossOneO lossOtherO vO tO mO gO), (wmHa qHa k hHa)]) U.heap ∧ va_K (dC, dI) vwCl (tK k) U ∧ va_D (fun _ => True) (List.flatten [(wmDn qDn k uDn), (wmMe qMe k aMe), (wmWh qWh k aWh)] ++ List.flatten [(wMO qO k widthO manyO cellsO movedO tapeO linesO (qHa 0) bridgeO cartO wardO frostAtO actO isKeptO loadNowO byNowO rowO (qMe 0) (qWh 0) (qDn 0) brokenByO brokenAtO goesByO comesToO sagMoreO creakOfO wipedByO deepAtO sagAtO loadAtO orderRowO oftenO lossOneO lossOtherO vO tO mO gO), (wmHa qHa k hHa)]))) (va_Qv (fun _ : Unit => True) (fun (_ : Unit) (t : State) => ∃ (uDn' : Nat → Nat → Int32) (aMe' : Nat → Nat → Int32) (aWh' : Nat → Nat → Int32), RuA T9 uDn' ∧ va_P (dC, dI) vwCl (List.flatten [(wmDn qDn k uDn'), (wmMe qMe k aMe'), (wmWh qWh k aWh')] ++ List.flatten [(wMO qO k widthO manyO cellsO movedO tapeO linesO (qHa 0) bridgeO cartO wardO frostAtO actO isKeptO loadNowO byNowO rowO (qMe 0) (qWh 0) (qDn 0) brokenByO brokenAtO goesByO comesToO sagMoreO creakOfO wipedByO deepAtO sagAtO loadAtO orderRowO oftenO lossOneO lossOtherO vO tO mO gO), (wmHa qHa k hHa)]) t.heap) (va_A (List.flatten [(wmDn qDn k uDn), (wmMe qMe k aMe), (wmWh qWh k aWh)] ++ List.flatten [(wMO qO k widthO manyO cellsO movedO tapeO linesO (qHa 0) bridgeO cartO wardO frostAtO actO isKeptO loadNowO byNowO rowO (qMe 0) (qWh 0) (qDn 0) brokenByO brokenAtO goesByO comesToO sagMoreO creakOfO wipedByO deepAtO sagAtO loadAtO orderRowO oftenO lossOneO lossOtherO vO tO mO gO), (wmHa qHa k hHa)]) sz)) 0 0 (va_A (List.flatten [(wmDn qDn k uDn), (wmMe qMe k aMe), (wmWh qWh k aWh)] ++ List.flatten [(wMO qO k widthO manyO cellsO movedO tapeO linesO (qHa 0) bridgeO cartO wardO frostAtO actO isKeptO loadNowO byNowO rowO (qMe 0) (qWh 0) (qDn 0) brokenByO brokenAtO goesByO comesToO sagMoreO creakOfO wipedByO deepAtO sagAtO loadAtO orderRowO oftenO lossOneO lossOtherO vO tO mO gO), (wmHa qHa k hHa)]) sz) := by
  refine Met.ofW (cc := cX12_freezes) (maxL := 5) (ret := none) (by decide) rfl ?_
  intro p e s m args below meth c s₁ B hml hv
  obtain ⟨rfl, hsz, hP, hK, hD0⟩ := hv
  have hx := B.exec
  have hb := B.bytes
  have hr := B.returns
  have hts := atoms_spec (ws := wk_c_X12_freezes) B.pre
  have hown : s.vm.findClass RX12 = some m.cls := findClass_of_methodNamed B.named
  have hlocks := B.notSynchronized
  subst hsz
  have hD := hD0.self (sz := s.heap.size)
  generalize hAe : va_A (List.flatten [(wmDn qDn k uDn), (wmMe qMe k aMe), (wmWh qWh k aWh)] ++ List.flatten [(wMO qO k widthO manyO cellsO movedO tapeO linesO (qHa 0) bridgeO cartO wardO frostAtO actO isKeptO loadNowO byNowO rowO (qMe 0) (qWh 0) (qDn 0) brokenByO brokenAtO goesByO comesToO sagMoreO creakOfO wipedByO deepAtO sagAtO loadAtO orderRowO oftenO lossOneO lossOtherO vO tO mO gO), (wmHa qHa k hHa)]) s.heap.size = A at hD ⊢
  have hA : ∀ q : Nat, s.heap.size ≤ q → A q := fun q h => by rw [← hAe]; exact Or.inr h
  have hS : va_S A s.heap s.heap [] := va_S.rf
  have hP : va_P (dC, dI) vwCl (List.flatten [(wmDn qDn k uDn), (wmMe qMe k aMe), (wmWh qWh k aWh)] ++ List.flatten [(wMO qO k widthO manyO cellsO movedO tapeO linesO (qHa 0) bridgeO cartO wardO frostAtO actO isKeptO loadNowO byNowO rowO (qMe 0) (qWh 0) (qDn 0) brokenByO brokenAtO goesByO comesToO sagMoreO creakOfO wipedByO deepAtO sagAtO loadAtO orderRowO oftenO lossOneO lossOtherO vO tO mO gO), (wmHa qHa k hHa)]) s.heap := hP
  have hl := lv_entry ([.ref (qO 0)]) (n := 5) (Nat.le_of_ble_eq_true rfl)
  rw [lg_entry_eq]
  generalize (lg_sl ([.ref (qO 0)]) ++ List.replicate (5 - (lg_sl ([.ref (qO 0)])).length) Slot.unset).toArray = ls at hl ⊢
  have hl : lv_has ls 5 [(0, .ref (qO 0))] := hl
  refine w_gen (fun Q hQ => ?_)
  refine lv_iconst (v := 0) hx hb dX12_freezes_0 (by decide) ?_
  refine lv_istore_n (lv' := [(1, .int 0), (0, .ref (qO 0))]) hx hb dX12_freezes_1 rfl hl (by decide) rfl (fun ls hl => ?_)
  have lp2_kz128 : ∀ (n9_2 : Nat) (H : Heap) (locs : List Loc) (ls : Array Slot) (uz124 : Nat → Nat → Int32) (az125 : Nat → Nat → Int32) (az126 : Nat → Nat → Int32) (xz127 : Int32), (2147483647 - xz127.toInt).toNat < n9_2 → RuA T9 uz124 → 0 ≤ xz127.toInt → va_P (dC, dI) vwCl (List.flatten [(wmDn qDn k uz124), (wmMe qMe k az125), (wmWh qWh k az126)] ++ List.flatten [(wMO qO k widthO manyO cellsO movedO tapeO linesO (qHa 0) bridgeO cartO wardO frostAtO actO isKeptO loadNowO byNowO rowO (qMe 0) (qWh 0) (qDn 0) brokenByO brokenAtO goesByO comesToO sagMoreO creakOfO wipedByO deepAtO sagAtO loadAtO orderRowO oftenO lossOneO lossOtherO vO tO mO gO), (wmHa qHa k hHa)]) H → va_D A (List.flatten [(wmDn qDn k uz124), (wmMe qMe k az125), (wmWh qWh k az126)] ++ List.flatten [(wMO qO k widthO manyO cellsO movedO tapeO linesO (qHa 0) bridgeO cartO wardO frostAtO actO isKeptO loadNowO byNowO rowO (qMe 0) (qWh 0) (qDn 0) brokenByO brokenAtO goesByO comesToO sagMoreO creakOfO wipedByO deepAtO sagAtO loadAtO orderRowO oftenO lossOneO lossOtherO vO tO mO gO), (wmHa qHa k hHa)]) → va_S A s.heap H locs → lv_has ls 5 [(0, .ref (qO 0)), (1, .int xz127)] → W p l e (headSpec wk_c_X12_freezes ({ frames := 1, cells := 0, slots := 0, locals := 20 })).room s m ([.ref (qO 0)] : List Value).toArray below meth c H locs 0 0 Q (F0 m 2 ls []) := by
    intro n9_2
    induction n9_2 with
    | zero => intro H locs ls uz124 az125 az126 xz127 hm; exact absurd hm (Nat.not_lt_zero _)
    | succ n9_2 ih2 =>
      intro H locs ls uz124 az125 az126 xz127 hm2 huz124 jz129 hP hD hS hl
      refine lv_iload_n hx hb dX12_freezes_2 rfl (lv_at hl 1 rfl) ?_
      refine lv_aload_n hx hb dX12_freezes_3 rfl (lv_at hl 0 rfl) ?_
      have hPc := hP.sub (ws' := (List.flatten [(wMO qO k widthO manyO cellsO movedO tapeO linesO (qHa 0) bridgeO cartO wardO frostAtO actO isKeptO loadNowO byNowO rowO (qMe 0) (qWh 0) (qDn 0) brokenByO brokenAtO goesByO comesToO sagMoreO creakOfO wipedByO deepAtO sagAtO loadAtO orderRowO oftenO lossOneO lossOtherO vO tO mO gO), (wmHa qHa k hHa)])) [3, 4] rfl
      refine vp_callSi (va_Run.run (va_runV (As := []) (rest := [.int xz127]) ⟨hx, hb, hml, hown, hts⟩ (c_X12_bridges l dC dI k qO widthO manyO cellsO movedO tapeO linesO bridgeO cartO wardO frostAtO actO isKeptO loadNowO byNowO rowO (qMe 0) (qWh 0) (qDn 0) brokenByO brokenAtO goesByO comesToO sagMoreO creakOfO wipedByO deepAtO sagAtO loadAtO orderRowO oftenO lossOneO lossOtherO vO tO mO gO qHa hHa htO hmO hhHa) (cwV 0 hts (gk_V (wl_mem 0 rfl) (wl_mem 1 rfl) (wl_mem 2 rfl) (wl_mem 3 rfl) (fun w h => List.mem_cons_of_mem _ (List.mem_append_right _ (List.mem_append_left _ h))) wkg_c_X12_bridges) rfl rfl rfl (by decide +kernel) ⟨Nat.le_of_ble_eq_true rfl, Nat.le_of_ble_eq_true rfl⟩) ⟨fun a U g mk q => by obtain ⟨q0, qP, qK⟩ := q; exact ⟨q0, qP, va_K.moved (u := U) (U := U.calling g mk a) (Vm.Alike.refl U.vm) qK⟩, va_recv hK hPc (ci := 12) (q0 := 0) rfl rfl, fun U hU hW => ⟨rfl, by rw [hU]; exact hPc, va_K.moved hW.alike hK⟩⟩ rfl rfl hl.1 rfl (lv_room (Nat.le_of_ble_eq_true rfl)) dX12_freezes_4 ⟨Nat.le_of_ble_eq_true rfl, Nat.le_of_ble_eq_true rfl⟩)) (fun rz131 gz130 => ?_)
      clear hPc
      have pz132 := gz130
      have pz132 : 0 ≤ rz131.toInt ∧ rz131.toInt ≤ 3 := pz132
      refine lv_icmp_ge (tgt := 109) hx hb dX12_freezes_7 (by decide) (fun cz133 => ?_) (fun cz133 => ?_)
      · skip
        have bz134 := fb_rng xz127
        have zz135 : rz131.toInt ≤ xz127.toInt := zi_le.mp cz133
        rw [hQ]
        exact W.vret hx hb hr (fun t ht hW => ⟨⟨(), rfl, trivial, uz124, az125, az126, huz124, by rw [ht]; exact hP⟩, hS.F ht⟩) hS.2.2 dX12_freezes_109
      · skip
        have bz136 := fb_rng xz127
        have zz137 : ¬ rz131.toInt ≤ xz127.toInt := fun h9 => cz133 (zi_le.mpr h9)
        refine lv_iconst (v := 0) hx hb dX12_freezes_10 (by decide) ?_
        refine lv_istore_n (lv' := [(2, .int 0), (0, .ref (qO 0)), (1, .int xz127)]) hx hb dX12_freezes_11 rfl hl (by decide) rfl (fun ls hl => ?_)
        refine lv_iconst (v := 0) hx hb dX12_freezes_12 (by decide) ?_
        refine lv_istore_n (lv' := [(3, .int 0), (2, .int 0), (0, .ref (qO 0)), (1, .int xz127)]) hx hb dX12_freezes_13 rfl hl (by decide) rfl (fun ls hl => ?_)
        have lp14_kz195 : ∀ (n9_14 : Nat) (H : Heap) (locs : List Loc) (ls : Array Slot) (az191 : Nat → Nat → Int32) (az192 : Nat → Nat → Int32) (xz193 : Int32) (xz194 : Int32), (2147483647 - xz194.toInt).toNat < n9_14 → 0 ≤ xz194.toInt → 0 ≤ xz193.toInt ∧ xz193.toInt ≤ 8 → xz193.toInt ≤ xz194.toInt ∧ xz193.toInt ≤ T9 → va_P (dC, dI) vwCl (List.flatten [(wmDn qDn k uz124), (wmMe qMe k az191), (wmWh qWh k az192)] ++ List.flatten [(wMO qO k widthO manyO cellsO movedO tapeO linesO (qHa 0) bridgeO cartO wardO frostAtO actO isKeptO loadNowO byNowO rowO (qMe 0) (qWh 0) (qDn 0) brokenByO brokenAtO goesByO comesToO sagMoreO creakOfO wipedByO deepAtO sagAtO loadAtO orderRowO oftenO lossOneO lossOtherO vO tO mO gO), (wmHa qHa k hHa)]) H → va_D A (List.flatten [(wmDn qDn k uz124), (wmMe qMe k az191), (wmWh qWh k az192)] ++ List.flatten [(wMO qO k widthO manyO cellsO movedO tapeO linesO (qHa 0) bridgeO cartO wardO frostAtO actO isKeptO loadNowO byNowO rowO (qMe 0) (qWh 0) (qDn 0) brokenByO brokenAtO goesByO comesToO sagMoreO creakOfO wipedByO deepAtO sagAtO loadAtO orderRowO oftenO lossOneO lossOtherO vO tO mO gO), (wmHa qHa k hHa)]) → va_S A s.heap H locs → lv_has ls 5 [(0, .ref (qO 0)), (1, .int xz127), (2, .int xz193), (3, .int xz194)] → W p l e (headSpec wk_c_X12_freezes ({ frames := 1, cells := 0, slots := 0, locals := 20 })).room s m ([.ref (qO 0)] : List Value).toArray below meth c H locs 0 0 Q (F0 m 14 ls []) := by
          intro n9_14
          induction n9_14 with
          | zero => intro H locs ls az191 az192 xz193 xz194 hm; exact absurd hm (Nat.not_lt_zero _)
          | succ n9_14 ih14 =>
            intro H locs ls az191 az192 xz193 xz194 hm14 jz196 jz197 jz198 hP hD hS hl
            refine lv_iload_n hx hb dX12_freezes_14 rfl (lv_at hl 3 rfl) ?_
            refine lv_aload_n hx hb dX12_freezes_15 rfl (lv_at hl 0 rfl) ?_
            refine va_get (D := (dC, dI)) (ci := 12) (v := .ref (qDn 0)) (C := RX12) (T := TX12) (N := 59) hx hb hts (fun w h => List.mem_cons_of_mem _ (List.mem_append_right _ (List.mem_append_right _ (List.mem_append_left _ h)))) hown hK hP 3 rfl rfl 32 (by decide) (hts (.fieldLink RX12 71 "SagMemoryModel" "deepNow" "[I") (wl_mem 4 rfl)) (fun _ h9 => h9) rfl dX12_freezes_16 ?_
            refine lv_iload_n hx hb dX12_freezes_19 rfl (lv_at hl 1 rfl) ?_
            refine va_iald hx hb hK hP 0 0 rfl rfl (vp_in_iff.mpr ⟨by omega, by omega⟩) dX12_freezes_20 ?_
            refine lv_topi (fun xz199 exz199 => ?_)
            have bxz199 : 0 ≤ xz199.toInt ∧ xz199.toInt ≤ T9 := by rw [exz199]; exact ru_rd huz124 (by show 0 ≤ xz127.toInt; omega) (by show xz127.toInt ≤ 2; omega)
            have gxz199 : xz199.toInt = ((uz124 0) xz127.toNatClampNeg).toInt := congrArg Int32.toInt exz199
            refine lv_icmp_ge (tgt := 96) hx hb dX12_freezes_21 (by decide) (fun cz200 => ?_) (fun cz200 => ?_)
            · skip
              have bz201 := fb_rng xz194
              have zz202 : xz199.toInt ≤ xz194.toInt := zi_le.mp cz200
              refine lv_aload_n hx hb dX12_freezes_96 rfl (lv_at hl 0 rfl) ?_
              refine va_get (D := (dC, dI)) (ci := 12) (v := .ref (qDn 0)) (C := RX12) (T := TX12) (N := 59) hx hb hts (fun w h => List.mem_cons_of_mem _ (List.mem_append_right _ (List.mem_append_right _ (List.mem_append_left _ h)))) hown hK hP 3 rfl rfl 32 (by decide) (hts (.fieldLink RX12 71 "SagMemoryModel" "deepNow" "[I") (wl_mem 4 rfl)) (fun _ h9 => h9) rfl dX12_freezes_97 ?_
              refine lv_iload_n hx hb dX12_freezes_100 rfl (lv_at hl 1 rfl) ?_
              refine lv_iload_n hx hb dX12_freezes_101 rfl (lv_at hl 2 rfl) ?_
              refine va_iast hx hb hK hP hD hS 0 0 rfl rfl (vp_in_iff.mpr ⟨by omega, by omega⟩) dX12_freezes_102 (fun H locs hP hD hS => ?_)
              obtain ⟨fz203, efz203, hP, hD⟩ : ∃ fz203 : Nat → Int32, fz203 = upd (uz124 0) xz127.toNatClampNeg xz193 ∧ va_P (dC, dI) vwCl (List.flatten [(wmDn qDn k (va_up uz124 0 fz203)), (wmMe qMe k az191), (wmWh qWh k az192)] ++ List.flatten [(wMO qO k widthO manyO cellsO movedO tapeO linesO (qHa 0) bridgeO cartO wardO frostAtO actO isKeptO loadNowO byNowO rowO (qMe 0) (qWh 0) (qDn 0) brokenByO brokenAtO goesByO comesToO sagMoreO creakOfO wipedByO deepAtO sagAtO loadAtO orderRowO oftenO lossOneO lossOtherO vO tO mO gO), (wmHa qHa k hHa)]) H ∧ va_D A (List.flatten [(wmDn qDn k (va_up uz124 0 fz203)), (wmMe qMe k az191), (wmWh qWh k az192)] ++ List.flatten [(wMO qO k widthO manyO cellsO movedO tapeO linesO (qHa 0) bridgeO cartO wardO frostAtO actO isKeptO loadNowO byNowO rowO (qMe 0) (qWh 0) (qDn 0) brokenByO brokenAtO goesByO comesToO sagMoreO creakOfO wipedByO deepAtO sagAtO loadAtO orderRowO oftenO lossOneO lossOtherO vO tO mO gO), (wmHa qHa k hHa)]) := ⟨_, rfl, hP, hD⟩
              have hfz203 : Ru T9 fz203 := by rw [efz203]; exact ru_upd huz124 (by show 0 ≤ xz193.toInt ∧ xz193.toInt ≤ T9; omega)
              have kfz203 : fz203 xz127.toNatClampNeg = xz193 := by rw [efz203]; exact pk_us
              have mfz203 : (fz203 xz127.toNatClampNeg).toInt = xz193.toInt := congrArg Int32.toInt kfz203
              obtain ⟨xz204, exz204⟩ : ∃ y : Int32, y = xz127 + Int32.ofInt (1) := ⟨_, rfl⟩
              have fxz204 : xz204.toInt = xz127.toInt + (1) := by rw [exz204]; exact fb_addI (y := Int32.ofInt (1)) (by show -2147483648 ≤ xz127.toInt + (1); omega) (by show xz127.toInt + (1) < 2147483648; omega)
              refine lv_iinc (v := xz204) (lv' := [(1, .int xz204), (0, .ref (qO 0)), (2, .int xz193), (3, .int xz194)]) hx hb dX12_freezes_103 hl (k := 1) rfl exz204.symm (by decide) rfl (fun ls hl => ?_)
              refine lv_goto (tgt := 2) hx hb dX12_freezes_106 (by decide) ?_
              exact ih2 H locs ls (va_up uz124 0 fz203) az191 az192 xz204 (by show (2147483647 - xz204.toInt).toNat < n9_2; omega) (ruA_up hfz203) (by show 0 ≤ xz204.toInt; omega) hP hD hS (lv_sub hl [1, 0] rfl)
            · skip
              have bz205 := fb_rng xz194
              have zz206 : ¬ xz199.toInt ≤ xz194.toInt := fun h9 => cz200 (zi_le.mpr h9)
              refine lv_aload_n hx hb dX12_freezes_24 rfl (lv_at hl 0 rfl) ?_
              refine va_get (D := (dC, dI)) (ci := 12) (v := .ref (qMe 0)) (C := RX12) (T := TX12) (N := 59) hx hb hts (fun w h => List.mem_cons_of_mem _ (List.mem_append_right _ (List.mem_append_right _ (List.mem_append_left _ h)))) hown hK hP 3 rfl rfl 30 (by decide) (hts (.fieldLink RX12 65 "SagMemoryModel" "memory" "[I") (wl_mem 5 rfl)) (fun _ h9 => h9) rfl dX12_freezes_25 ?_
              refine lv_bipush (v := 8) hx hb dX12_freezes_28 (by decide) ?_
              refine lv_iload_n hx hb dX12_freezes_30 rfl (lv_at hl 1 rfl) ?_
              refine lv_imul hx hb dX12_freezes_31 ?_
              refine lv_topi (fun xz207 exz207 => ?_)
              have fxz207 : xz207.toInt = (8 : Int) * xz127.toInt := by rw [exz207]; exact fb_mulI (x := (8 : Int32)) (y := xz127) (by show -2147483648 ≤ (8 : Int) * xz127.toInt; omega) (by show (8 : Int) * xz127.toInt < 2147483648; omega)
              refine lv_iload_n hx hb dX12_freezes_32 rfl (lv_at hl 3 rfl) ?_
              refine lv_iadd hx hb dX12_freezes_33 ?_
              refine lv_topi (fun xz208 exz208 => ?_)
              have fxz208 : xz208.toInt = xz207.toInt + xz194.toInt := by rw [exz208]; exact fb_addI (x := xz207) (y := xz194) (by show -2147483648 ≤ xz207.toInt + xz194.toInt; omega) (by show xz207.toInt + xz194.toInt < 2147483648; omega)
              refine va_iald hx hb hK hP 1 0 rfl rfl (vp_in_iff.mpr ⟨by omega, by omega⟩) dX12_freezes_34 ?_
              refine lv_topi (fun xz209 exz209 => ?_)
              refine lv_aload_n hx hb dX12_freezes_35 rfl (lv_at hl 0 rfl) ?_
              refine va_get (D := (dC, dI)) (ci := 12) (v := .ref (qHa 0)) (C := RX12) (T := TX12) (N := 59) hx hb hts (fun w h => List.mem_cons_of_mem _ (List.mem_append_right _ (List.mem_append_right _ (List.mem_append_left _ h)))) hown hK hP 3 rfl rfl 17 (by decide) (hts (.fieldLink RX12 34 "SagMemoryModel" "has" "[I") (wl_mem 6 rfl)) (fun _ h9 => h9) rfl dX12_freezes_36 ?_
              refine lv_iconst (v := 1) hx hb dX12_freezes_39 (by decide) ?_
              refine va_iald hx hb hK hP 4 0 rfl rfl (by unfold vp_in; decide) dX12_freezes_40 ?_
              refine lv_topi (fun xz210 exz210 => ?_)
              have gxz210 : xz210.toInt = ((hHa 0) 1).toInt := by rw [exz210]; rfl
              refine lv_isub hx hb dX12_freezes_41 ?_
              refine lv_topi (fun xz211 exz211 => ?_)
              refine lv_istore (lv' := [(4, .int xz211), (0, .ref (qO 0)), (1, .int xz127), (2, .int xz193), (3, .int xz194)]) hx hb dX12_freezes_42 hl (by decide) rfl (fun ls hl => ?_)
              refine lv_iload hx hb dX12_freezes_44 (lv_at hl 0 rfl) ?_
              have ct90_kz230 : ∀ (H : Heap) (locs : List Loc) (ls : Array Slot) (az227 : Nat → Nat → Int32) (az228 : Nat → Nat → Int32) (xz229 : Int32), 0 ≤ xz229.toInt ∧ xz229.toInt ≤ 9 → xz229.toInt ≤ xz194.toInt + 1 ∧ xz229.toInt ≤ T9 → va_P (dC, dI) vwCl (List.flatten [(wmDn qDn k uz124), (wmMe qMe k az227), (wmWh qWh k az228)] ++ List.flatten [(wMO qO k widthO manyO cellsO movedO tapeO linesO (qHa 0) bridgeO cartO wardO frostAtO actO isKeptO loadNowO byNowO rowO (qMe 0) (qWh 0) (qDn 0) brokenByO brokenAtO goesByO comesToO sagMoreO creakOfO wipedByO deepAtO sagAtO loadAtO orderRowO oftenO lossOneO lossOtherO vO tO mO gO), (wmHa qHa k hHa)]) H → va_D A (List.flatten [(wmDn qDn k uz124), (wmMe qMe k az227), (wmWh qWh k az228)] ++ List.flatten [(wMO qO k widthO manyO cellsO movedO tapeO linesO (qHa 0) bridgeO cartO wardO frostAtO actO isKeptO loadNowO byNowO rowO (qMe 0) (qWh 0) (qDn 0) brokenByO brokenAtO goesByO comesToO sagMoreO creakOfO wipedByO deepAtO sagAtO loadAtO orderRowO oftenO lossOneO lossOtherO vO tO mO gO), (wmHa qHa k hHa)]) → va_S A s.heap H locs → lv_has ls 5 [(0, .ref (qO 0)), (1, .int xz127), (2, .int xz229), (3, .int xz194)] → W p l e (headSpec wk_c_X12_freezes ({ frames := 1, cells := 0, slots := 0, locals := 20 })).room s m ([.ref (qO 0)] : List Value).toArray below meth c H locs 0 0 Q (F0 m 90 ls []) := by
                intro H locs ls az227 az228 xz229 jz231 jz232 hP hD hS hl
                obtain ⟨xz233, exz233⟩ : ∃ y : Int32, y = xz194 + Int32.ofInt (1) := ⟨_, rfl⟩
                have fxz233 : xz233.toInt = xz194.toInt + (1) := by rw [exz233]; exact fb_addI (y := Int32.ofInt (1)) (by show -2147483648 ≤ xz194.toInt + (1); omega) (by show xz194.toInt + (1) < 2147483648; omega)
                refine lv_iinc (v := xz233) (lv' := [(3, .int xz233), (0, .ref (qO 0)), (1, .int xz127), (2, .int xz229)]) hx hb dX12_freezes_90 hl (k := 3) rfl exz233.symm (by decide) rfl (fun ls hl => ?_)
                refine lv_goto (tgt := 14) hx hb dX12_freezes_93 (by decide) ?_
                exact ih14 H locs ls az227 az228 xz229 xz233 (by show (2147483647 - xz233.toInt).toNat < n9_14; omega) (by show 0 ≤ xz233.toInt; omega) (by show 0 ≤ xz229.toInt ∧ xz229.toInt ≤ 8; omega) (by show xz229.toInt ≤ xz233.toInt ∧ xz229.toInt ≤ T9; omega) hP hD hS (lv_sub hl [1, 2, 3, 0] rfl)
              refine lv_if_gt (tgt := 52) hx hb dX12_freezes_46 (by decide) (fun cz234 => ?_) (fun cz234 => ?_)
              · skip
                have bz235 := fb_rng xz211
                have zz236 : (0 : Int) < xz211.toInt := zi_lt.mp cz234
                refine lv_aload_n hx hb dX12_freezes_52 rfl (lv_at hl 1 rfl) ?_
                refine va_get (D := (dC, dI)) (ci := 12) (v := .ref (qMe 0)) (C := RX12) (T := TX12) (N := 59) hx hb hts (fun w h => List.mem_cons_of_mem _ (List.mem_append_right _ (List.mem_append_right _ (List.mem_append_left _ h)))) hown hK hP 3 rfl rfl 30 (by decide) (hts (.fieldLink RX12 65 "SagMemoryModel" "memory" "[I") (wl_mem 5 rfl)) (fun _ h9 => h9) rfl dX12_freezes_53 ?_
                refine lv_bipush (v := 8) hx hb dX12_freezes_56 (by decide) ?_
                refine lv_iload_n hx hb dX12_freezes_58 rfl (lv_at hl 2 rfl) ?_
                refine lv_imul hx hb dX12_freezes_59 ?_
                refine lv_topi (fun xz237 exz237 => ?_)
                have fxz237 : xz237.toInt = (8 : Int) * xz127.toInt := by rw [exz237]; exact fb_mulI (x := (8 : Int32)) (y := xz127) (by show -2147483648 ≤ (8 : Int) * xz127.toInt; omega) (by show (8 : Int) * xz127.toInt < 2147483648; omega)
                refine lv_iload_n hx hb dX12_freezes_60 rfl (lv_at hl 3 rfl) ?_
                refine lv_iadd hx hb dX12_freezes_61 ?_
                refine lv_topi (fun xz238 exz238 => ?_)
                have fxz238 : xz238.toInt = xz237.toInt + xz193.toInt := by rw [exz238]; exact fb_addI (x := xz237) (y := xz193) (by show -2147483648 ≤ xz237.toInt + xz193.toInt; omega) (by show xz237.toInt + xz193.toInt < 2147483648; omega)
                refine lv_iload hx hb dX12_freezes_62 (lv_at hl 0 rfl) ?_
                refine va_iast hx hb hK hP hD hS 1 0 rfl rfl (vp_in_iff.mpr ⟨by omega, by omega⟩) dX12_freezes_64 (fun H locs hP hD hS => ?_)
                obtain ⟨fz239, efz239, hP, hD⟩ : ∃ fz239 : Nat → Int32, fz239 = upd (az191 0) xz238.toNatClampNeg xz211 ∧ va_P (dC, dI) vwCl (List.flatten [(wmDn qDn k uz124), (wmMe qMe k (va_up az191 0 fz239)), (wmWh qWh k az192)] ++ List.flatten [(wMO qO k widthO manyO cellsO movedO tapeO linesO (qHa 0) bridgeO cartO wardO frostAtO actO isKeptO loadNowO byNowO rowO (qMe 0) (qWh 0) (qDn 0) brokenByO brokenAtO goesByO comesToO sagMoreO creakOfO wipedByO deepAtO sagAtO loadAtO orderRowO oftenO lossOneO lossOtherO vO tO mO gO), (wmHa qHa k hHa)]) H ∧ va_D A (List.flatten [(wmDn qDn k uz124), (wmMe qMe k (va_up az191 0 fz239)), (wmWh qWh k az192)] ++ List.flatten [(wMO qO k widthO manyO cellsO movedO tapeO linesO (qHa 0) bridgeO cartO wardO frostAtO actO isKeptO loadNowO byNowO rowO (qMe 0) (qWh 0) (qDn 0) brokenByO brokenAtO goesByO comesToO sagMoreO creakOfO wipedByO deepAtO sagAtO loadAtO orderRowO oftenO lossOneO lossOtherO vO tO mO gO), (wmHa qHa k hHa)]) := ⟨_, rfl, hP, hD⟩
                have kfz239 : fz239 xz238.toNatClampNeg = xz211 := by rw [efz239]; exact pk_us
                refine lv_aload_n hx hb dX12_freezes_65 rfl (lv_at hl 1 rfl) ?_
                refine va_get (D := (dC, dI)) (ci := 12) (v := .ref (qWh 0)) (C := RX12) (T := TX12) (N := 59) hx hb hts (fun w h => List.mem_cons_of_mem _ (List.mem_append_right _ (List.mem_append_right _ (List.mem_append_left _ h)))) hown hK hP 3 rfl rfl 31 (by decide) (hts (.fieldLink RX12 68 "SagMemoryModel" "whose" "[I") (wl_mem 7 rfl)) (fun _ h9 => h9) rfl dX12_freezes_66 ?_
                refine lv_bipush (v := 8) hx hb dX12_freezes_69 (by decide) ?_
                refine lv_iload_n hx hb dX12_freezes_71 rfl (lv_at hl 2 rfl) ?_
                refine lv_imul hx hb dX12_freezes_72 ?_
                refine lv_topi (fun xz240 exz240 => ?_)
                have fxz240 : xz240.toInt = (8 : Int) * xz127.toInt := by rw [exz240]; exact fb_mulI (x := (8 : Int32)) (y := xz127) (by show -2147483648 ≤ (8 : Int) * xz127.toInt; omega) (by show (8 : Int) * xz127.toInt < 2147483648; omega)
                refine lv_iload_n hx hb dX12_freezes_73 rfl (lv_at hl 3 rfl) ?_
                refine lv_iadd hx hb dX12_freezes_74 ?_
                refine lv_topi (fun xz241 exz241 => ?_)
                have fxz241 : xz241.toInt = xz240.toInt + xz193.toInt := by rw [exz241]; exact fb_addI (x := xz240) (y := xz193) (by show -2147483648 ≤ xz240.toInt + xz193.toInt; omega) (by show xz240.toInt + xz193.toInt < 2147483648; omega)
                refine lv_aload_n hx hb dX12_freezes_75 rfl (lv_at hl 1 rfl) ?_
                refine va_get (D := (dC, dI)) (ci := 12) (v := .ref (qWh 0)) (C := RX12) (T := TX12) (N := 59) hx hb hts (fun w h => List.mem_cons_of_mem _ (List.mem_append_right _ (List.mem_append_right _ (List.mem_append_left _ h)))) hown hK hP 3 rfl rfl 31 (by decide) (hts (.fieldLink RX12 68 "SagMemoryModel" "whose" "[I") (wl_mem 7 rfl)) (fun _ h9 => h9) rfl dX12_freezes_76 ?_
                refine lv_bipush (v := 8) hx hb dX12_freezes_79 (by decide) ?_
                refine lv_iload_n hx hb dX12_freezes_81 rfl (lv_at hl 2 rfl) ?_
                refine lv_imul hx hb dX12_freezes_82 ?_
                refine lv_topi (fun xz242 exz242 => ?_)
                have fxz242 : xz242.toInt = (8 : Int) * xz127.toInt := by rw [exz242]; exact fb_mulI (x := (8 : Int32)) (y := xz127) (by show -2147483648 ≤ (8 : Int) * xz127.toInt; omega) (by show (8 : Int) * xz127.toInt < 2147483648; omega)
                refine lv_iload_n hx hb dX12_freezes_83 rfl (lv_at hl 4 rfl) ?_
                refine lv_iadd hx hb dX12_freezes_84 ?_
                refine lv_topi (fun xz243 exz243 => ?_)
                have fxz243 : xz243.toInt = xz242.toInt + xz194.toInt := by rw [exz243]; exact fb_addI (x := xz242) (y := xz194) (by show -2147483648 ≤ xz242.toInt + xz194.toInt; omega) (by show xz242.toInt + xz194.toInt < 2147483648; omega)
                refine va_iald hx hb hK hP 2 0 rfl rfl (vp_in_iff.mpr ⟨by omega, by omega⟩) dX12_freezes_85 ?_
                refine lv_topi (fun xz244 exz244 => ?_)
                refine va_iast hx hb hK hP hD hS 2 0 rfl rfl (vp_in_iff.mpr ⟨by omega, by omega⟩) dX12_freezes_86 (fun H locs hP hD hS => ?_)
                obtain ⟨fz245, efz245, hP, hD⟩ : ∃ fz245 : Nat → Int32, fz245 = upd (az192 0) xz241.toNatClampNeg xz244 ∧ va_P (dC, dI) vwCl (List.flatten [(wmDn qDn k uz124), (wmMe qMe k (va_up az191 0 fz239)), (wmWh qWh k (va_up az192 0 fz245))] ++ List.flatten [(wMO qO k widthO manyO cellsO movedO tapeO linesO (qHa 0) bridgeO cartO wardO frostAtO actO isKeptO loadNowO byNowO rowO (qMe 0) (qWh 0) (qDn 0) brokenByO brokenAtO goesByO comesToO sagMoreO creakOfO wipedByO deepAtO sagAtO loadAtO orderRowO oftenO lossOneO lossOtherO vO tO mO gO), (wmHa qHa k hHa)]) H ∧ va_D A (List.flatten [(wmDn qDn k uz124), (wmMe qMe k (va_up az191 0 fz239)), (wmWh qWh k (va_up az192 0 fz245))] ++ List.flatten [(wMO qO k widthO manyO cellsO movedO tapeO linesO (qHa 0) bridgeO cartO wardO frostAtO actO isKeptO loadNowO byNowO rowO (qMe 0) (qWh 0) (qDn 0) brokenByO brokenAtO goesByO comesToO sagMoreO creakOfO wipedByO deepAtO sagAtO loadAtO orderRowO oftenO lossOneO lossOtherO vO tO mO gO), (wmHa qHa k hHa)]) := ⟨_, rfl, hP, hD⟩
                have kfz245 : fz245 xz241.toNatClampNeg = xz244 := by rw [efz245]; exact pk_us
                obtain ⟨xz246, exz246⟩ : ∃ y : Int32, y = xz193 + Int32.ofInt (1) := ⟨_, rfl⟩
                have fxz246 : xz246.toInt = xz193.toInt + (1) := by rw [exz246]; exact fb_addI (y := Int32.ofInt (1)) (by show -2147483648 ≤ xz193.toInt + (1); omega) (by show xz193.toInt + (1) < 2147483648; omega)
                refine lv_iinc (v := xz246) (lv' := [(2, .int xz246), (4, .int xz211), (0, .ref (qO 0)), (1, .int xz127), (3, .int xz194)]) hx hb dX12_freezes_87 hl (k := 3) rfl exz246.symm (by decide) rfl (fun ls hl => ?_)
                exact ct90_kz230 H locs ls (va_up az191 0 fz239) (va_up az192 0 fz245) xz246  (by show 0 ≤ xz246.toInt ∧ xz246.toInt ≤ 9; omega) (by show xz246.toInt ≤ xz194.toInt + 1 ∧ xz246.toInt ≤ T9; omega) hP hD hS (lv_sub hl [2, 3, 0, 4] rfl)
              · skip
                have bz247 := fb_rng xz211
                have zz248 : ¬ (0 : Int) < xz211.toInt := fun h9 => cz234 (zi_lt.mpr h9)
                refine lv_goto (tgt := 90) hx hb dX12_freezes_49 (by decide) ?_
                exact ct90_kz230 H locs ls az191 az192 xz193  (by show 0 ≤ xz193.toInt ∧ xz193.toInt ≤ 9; omega) (by show xz193.toInt ≤ xz194.toInt + 1 ∧ xz193.toInt ≤ T9; omega) hP hD hS (lv_sub hl [1, 2, 3, 4] rfl)
        exact lp14_kz195 _ H locs ls az125 az126 (0 : Int32) (0 : Int32) (Nat.lt_succ_self _) (by show 0 ≤ (0 : Int); omega) (by show 0 ≤ (0 : Int) ∧ (0 : Int) ≤ 8; omega) (by show (0 : Int) ≤ (0 : Int) ∧ (0 : Int) ≤ T9; omega) hP hD hS (lv_sub hl [2, 3, 1, 0] rfl)
  exact lp2_kz128 _ s.heap [] ls uDn aMe aWh (0 : Int32) (Nat.lt_succ_self _) huDn (by show 0 ≤ (0 : Int); omega) hP hD hS (lv_sub hl [1, 0] rfl)
def wk_c_X12_wayOf : List Cond := .code yX12_wayOf cX12_wayOf 4 (some .int) :: ([.fieldLink RX12 59 "SagMemoryModel" "byNow" "[I", .fieldLink RX12 34 "SagMemoryModel" "has" "[I", .fieldLink RX12 43 "SagMemoryModel" "ward" "[I", .fieldLink RX12 56 "SagMemoryModel" "loadNow" "[I"] ++ (wsX120 ++ []))
theorem wkg_c_X12_wayOf : wk_c_X12_wayOf.all goodWord = true := by decide +kernel
set_option maxHeartbeats 4000000 in
set_option maxRecDepth 100000 in
theorem c_X12_wayOf (l : Launch) (dC : Nat → ClassId) (dI : Nat → Nat → Nat) (k : Nat → ClassId) (qO : Nat → Nat) (widthO : Nat) (manyO : Nat) (cellsO : Nat) (movedO : Nat) (tapeO : Nat) (linesO : Nat) (bridgeO : Nat) (cartO : Nat) (frostAtO : Nat) (actO : Nat) (isKeptO : Nat) (rowO : Nat) (memoryO : Nat) (whoseO : Nat) (deepNowO : Nat) (brokenByO : Nat) (brokenAtO : Nat) (goesByO : Nat) (comesToO : Nat) (sagMoreO : Nat) (creakOfO : Nat) (wipedByO : Nat) (deepAtO : Nat) (sagAtO : Nat) (loadAtO : Nat) (orderRowO : Nat) (oftenO : Nat) (lossOneO : Nat) (lossOtherO : Nat) (vO : Nat → Int32) (tO : Nat → Int32) (mO : Nat → Int32) (gO : Nat → Int64) (qHa : Nat → Nat) (hHa : Nat → Nat → Int32) (qWa : Nat → Nat) (jWa : Nat → Nat → Int32) (qBn : Nat → Nat) (yBn : Nat → Nat → Int32) (qLn : Nat → Nat) (aLn : Nat → Nat → Int32) (p1 : Int32) (htO : Rg 0 700 tO) (hmO : Rg (-1) 127 mO) (hhHa : Pa_h hHa) (hjWa : Pa_j jWa) (hyBn : RgA (-1) 2 yBn) (hp0 : 0 ≤ p1.toInt ∧ p1.toInt ≤ 6) : Met l yX12_wayOf wk_c_X12_wayOf ({ frames := 0, cells := 0, slots := 0, locals := 0 }) (va_Pc [.ref (qO 0), .int p1] (fun U => va_P (dC, dI) vwCl (List.flatten [(wMO qO k widthO manyO cellsO movedO tapeO linesO (qHa 0) bridgeO cartO (qWa 0) frostAtO actO isKeptO (qLn 0) (qBn 0) rowO memoryO whoseO deepNowO brokenByO brokenAtO goesByO comesToO sagMoreO creakOfO wipedByO deepAtO sagAtO loadAtO orderRowO oftenO lossOneO lossOtherO vO tO mO gO), (wmHa qHa k hHa), (wmWa qWa k jWa), (wmBn qBn k yBn), (wmLn qLn k aLn)]) U.heap ∧ va_K (dC, dI) vwCl (tK k) U)) (vp_Si (fun r : Int32 => ((-1) ≤ r.toInt ∧ r.toInt ≤ 2))) 0 0 (fun _ => False) := by
  refine Met.ofW (cc := cX12_wayOf) (maxL := 4) (ret := (some .int)) (by decide) rfl ?_
  intro p e s m args below meth c s₁ B hml hv
  obtain ⟨rfl, hP, hK⟩ := hv
  have hx := B.exec
  have hb := B.bytes
  have hr := B.returns
  have hts := atoms_spec (ws := wk_c_X12_wayOf) B.pre
  have hown : s.vm.findClass RX12 = some m.cls := findClass_of_methodNamed B.named
  have hlocks := B.notSynchronized
  have hP : va_P (dC, dI) vwCl (List.flatten [(wMO qO k widthO manyO cellsO movedO tapeO linesO (qHa 0) bridgeO cartO (qWa 0) frostAtO actO isKeptO (qLn 0) (qBn 0) rowO memoryO whoseO deepNowO brokenByO brokenAtO goesByO comesToO sagMoreO creakOfO wipedByO deepAtO sagAtO loadAtO orderRowO oftenO lossOneO lossOtherO vO tO mO gO), (wmHa qHa k hHa), (wmWa qWa k jWa), (wmBn qBn k yBn), (wmLn qLn k aLn)]) s.heap := hP
  have hl := lv_entry ([.ref (qO 0), .int p1]) (n := 4) (Nat.le_of_ble_eq_true rfl)
  rw [lg_entry_eq]
  generalize (lg_sl ([.ref (qO 0), .int p1]) ++ List.replicate (4 - (lg_sl ([.ref (qO 0), .int p1])).length) Slot.unset).toArray = ls at hl ⊢
  have hl : lv_has ls 4 [(0, .ref (qO 0)), (1, .int p1)] := hl
  refine w_gen (fun Q hQ => ?_)
  refine lv_aload_n hx hb dX12_wayOf_0 rfl (lv_at hl 0 rfl) ?_
  refine va_get (D := (dC, dI)) (ci := 12) (v := .ref (qBn 0)) (C := RX12) (T := TX12) (N := 59) hx hb hts (fun w h => List.mem_cons_of_mem _ (List.mem_append_right _ (List.mem_append_left _ h))) hown hK hP 0 rfl rfl 28 (by decide) (hts (.fieldLink RX12 59 "SagMemoryModel" "byNow" "[I") (wl_mem 0 rfl)) (fun _ h9 => h9) rfl dX12_wayOf_1 ?_
  refine lv_iload_n hx hb dX12_wayOf_4 rfl (lv_at hl 1 rfl) ?_
  refine va_iald hx hb hK hP 3 0 rfl rfl (vp_in_iff.mpr ⟨by omega, by omega⟩) dX12_wayOf_5 ?_
  refine lv_topi (fun xz1 exz1 => ?_)
  have bxz1 : (-1) ≤ xz1.toInt ∧ xz1.toInt ≤ 2 := by rw [exz1]; exact (hyBn 0) _
  refine lv_istore_n (lv' := [(2, .int xz1), (0, .ref (qO 0)), (1, .int p1)]) hx hb dX12_wayOf_6 rfl hl (by decide) rfl (fun ls hl => ?_)
  refine lv_iconst (v := 0) hx hb dX12_wayOf_7 (by decide) ?_
  refine lv_istore_n (lv' := [(3, .int 0), (2, .int xz1), (0, .ref (qO 0)), (1, .int p1)]) hx hb dX12_wayOf_8 rfl hl (by decide) rfl (fun ls hl => ?_)
  have lp9_kz48 : ∀ (n9_9 : Nat) (ls : Array Slot) (xz47 : Int32), (2147483647 - xz47.toInt).toNat < n9_9 → 0 ≤ xz47.toInt → lv_has ls 4 [(0, .ref (qO 0)), (1, .int p1), (2, .int xz1), (3, .int xz47)] → W p l e (headSpec wk_c_X12_wayOf ({ frames := 0, cells := 0, slots := 0, locals := 0 })).room s m ([.ref (qO 0), .int p1] : List Value).toArray below meth c s.heap [] 0 0 Q (F0 m 9 ls []) := by
    intro n9_9
    induction n9_9 with
    | zero => intro ls xz47 hm; exact absurd hm (Nat.not_lt_zero _)
    | succ n9_9 ih9 =>
      intro ls xz47 hm9 jz49 hl
      refine lv_iload_n hx hb dX12_wayOf_9 rfl (lv_at hl 3 rfl) ?_
      refine lv_aload_n hx hb dX12_wayOf_10 rfl (lv_at hl 0 rfl) ?_
      refine va_get (D := (dC, dI)) (ci := 12) (v := .ref (qHa 0)) (C := RX12) (T := TX12) (N := 59) hx hb hts (fun w h => List.mem_cons_of_mem _ (List.mem_append_right _ (List.mem_append_left _ h))) hown hK hP 0 rfl rfl 17 (by decide) (hts (.fieldLink RX12 34 "SagMemoryModel" "has" "[I") (wl_mem 1 rfl)) (fun _ h9 => h9) rfl dX12_wayOf_11 ?_
      refine lv_iconst (v := 5) hx hb dX12_wayOf_14 (by decide) ?_
      refine va_iald hx hb hK hP 1 0 rfl rfl (by unfold vp_in; decide) dX12_wayOf_15 ?_
      refine lv_topi (fun xz50 exz50 => ?_)
      have gxz50 : xz50.toInt = ((hHa 0) 5).toInt := by rw [exz50]; rfl
      have bxz50 : 0 ≤ xz50.toInt ∧ xz50.toInt ≤ 5 := by rw [exz50]; exact (hhHa 0).2.2.1 5 (by decide)
      refine lv_icmp_ge (tgt := 72) hx hb dX12_wayOf_16 (by decide) (fun cz51 => ?_) (fun cz51 => ?_)
      · skip
        have bz52 := fb_rng xz47
        have zz53 : xz50.toInt ≤ xz47.toInt := zi_le.mp cz51
        refine lv_iload_n hx hb dX12_wayOf_72 rfl (lv_at hl 2 rfl) ?_
        rw [hQ]
        exact W.iret (v := xz1) hx hb hr (fun t ht hW => ⟨xz1, rfl, (by show (-1) ≤ xz1.toInt ∧ xz1.toInt ≤ 2; omega), ht⟩) (fun _ h => absurd h List.not_mem_nil) dX12_wayOf_73
      · skip
        have bz54 := fb_rng xz47
        have zz55 : ¬ xz50.toInt ≤ xz47.toInt := fun h9 => cz51 (zi_le.mpr h9)
        refine lv_iload_n hx hb dX12_wayOf_19 rfl (lv_at hl 2 rfl) ?_
        refine lv_iconst (v := (-1)) hx hb dX12_wayOf_20 (by decide) ?_
        refine lv_icmp_eq (tgt := 72) hx hb dX12_wayOf_21 (by decide) (fun cz56 => ?_) (fun cz56 => ?_)
        · skip
          have zz57 : xz1.toInt = (-1 : Int) := zi_eq.mp cz56
          refine lv_iload_n hx hb dX12_wayOf_72 rfl (lv_at hl 2 rfl) ?_
          rw [hQ]
          exact W.iret (v := xz1) hx hb hr (fun t ht hW => ⟨xz1, rfl, (by show (-1) ≤ xz1.toInt ∧ xz1.toInt ≤ 2; omega), ht⟩) (fun _ h => absurd h List.not_mem_nil) dX12_wayOf_73
        · skip
          have zz58 : ¬ xz1.toInt = (-1 : Int) := fun h9 => cz56 (zi_eq.mpr h9)
          refine lv_aload_n hx hb dX12_wayOf_24 rfl (lv_at hl 0 rfl) ?_
          refine va_get (D := (dC, dI)) (ci := 12) (v := .ref (qWa 0)) (C := RX12) (T := TX12) (N := 59) hx hb hts (fun w h => List.mem_cons_of_mem _ (List.mem_append_right _ (List.mem_append_left _ h))) hown hK hP 0 rfl rfl 20 (by decide) (hts (.fieldLink RX12 43 "SagMemoryModel" "ward" "[I") (wl_mem 2 rfl)) (fun _ h9 => h9) rfl dX12_wayOf_25 ?_
          refine lv_iconst (v := 3) hx hb dX12_wayOf_28 (by decide) ?_
          refine lv_iload_n hx hb dX12_wayOf_29 rfl (lv_at hl 3 rfl) ?_
          refine lv_imul hx hb dX12_wayOf_30 ?_
          refine lv_topi (fun xz59 exz59 => ?_)
          have fxz59 : xz59.toInt = (3 : Int) * xz47.toInt := by rw [exz59]; exact fb_mulI (x := (3 : Int32)) (y := xz47) (by show -2147483648 ≤ (3 : Int) * xz47.toInt; omega) (by show (3 : Int) * xz47.toInt < 2147483648; omega)
          refine va_iald hx hb hK hP 2 0 rfl rfl (vp_in_iff.mpr ⟨by omega, by omega⟩) dX12_wayOf_31 ?_
          refine lv_topi (fun xz60 exz60 => ?_)
          have bxz60_0 : xz59.toInt % 3 = 2 → (-1) ≤ xz60.toInt ∧ xz60.toInt ≤ 2 := by rw [exz60]; exact md_rd (hjWa 0) (by omega)
          refine lv_iload_n hx hb dX12_wayOf_32 rfl (lv_at hl 2 rfl) ?_
          have ct66_kz78 : ∀ (ls : Array Slot), lv_has ls 4 [(0, .ref (qO 0)), (1, .int p1), (2, .int xz1), (3, .int xz47)] → W p l e (headSpec wk_c_X12_wayOf ({ frames := 0, cells := 0, slots := 0, locals := 0 })).room s m ([.ref (qO 0), .int p1] : List Value).toArray below meth c s.heap [] 0 0 Q (F0 m 66 ls []) := by
            intro ls  hl
            obtain ⟨xz79, exz79⟩ : ∃ y : Int32, y = xz47 + Int32.ofInt (1) := ⟨_, rfl⟩
            have fxz79 : xz79.toInt = xz47.toInt + (1) := by rw [exz79]; exact fb_addI (y := Int32.ofInt (1)) (by show -2147483648 ≤ xz47.toInt + (1); omega) (by show xz47.toInt + (1) < 2147483648; omega)
            refine lv_iinc (v := xz79) (lv' := [(3, .int xz79), (0, .ref (qO 0)), (1, .int p1), (2, .int xz1)]) hx hb dX12_wayOf_66 hl (k := 3) rfl exz79.symm (by decide) rfl (fun ls hl => ?_)
            refine lv_goto (tgt := 9) hx hb dX12_wayOf_69 (by decide) ?_
            exact ih9 ls xz79 (by show (2147483647 - xz79.toInt).toNat < n9_9; omega) (by show 0 ≤ xz79.toInt; omega) (lv_sub hl [1, 2, 3, 0] rfl)
          refine lv_icmp_ne (tgt := 66) hx hb dX12_wayOf_33 (by decide) (fun cz80 => ?_) (fun cz80 => ?_)
          · skip
            have zz81 : ¬ xz60.toInt = xz1.toInt := fun h9 => cz80 (zi_eq.mpr h9)
            exact ct66_kz78 ls   (lv_sub hl [0, 1, 2, 3] rfl)
          · skip
            have zz82 : xz60.toInt = xz1.toInt := zi_eq.mp cz80
            refine lv_aload_n hx hb dX12_wayOf_36 rfl (lv_at hl 0 rfl) ?_
            refine va_get (D := (dC, dI)) (ci := 12) (v := .ref (qWa 0)) (C := RX12) (T := TX12) (N := 59) hx hb hts (fun w h => List.mem_cons_of_mem _ (List.mem_append_right _ (List.mem_append_left _ h))) hown hK hP 0 rfl rfl 20 (by decide) (hts (.fieldLink RX12 43 "SagMemoryModel" "ward" "[I") (wl_mem 2 rfl)) (fun _ h9 => h9) rfl dX12_wayOf_37 ?_
            refine lv_iconst (v := 3) hx hb dX12_wayOf_40 (by decide) ?_
            refine lv_iload_n hx hb dX12_wayOf_41 rfl (lv_at hl 3 rfl) ?_
            refine lv_imul hx hb dX12_wayOf_42 ?_
            refine lv_topi (fun xz83 exz83 => ?_)
            have fxz83 : xz83.toInt = (3 : Int) * xz47.toInt := by rw [exz83]; exact fb_mulI (x := (3 : Int32)) (y := xz47) (by show -2147483648 ≤ (3 : Int) * xz47.toInt; omega) (by show (3 : Int) * xz47.toInt < 2147483648; omega)
            refine lv_iconst (v := 1) hx hb dX12_wayOf_43 (by decide) ?_
            refine lv_iadd hx hb dX12_wayOf_44 ?_
            refine lv_topi (fun xz84 exz84 => ?_)
            have fxz84 : xz84.toInt = xz83.toInt + (1 : Int) := by rw [exz84]; exact fb_addI (x := xz83) (y := (1 : Int32)) (by show -2147483648 ≤ xz83.toInt + (1 : Int); omega) (by show xz83.toInt + (1 : Int) < 2147483648; omega)
            refine va_iald hx hb hK hP 2 0 rfl rfl (vp_in_iff.mpr ⟨by omega, by omega⟩) dX12_wayOf_45 ?_
            refine lv_topi (fun xz85 exz85 => ?_)
            have bxz85_0 : xz84.toInt % 3 = 2 → (-1) ≤ xz85.toInt ∧ xz85.toInt ≤ 2 := by rw [exz85]; exact md_rd (hjWa 0) (by omega)
            refine lv_aload_n hx hb dX12_wayOf_46 rfl (lv_at hl 0 rfl) ?_
            refine va_get (D := (dC, dI)) (ci := 12) (v := .ref (qLn 0)) (C := RX12) (T := TX12) (N := 59) hx hb hts (fun w h => List.mem_cons_of_mem _ (List.mem_append_right _ (List.mem_append_left _ h))) hown hK hP 0 rfl rfl 27 (by decide) (hts (.fieldLink RX12 56 "SagMemoryModel" "loadNow" "[I") (wl_mem 3 rfl)) (fun _ h9 => h9) rfl dX12_wayOf_47 ?_
            refine lv_iload_n hx hb dX12_wayOf_50 rfl (lv_at hl 1 rfl) ?_
            refine va_iald hx hb hK hP 4 0 rfl rfl (vp_in_iff.mpr ⟨by omega, by omega⟩) dX12_wayOf_51 ?_
            refine lv_topi (fun xz86 exz86 => ?_)
            refine lv_icmp_ge (tgt := 66) hx hb dX12_wayOf_52 (by decide) (fun cz87 => ?_) (fun cz87 => ?_)
            · skip
              have bz88 := fb_rng xz86
              have bz89 := fb_rng xz85
              have zz90 : xz86.toInt ≤ xz85.toInt := zi_le.mp cz87
              exact ct66_kz78 ls   (lv_sub hl [0, 1, 2, 3] rfl)
            · skip
              have bz91 := fb_rng xz86
              have bz92 := fb_rng xz85
              have zz93 : ¬ xz86.toInt ≤ xz85.toInt := fun h9 => cz87 (zi_le.mpr h9)
              refine lv_aload_n hx hb dX12_wayOf_55 rfl (lv_at hl 0 rfl) ?_
              refine va_get (D := (dC, dI)) (ci := 12) (v := .ref (qWa 0)) (C := RX12) (T := TX12) (N := 59) hx hb hts (fun w h => List.mem_cons_of_mem _ (List.mem_append_right _ (List.mem_append_left _ h))) hown hK hP 0 rfl rfl 20 (by decide) (hts (.fieldLink RX12 43 "SagMemoryModel" "ward" "[I") (wl_mem 2 rfl)) (fun _ h9 => h9) rfl dX12_wayOf_56 ?_
              refine lv_iconst (v := 3) hx hb dX12_wayOf_59 (by decide) ?_
              refine lv_iload_n hx hb dX12_wayOf_60 rfl (lv_at hl 3 rfl) ?_
              refine lv_imul hx hb dX12_wayOf_61 ?_
              refine lv_topi (fun xz94 exz94 => ?_)
              have fxz94 : xz94.toInt = (3 : Int) * xz47.toInt := by rw [exz94]; exact fb_mulI (x := (3 : Int32)) (y := xz47) (by show -2147483648 ≤ (3 : Int) * xz47.toInt; omega) (by show (3 : Int) * xz47.toInt < 2147483648; omega)
              refine lv_iconst (v := 2) hx hb dX12_wayOf_62 (by decide) ?_
              refine lv_iadd hx hb dX12_wayOf_63 ?_
              refine lv_topi (fun xz95 exz95 => ?_)
              have fxz95 : xz95.toInt = xz94.toInt + (2 : Int) := by rw [exz95]; exact fb_addI (x := xz94) (y := (2 : Int32)) (by show -2147483648 ≤ xz94.toInt + (2 : Int); omega) (by show xz94.toInt + (2 : Int) < 2147483648; omega)
              refine va_iald hx hb hK hP 2 0 rfl rfl (vp_in_iff.mpr ⟨by omega, by omega⟩) dX12_wayOf_64 ?_
              refine lv_topi (fun xz96 exz96 => ?_)
              have bxz96_0 : xz95.toInt % 3 = 2 → (-1) ≤ xz96.toInt ∧ xz96.toInt ≤ 2 := by rw [exz96]; exact md_rd (hjWa 0) (by omega)
              rw [hQ]
              exact W.iret (v := xz96) hx hb hr (fun t ht hW => ⟨xz96, rfl, (by show (-1) ≤ xz96.toInt ∧ xz96.toInt ≤ 2; omega), ht⟩) (fun _ h => absurd h List.not_mem_nil) dX12_wayOf_65
  exact lp9_kz48 _ ls (0 : Int32) (Nat.lt_succ_self _) (by show 0 ≤ (0 : Int); omega) (lv_sub hl [2, 3, 1, 0] rfl)
def wk_c_X12_begin : List Cond := .code yX12_begin cX12_begin 2 none :: ([.fieldLink RX12 71 "SagMemoryModel" "deepNow" "[I", .fieldLink RX12 74 "SagMemoryModel" "brokenBy" "[I", .fieldLink RX12 77 "SagMemoryModel" "brokenAt" "[I", .constant RX12 166 (100000)] ++ (wsX120 ++ []))
theorem wkg_c_X12_begin : wk_c_X12_begin.all goodWord = true := by decide +kernel
set_option maxHeartbeats 4000000 in
set_option maxRecDepth 100000 in
theorem c_X12_begin (l : Launch) (dC : Nat → ClassId) (dI : Nat → Nat → Nat) (k : Nat → ClassId) (sz : Nat) (qO : Nat → Nat) (widthO : Nat) (manyO : Nat) (cellsO : Nat) (movedO : Nat) (tapeO : Nat) (linesO : Nat) (hasO : Nat) (bridgeO : Nat) (cartO : Nat) (wardO : Nat) (frostAtO : Nat) (actO : Nat) (isKeptO : Nat) (loadNowO : Nat) (byNowO : Nat) (rowO : Nat) (memoryO : Nat) (whoseO : Nat) (goesByO : Nat) (comesToO : Nat) (sagMoreO : Nat) (creakOfO : Nat) (wipedByO : Nat) (deepAtO : Nat) (sagAtO : Nat) (loadAtO : Nat) (orderRowO : Nat) (oftenO : Nat) (lossOneO : Nat) (lossOtherO : Nat) (vO : Nat → Int32) (tO : Nat → Int32) (mO : Nat → Int32) (gO : Nat → Int64) (qDn : Nat → Nat) (uDn : Nat → Nat → Int32) (qBb : Nat → Nat) (aBb : Nat → Nat → Int32) (qBa : Nat → Nat) (aBa : Nat → Nat → Int32) (htO : Rg 0 700 tO) (hmO : Rg (-1) 127 mO) (huDn : RuA 8 uDn) : Met l yX12_begin wk_c_X12_begin ({ frames := 0, cells := 0, slots := 0, locals := 0 }) (va_Pc [.ref (qO 0)] (fun U => U.heap.size = sz ∧ va_P (dC, dI) vwCl (List.flatten [(wmDn qDn k uDn), (wmBb qBb k aBb), (wmBa qBa k aBa)] ++ List.flatten [(wMO qO k widthO manyO cellsO movedO tapeO linesO hasO bridgeO cartO wardO frostAtO actO isKeptO loadNowO byNowO rowO memoryO whoseO (qDn 0) (qBb 0) (qBa 0) goesByO comesToO sagMoreO creakOfO wipedByO deepAtO sagAtO loadAtO orderRowO oftenO lossOneO lossOtherO vO tO mO gO)]) U.heap ∧ va_K (dC, dI) vwCl (tK k) U ∧ va_D (fun _ => True) (List.flatten [(wmDn qDn k uDn), (wmBb qBb k aBb), (wmBa qBa k aBa)] ++ List.flatten [(wMO qO k widthO manyO cellsO movedO tapeO linesO hasO bridgeO cartO wardO frostAtO actO isKeptO loadNowO byNowO rowO memoryO whoseO (qDn 0) (qBb 0) (qBa 0) goesByO comesToO sagMoreO creakOfO wipedByO deepAtO sagAtO loadAtO orderRowO oftenO lossOneO lossOtherO vO tO mO gO)]))) (va_Qv (fun _ : Unit => True) (fun (_ : Unit) (t : State) => ∃ (uDn' : Nat → Nat → Int32) (aBb' : Nat → Nat → Int32) (aBa' : Nat → Nat → Int32), RuA 0 uDn' ∧ va_P (dC, dI) vwCl (List.flatten [(wmDn qDn k uDn'), (wmBb qBb k aBb'), (wmBa qBa k aBa')] ++ List.flatten [(wMO qO k widthO manyO cellsO movedO tapeO linesO hasO bridgeO cartO wardO frostAtO actO isKeptO loadNowO byNowO rowO memoryO whoseO (qDn 0) (qBb 0) (qBa 0) goesByO comesToO sagMoreO creakOfO wipedByO deepAtO sagAtO loadAtO orderRowO oftenO lossOneO lossOtherO vO tO mO gO)]) t.heap) (va_A (List.flatten [(wmDn qDn k uDn), (wmBb qBb k aBb), (wmBa qBa k aBa)] ++ List.flatten [(wMO qO k widthO manyO cellsO movedO tapeO linesO hasO bridgeO cartO wardO frostAtO actO isKeptO loadNowO byNowO rowO memoryO whoseO (qDn 0) (qBb 0) (qBa 0) goesByO comesToO sagMoreO creakOfO wipedByO deepAtO sagAtO loadAtO orderRowO oftenO lossOneO lossOtherO vO tO mO gO)]) sz)) 0 0 (va_A (List.flatten [(wmDn qDn k uDn), (wmBb qBb k aBb), (wmBa qBa k aBa)] ++ List.flatten [(wMO qO k widthO manyO cellsO movedO tapeO linesO hasO bridgeO cartO wardO frostAtO actO isKeptO loadNowO byNowO rowO memoryO whoseO (qDn 0) (qBb 0) (qBa 0) goesByO comesToO sagMoreO creakOfO wipedByO deepAtO sagAtO loadAtO orderRowO oftenO lossOneO lossOtherO vO tO mO gO)]) sz) := by
  refine Met.ofW (cc := cX12_begin) (maxL := 2) (ret := none) (by decide) rfl ?_
  intro p e s m args below meth c s₁ B hml hv
  obtain ⟨rfl, hsz, hP, hK, hD0⟩ := hv
  have hx := B.exec
  have hb := B.bytes
  have hr := B.returns
  have hts := atoms_spec (ws := wk_c_X12_begin) B.pre
  have hown : s.vm.findClass RX12 = some m.cls := findClass_of_methodNamed B.named
  have hlocks := B.notSynchronized
  subst hsz
  have hD := hD0.self (sz := s.heap.size)
  generalize hAe : va_A (List.flatten [(wmDn qDn k uDn), (wmBb qBb k aBb), (wmBa qBa k aBa)] ++ List.flatten [(wMO qO k widthO manyO cellsO movedO tapeO linesO hasO bridgeO cartO wardO frostAtO actO isKeptO loadNowO byNowO rowO memoryO whoseO (qDn 0) (qBb 0) (qBa 0) goesByO comesToO sagMoreO creakOfO wipedByO deepAtO sagAtO loadAtO orderRowO oftenO lossOneO lossOtherO vO tO mO gO)]) s.heap.size = A at hD ⊢
  have hA : ∀ q : Nat, s.heap.size ≤ q → A q := fun q h => by rw [← hAe]; exact Or.inr h
  have hS : va_S A s.heap s.heap [] := va_S.rf
  have hP : va_P (dC, dI) vwCl (List.flatten [(wmDn qDn k uDn), (wmBb qBb k aBb), (wmBa qBa k aBa)] ++ List.flatten [(wMO qO k widthO manyO cellsO movedO tapeO linesO hasO bridgeO cartO wardO frostAtO actO isKeptO loadNowO byNowO rowO memoryO whoseO (qDn 0) (qBb 0) (qBa 0) goesByO comesToO sagMoreO creakOfO wipedByO deepAtO sagAtO loadAtO orderRowO oftenO lossOneO lossOtherO vO tO mO gO)]) s.heap := hP
  have hl := lv_entry ([.ref (qO 0)]) (n := 2) (Nat.le_of_ble_eq_true rfl)
  rw [lg_entry_eq]
  generalize (lg_sl ([.ref (qO 0)]) ++ List.replicate (2 - (lg_sl ([.ref (qO 0)])).length) Slot.unset).toArray = ls at hl ⊢
  have hl : lv_has ls 2 [(0, .ref (qO 0))] := hl
  refine w_gen (fun Q hQ => ?_)
  refine lv_iconst (v := 0) hx hb dX12_begin_0 (by decide) ?_
  refine lv_istore_n (lv' := [(1, .int 0), (0, .ref (qO 0))]) hx hb dX12_begin_1 rfl hl (by decide) rfl (fun ls hl => ?_)
  refine lv_iload_n hx hb dX12_begin_2 rfl (lv_at hl 0 rfl) ?_
  refine lv_iconst (v := 3) hx hb dX12_begin_3 (by decide) ?_
  refine lv_icmp_ge (tgt := 35) hx hb dX12_begin_4 (by decide) (fun cz1 => ?_) (fun cz1 => ?_)
  · skip
    exact absurd cz1 (by decide)
  · skip
    refine lv_aload_n hx hb dX12_begin_7 rfl (lv_at hl 1 rfl) ?_
    refine va_get (D := (dC, dI)) (ci := 12) (v := .ref (qDn 0)) (C := RX12) (T := TX12) (N := 59) hx hb hts (fun w h => List.mem_cons_of_mem _ (List.mem_append_right _ (List.mem_append_left _ h))) hown hK hP 3 rfl rfl 32 (by decide) (hts (.fieldLink RX12 71 "SagMemoryModel" "deepNow" "[I") (wl_mem 0 rfl)) (fun _ h9 => h9) rfl dX12_begin_8 ?_
    refine lv_iload_n hx hb dX12_begin_11 rfl (lv_at hl 0 rfl) ?_
    refine lv_iconst (v := 0) hx hb dX12_begin_12 (by decide) ?_
    refine va_iast hx hb hK hP hD hS 0 0 rfl rfl (by unfold vp_in; decide) dX12_begin_13 (fun H locs hP hD hS => ?_)
    obtain ⟨fz2, efz2, hP, hD⟩ : ∃ fz2 : Nat → Int32, fz2 = upd (uDn 0) (0 : Int32).toNatClampNeg (0 : Int32) ∧ va_P (dC, dI) vwCl (List.flatten [(wmDn qDn k (va_up uDn 0 fz2)), (wmBb qBb k aBb), (wmBa qBa k aBa)] ++ List.flatten [(wMO qO k widthO manyO cellsO movedO tapeO linesO hasO bridgeO cartO wardO frostAtO actO isKeptO loadNowO byNowO rowO memoryO whoseO (qDn 0) (qBb 0) (qBa 0) goesByO comesToO sagMoreO creakOfO wipedByO deepAtO sagAtO loadAtO orderRowO oftenO lossOneO lossOtherO vO tO mO gO)]) H ∧ va_D A (List.flatten [(wmDn qDn k (va_up uDn 0 fz2)), (wmBb qBb k aBb), (wmBa qBa k aBa)] ++ List.flatten [(wMO qO k widthO manyO cellsO movedO tapeO linesO hasO bridgeO cartO wardO frostAtO actO isKeptO loadNowO byNowO rowO memoryO whoseO (qDn 0) (qBb 0) (qBa 0) goesByO comesToO sagMoreO creakOfO wipedByO deepAtO sagAtO loadAtO orderRowO oftenO lossOneO lossOtherO vO tO mO gO)]) := ⟨_, rfl, hP, hD⟩
    have kfz2 : fz2 (0 : Int32).toNatClampNeg = (0 : Int32) := by rw [efz2]; exact pk_us
    have mfz2 : (fz2 (0 : Int32).toNatClampNeg).toInt = (0 : Int) := congrArg Int32.toInt kfz2
    refine lv_aload_n hx hb dX12_begin_14 rfl (lv_at hl 1 rfl) ?_
    refine va_get (D := (dC, dI)) (ci := 12) (v := .ref (qBb 0)) (C := RX12) (T := TX12) (N := 59) hx hb hts (fun w h => List.mem_cons_of_mem _ (List.mem_append_right _ (List.mem_append_left _ h))) hown hK hP 3 rfl rfl 33 (by decide) (hts (.fieldLink RX12 74 "SagMemoryModel" "brokenBy" "[I") (wl_mem 1 rfl)) (fun _ h9 => h9) rfl dX12_begin_15 ?_
    refine lv_iload_n hx hb dX12_begin_18 rfl (lv_at hl 0 rfl) ?_
    refine lv_iconst (v := (-1)) hx hb dX12_begin_19 (by decide) ?_
    refine va_iast hx hb hK hP hD hS 1 0 rfl rfl (by unfold vp_in; decide) dX12_begin_20 (fun H locs hP hD hS => ?_)
    obtain ⟨fz3, efz3, hP, hD⟩ : ∃ fz3 : Nat → Int32, fz3 = upd (aBb 0) (0 : Int32).toNatClampNeg (-1 : Int32) ∧ va_P (dC, dI) vwCl (List.flatten [(wmDn qDn k (va_up uDn 0 fz2)), (wmBb qBb k (va_up aBb 0 fz3)), (wmBa qBa k aBa)] ++ List.flatten [(wMO qO k widthO manyO cellsO movedO tapeO linesO hasO bridgeO cartO wardO frostAtO actO isKeptO loadNowO byNowO rowO memoryO whoseO (qDn 0) (qBb 0) (qBa 0) goesByO comesToO sagMoreO creakOfO wipedByO deepAtO sagAtO loadAtO orderRowO oftenO lossOneO lossOtherO vO tO mO gO)]) H ∧ va_D A (List.flatten [(wmDn qDn k (va_up uDn 0 fz2)), (wmBb qBb k (va_up aBb 0 fz3)), (wmBa qBa k aBa)] ++ List.flatten [(wMO qO k widthO manyO cellsO movedO tapeO linesO hasO bridgeO cartO wardO frostAtO actO isKeptO loadNowO byNowO rowO memoryO whoseO (qDn 0) (qBb 0) (qBa 0) goesByO comesToO sagMoreO creakOfO wipedByO deepAtO sagAtO loadAtO orderRowO oftenO lossOneO lossOtherO vO tO mO gO)]) := ⟨_, rfl, hP, hD⟩
    have kfz3 : fz3 (0 : Int32).toNatClampNeg = (-1 : Int32) := by rw [efz3]; exact pk_us
    refine lv_aload_n hx hb dX12_begin_21 rfl (lv_at hl 1 rfl) ?_
    refine va_get (D := (dC, dI)) (ci := 12) (v := .ref (qBa 0)) (C := RX12) (T := TX12) (N := 59) hx hb hts (fun w h => List.mem_cons_of_mem _ (List.mem_append_right _ (List.mem_append_left _ h))) hown hK hP 3 rfl rfl 34 (by decide) (hts (.fieldLink RX12 77 "SagMemoryModel" "brokenAt" "[I") (wl_mem 2 rfl)) (fun _ h9 => h9) rfl dX12_begin_22 ?_
    refine lv_iload_n hx hb dX12_begin_25 rfl (lv_at hl 0 rfl) ?_
    refine lv_ldc (v := 100000) hx hb hown (hts (.constant RX12 166 (100000)) (wl_mem 3 rfl)) dX12_begin_26 ?_
    refine va_iast hx hb hK hP hD hS 2 0 rfl rfl (by unfold vp_in; decide) dX12_begin_28 (fun H locs hP hD hS => ?_)
    obtain ⟨fz4, efz4, hP, hD⟩ : ∃ fz4 : Nat → Int32, fz4 = upd (aBa 0) (0 : Int32).toNatClampNeg (100000 : Int32) ∧ va_P (dC, dI) vwCl (List.flatten [(wmDn qDn k (va_up uDn 0 fz2)), (wmBb qBb k (va_up aBb 0 fz3)), (wmBa qBa k (va_up aBa 0 fz4))] ++ List.flatten [(wMO qO k widthO manyO cellsO movedO tapeO linesO hasO bridgeO cartO wardO frostAtO actO isKeptO loadNowO byNowO rowO memoryO whoseO (qDn 0) (qBb 0) (qBa 0) goesByO comesToO sagMoreO creakOfO wipedByO deepAtO sagAtO loadAtO orderRowO oftenO lossOneO lossOtherO vO tO mO gO)]) H ∧ va_D A (List.flatten [(wmDn qDn k (va_up uDn 0 fz2)), (wmBb qBb k (va_up aBb 0 fz3)), (wmBa qBa k (va_up aBa 0 fz4))] ++ List.flatten [(wMO qO k widthO manyO cellsO movedO tapeO linesO hasO bridgeO cartO wardO frostAtO actO isKeptO loadNowO byNowO rowO memoryO whoseO (qDn 0) (qBb 0) (qBa 0) goesByO comesToO sagMoreO creakOfO wipedByO deepAtO sagAtO loadAtO orderRowO oftenO lossOneO lossOtherO vO tO mO gO)]) := ⟨_, rfl, hP, hD⟩
    have kfz4 : fz4 (0 : Int32).toNatClampNeg = (100000 : Int32) := by rw [efz4]; exact pk_us
    refine lv_iinc (v := 1) (lv' := [(1, .int 1), (0, .ref (qO 0))]) hx hb dX12_begin_29 hl (k := 0) rfl (by decide) (by decide) rfl (fun ls hl => ?_)
    refine lv_goto (tgt := 2) hx hb dX12_begin_32 (by decide) ?_
    refine lv_iload_n hx hb dX12_begin_2 rfl (lv_at hl 0 rfl) ?_
    refine lv_iconst (v := 3) hx hb dX12_begin_3 (by decide) ?_
    refine lv_icmp_ge (tgt := 35) hx hb dX12_begin_4 (by decide) (fun cz5 => ?_) (fun cz5 => ?_)
    · skip
      exact absurd cz5 (by decide)
    · skip
      refine lv_aload_n hx hb dX12_begin_7 rfl (lv_at hl 1 rfl) ?_
      refine va_get (D := (dC, dI)) (ci := 12) (v := .ref (qDn 0)) (C := RX12) (T := TX12) (N := 59) hx hb hts (fun w h => List.mem_cons_of_mem _ (List.mem_append_right _ (List.mem_append_left _ h))) hown hK hP 3 rfl rfl 32 (by decide) (hts (.fieldLink RX12 71 "SagMemoryModel" "deepNow" "[I") (wl_mem 0 rfl)) (fun _ h9 => h9) rfl dX12_begin_8 ?_
      refine lv_iload_n hx hb dX12_begin_11 rfl (lv_at hl 0 rfl) ?_
      refine lv_iconst (v := 0) hx hb dX12_begin_12 (by decide) ?_
      refine va_iast hx hb hK hP hD hS 0 0 rfl rfl (by unfold vp_in; decide) dX12_begin_13 (fun H locs hP hD hS => ?_)
      obtain ⟨fz6, efz6, hP, hD⟩ : ∃ fz6 : Nat → Int32, fz6 = upd fz2 (1 : Int32).toNatClampNeg (0 : Int32) ∧ va_P (dC, dI) vwCl (List.flatten [(wmDn qDn k (va_up uDn 0 fz6)), (wmBb qBb k (va_up aBb 0 fz3)), (wmBa qBa k (va_up aBa 0 fz4))] ++ List.flatten [(wMO qO k widthO manyO cellsO movedO tapeO linesO hasO bridgeO cartO wardO frostAtO actO isKeptO loadNowO byNowO rowO memoryO whoseO (qDn 0) (qBb 0) (qBa 0) goesByO comesToO sagMoreO creakOfO wipedByO deepAtO sagAtO loadAtO orderRowO oftenO lossOneO lossOtherO vO tO mO gO)]) H ∧ va_D A (List.flatten [(wmDn qDn k (va_up uDn 0 fz6)), (wmBb qBb k (va_up aBb 0 fz3)), (wmBa qBa k (va_up aBa 0 fz4))] ++ List.flatten [(wMO qO k widthO manyO cellsO movedO tapeO linesO hasO bridgeO cartO wardO frostAtO actO isKeptO loadNowO byNowO rowO memoryO whoseO (qDn 0) (qBb 0) (qBa 0) goesByO comesToO sagMoreO creakOfO wipedByO deepAtO sagAtO loadAtO orderRowO oftenO lossOneO lossOtherO vO tO mO gO)]) := ⟨_, rfl, hP, hD⟩
      have kfz6 : fz6 (1 : Int32).toNatClampNeg = (0 : Int32) := by rw [efz6]; exact pk_us
      have mfz6 : (fz6 (1 : Int32).toNatClampNeg).toInt = (0 : Int) := congrArg Int32.toInt kfz6
      refine lv_aload_n hx hb dX12_begin_14 rfl (lv_at hl 1 rfl) ?_
      refine va_get (D := (dC, dI)) (ci := 12) (v := .ref (qBb 0)) (C := RX12) (T := TX12) (N := 59) hx hb hts (fun w h => List.mem_cons_of_mem _ (List.mem_append_right _ (List.mem_append_left _ h))) hown hK hP 3 rfl rfl 33 (by decide) (hts (.fieldLink RX12 74 "SagMemoryModel" "brokenBy" "[I") (wl_mem 1 rfl)) (fun _ h9 => h9) rfl dX12_begin_15 ?_
      refine lv_iload_n hx hb dX12_begin_18 rfl (lv_at hl 0 rfl) ?_
      refine lv_iconst (v := (-1)) hx hb dX12_begin_19 (by decide) ?_
      refine va_iast hx hb hK hP hD hS 1 0 rfl rfl (by unfold vp_in; decide) dX12_begin_20 (fun H locs hP hD hS => ?_)
      obtain ⟨fz7, efz7, hP, hD⟩ : ∃ fz7 : Nat → Int32, fz7 = upd fz3 (1 : Int32).toNatClampNeg (-1 : Int32) ∧ va_P (dC, dI) vwCl (List.flatten [(wmDn qDn k (va_up uDn 0 fz6)), (wmBb qBb k (va_up aBb 0 fz7)), (wmBa qBa k (va_up aBa 0 fz4))] ++ List.flatten [(wMO qO k widthO manyO cellsO movedO tapeO linesO hasO bridgeO cartO wardO frostAtO actO isKeptO loadNowO byNowO rowO memoryO whoseO (qDn 0) (qBb 0) (qBa 0) goesByO comesToO sagMoreO creakOfO wipedByO deepAtO sagAtO loadAtO orderRowO oftenO lossOneO lossOtherO vO tO mO gO)]) H ∧ va_D A (List.flatten [(wmDn qDn k (va_up uDn 0 fz6)), (wmBb qBb k (va_up aBb 0 fz7)), (wmBa qBa k (va_up aBa 0 fz4))] ++ List.flatten [(wMO qO k widthO manyO cellsO movedO tapeO linesO hasO bridgeO cartO wardO frostAtO actO isKeptO loadNowO byNowO rowO memoryO whoseO (qDn 0) (qBb 0) (qBa 0) goesByO comesToO sagMoreO creakOfO wipedByO deepAtO sagAtO loadAtO orderRowO oftenO lossOneO lossOtherO vO tO mO gO)]) := ⟨_, rfl, hP, hD⟩
      have kfz7 : fz7 (1 : Int32).toNatClampNeg = (-1 : Int32) := by rw [efz7]; exact pk_us
      refine lv_aload_n hx hb dX12_begin_21 rfl (lv_at hl 1 rfl) ?_
      refine va_get (D := (dC, dI)) (ci := 12) (v := .ref (qBa 0)) (C := RX12) (T := TX12) (N := 59) hx hb hts (fun w h => List.mem_cons_of_mem _ (List.mem_append_right _ (List.mem_append_left _ h))) hown hK hP 3 rfl rfl 34 (by decide) (hts (.fieldLink RX12 77 "SagMemoryModel" "brokenAt" "[I") (wl_mem 2 rfl)) (fun _ h9 => h9) rfl dX12_begin_22 ?_
      refine lv_iload_n hx hb dX12_begin_25 rfl (lv_at hl 0 rfl) ?_
      refine lv_ldc (v := 100000) hx hb hown (hts (.constant RX12 166 (100000)) (wl_mem 3 rfl)) dX12_begin_26 ?_
      refine va_iast hx hb hK hP hD hS 2 0 rfl rfl (by unfold vp_in; decide) dX12_begin_28 (fun H locs hP hD hS => ?_)
      obtain ⟨fz8, efz8, hP, hD⟩ : ∃ fz8 : Nat → Int32, fz8 = upd fz4 (1 : Int32).toNatClampNeg (100000 : Int32) ∧ va_P (dC, dI) vwCl (List.flatten [(wmDn qDn k (va_up uDn 0 fz6)), (wmBb qBb k (va_up aBb 0 fz7)), (wmBa qBa k (va_up aBa 0 fz8))] ++ List.flatten [(wMO qO k widthO manyO cellsO movedO tapeO linesO hasO bridgeO cartO wardO frostAtO actO isKeptO loadNowO byNowO rowO memoryO whoseO (qDn 0) (qBb 0) (qBa 0) goesByO comesToO sagMoreO creakOfO wipedByO deepAtO sagAtO loadAtO orderRowO oftenO lossOneO lossOtherO vO tO mO gO)]) H ∧ va_D A (List.flatten [(wmDn qDn k (va_up uDn 0 fz6)), (wmBb qBb k (va_up aBb 0 fz7)), (wmBa qBa k (va_up aBa 0 fz8))] ++ List.flatten [(wMO qO k widthO manyO cellsO movedO tapeO linesO hasO bridgeO cartO wardO frostAtO actO isKeptO loadNowO byNowO rowO memoryO whoseO (qDn 0) (qBb 0) (qBa 0) goesByO comesToO sagMoreO creakOfO wipedByO deepAtO sagAtO loadAtO orderRowO oftenO lossOneO lossOtherO vO tO mO gO)]) := ⟨_, rfl, hP, hD⟩
      have kfz8 : fz8 (1 : Int32).toNatClampNeg = (100000 : Int32) := by rw [efz8]; exact pk_us
      refine lv_iinc (v := 2) (lv' := [(1, .int 2), (0, .ref (qO 0))]) hx hb dX12_begin_29 hl (k := 0) rfl (by decide) (by decide) rfl (fun ls hl => ?_)
      refine lv_goto (tgt := 2) hx hb dX12_begin_32 (by decide) ?_
      refine lv_iload_n hx hb dX12_begin_2 rfl (lv_at hl 0 rfl) ?_
      refine lv_iconst (v := 3) hx hb dX12_begin_3 (by decide) ?_
      refine lv_icmp_ge (tgt := 35) hx hb dX12_begin_4 (by decide) (fun cz9 => ?_) (fun cz9 => ?_)
      · skip
        exact absurd cz9 (by decide)
      · skip
        refine lv_aload_n hx hb dX12_begin_7 rfl (lv_at hl 1 rfl) ?_
        refine va_get (D := (dC, dI)) (ci := 12) (v := .ref (qDn 0)) (C := RX12) (T := TX12) (N := 59) hx hb hts (fun w h => List.mem_cons_of_mem _ (List.mem_append_right _ (List.mem_append_left _ h))) hown hK hP 3 rfl rfl 32 (by decide) (hts (.fieldLink RX12 71 "SagMemoryModel" "deepNow" "[I") (wl_mem 0 rfl)) (fun _ h9 => h9) rfl dX12_begin_8 ?_
        refine lv_iload_n hx hb dX12_begin_11 rfl (lv_at hl 0 rfl) ?_
        refine lv_iconst (v := 0) hx hb dX12_begin_12 (by decide) ?_
        refine va_iast hx hb hK hP hD hS 0 0 rfl rfl (by unfold vp_in; decide) dX12_begin_13 (fun H locs hP hD hS => ?_)
        obtain ⟨fz10, efz10, hP, hD⟩ : ∃ fz10 : Nat → Int32, fz10 = upd fz6 (2 : Int32).toNatClampNeg (0 : Int32) ∧ va_P (dC, dI) vwCl (List.flatten [(wmDn qDn k (va_up uDn 0 fz10)), (wmBb qBb k (va_up aBb 0 fz7)), (wmBa qBa k (va_up aBa 0 fz8))] ++ List.flatten [(wMO qO k widthO manyO cellsO movedO tapeO linesO hasO bridgeO cartO wardO frostAtO actO isKeptO loadNowO byNowO rowO memoryO whoseO (qDn 0) (qBb 0) (qBa 0) goesByO comesToO sagMoreO creakOfO wipedByO deepAtO sagAtO loadAtO orderRowO oftenO lossOneO lossOtherO vO tO mO gO)]) H ∧ va_D A (List.flatten [(wmDn qDn k (va_up uDn 0 fz10)), (wmBb qBb k (va_up aBb 0 fz7)), (wmBa qBa k (va_up aBa 0 fz8))] ++ List.flatten [(wMO qO k widthO manyO cellsO movedO tapeO linesO hasO bridgeO cartO wardO frostAtO actO isKeptO loadNowO byNowO rowO memoryO whoseO (qDn 0) (qBb 0) (qBa 0) goesByO comesToO sagMoreO creakOfO wipedByO deepAtO sagAtO loadAtO orderRowO oftenO lossOneO lossOtherO vO tO mO gO)]) := ⟨_, rfl, hP, hD⟩
        have hfz10 : Ru 0 fz10 := by rw [efz10, efz6, efz2]; exact ru_zero
        have kfz10 : fz10 (2 : Int32).toNatClampNeg = (0 : Int32) := by rw [efz10]; exact pk_us
        have mfz10 : (fz10 (2 : Int32).toNatClampNeg).toInt = (0 : Int) := congrArg Int32.toInt kfz10
        refine lv_aload_n hx hb dX12_begin_14 rfl (lv_at hl 1 rfl) ?_
        refine va_get (D := (dC, dI)) (ci := 12) (v := .ref (qBb 0)) (C := RX12) (T := TX12) (N := 59) hx hb hts (fun w h => List.mem_cons_of_mem _ (List.mem_append_right _ (List.mem_append_left _ h))) hown hK hP 3 rfl rfl 33 (by decide) (hts (.fieldLink RX12 74 "SagMemoryModel" "brokenBy" "[I") (wl_mem 1 rfl)) (fun _ h9 => h9) rfl dX12_begin_15 ?_
        refine lv_iload_n hx hb dX12_begin_18 rfl (lv_at hl 0 rfl) ?_
        refine lv_iconst (v := (-1)) hx hb dX12_begin_19 (by decide) ?_
        refine va_iast hx hb hK hP hD hS 1 0 rfl rfl (by unfold vp_in; decide) dX12_begin_20 (fun H locs hP hD hS => ?_)
        obtain ⟨fz11, efz11, hP, hD⟩ : ∃ fz11 : Nat → Int32, fz11 = upd fz7 (2 : Int32).toNatClampNeg (-1 : Int32) ∧ va_P (dC, dI) vwCl (List.flatten [(wmDn qDn k (va_up uDn 0 fz10)), (wmBb qBb k (va_up aBb 0 fz11)), (wmBa qBa k (va_up aBa 0 fz8))] ++ List.flatten [(wMO qO k widthO manyO cellsO movedO tapeO linesO hasO bridgeO cartO wardO frostAtO actO isKeptO loadNowO byNowO rowO memoryO whoseO (qDn 0) (qBb 0) (qBa 0) goesByO comesToO sagMoreO creakOfO wipedByO deepAtO sagAtO loadAtO orderRowO oftenO lossOneO lossOtherO vO tO mO gO)]) H ∧ va_D A (List.flatten [(wmDn qDn k (va_up uDn 0 fz10)), (wmBb qBb k (va_up aBb 0 fz11)), (wmBa qBa k (va_up aBa 0 fz8))] ++ List.flatten [(wMO qO k widthO manyO cellsO movedO tapeO linesO hasO bridgeO cartO wardO frostAtO actO isKeptO loadNowO byNowO rowO memoryO whoseO (qDn 0) (qBb 0) (qBa 0) goesByO comesToO sagMoreO creakOfO wipedByO deepAtO sagAtO loadAtO orderRowO oftenO lossOneO lossOtherO vO tO mO gO)]) := ⟨_, rfl, hP, hD⟩
        have kfz11 : fz11 (2 : Int32).toNatClampNeg = (-1 : Int32) := by rw [efz11]; exact pk_us
        refine lv_aload_n hx hb dX12_begin_21 rfl (lv_at hl 1 rfl) ?_
        refine va_get (D := (dC, dI)) (ci := 12) (v := .ref (qBa 0)) (C := RX12) (T := TX12) (N := 59) hx hb hts (fun w h => List.mem_cons_of_mem _ (List.mem_append_right _ (List.mem_append_left _ h))) hown hK hP 3 rfl rfl 34 (by decide) (hts (.fieldLink RX12 77 "SagMemoryModel" "brokenAt" "[I") (wl_mem 2 rfl)) (fun _ h9 => h9) rfl dX12_begin_22 ?_
        refine lv_iload_n hx hb dX12_begin_25 rfl (lv_at hl 0 rfl) ?_
        refine lv_ldc (v := 100000) hx hb hown (hts (.constant RX12 166 (100000)) (wl_mem 3 rfl)) dX12_begin_26 ?_
        refine va_iast hx hb hK hP hD hS 2 0 rfl rfl (by unfold vp_in; decide) dX12_begin_28 (fun H locs hP hD hS => ?_)
        obtain ⟨fz12, efz12, hP, hD⟩ : ∃ fz12 : Nat → Int32, fz12 = upd fz8 (2 : Int32).toNatClampNeg (100000 : Int32) ∧ va_P (dC, dI) vwCl (List.flatten [(wmDn qDn k (va_up uDn 0 fz10)), (wmBb qBb k (va_up aBb 0 fz11)), (wmBa qBa k (va_up aBa 0 fz12))] ++ List.flatten [(wMO qO k widthO manyO cellsO movedO tapeO linesO hasO bridgeO cartO wardO frostAtO actO isKeptO loadNowO byNowO rowO memoryO whoseO (qDn 0) (qBb 0) (qBa 0) goesByO comesToO sagMoreO creakOfO wipedByO deepAtO sagAtO loadAtO orderRowO oftenO lossOneO lossOtherO vO tO mO gO)]) H ∧ va_D A (List.flatten [(wmDn qDn k (va_up uDn 0 fz10)), (wmBb qBb k (va_up aBb 0 fz11)), (wmBa qBa k (va_up aBa 0 fz12))] ++ List.flatten [(wMO qO k widthO manyO cellsO movedO tapeO linesO hasO bridgeO cartO wardO frostAtO actO isKeptO loadNowO byNowO rowO memoryO whoseO (qDn 0) (qBb 0) (qBa 0) goesByO comesToO sagMoreO creakOfO wipedByO deepAtO sagAtO loadAtO orderRowO oftenO lossOneO lossOtherO vO tO mO gO)]) := ⟨_, rfl, hP, hD⟩
        have kfz12 : fz12 (2 : Int32).toNatClampNeg = (100000 : Int32) := by rw [efz12]; exact pk_us
        refine lv_iinc (v := 3) (lv' := [(1, .int 3), (0, .ref (qO 0))]) hx hb dX12_begin_29 hl (k := 0) rfl (by decide) (by decide) rfl (fun ls hl => ?_)
        refine lv_goto (tgt := 2) hx hb dX12_begin_32 (by decide) ?_
        refine lv_iload_n hx hb dX12_begin_2 rfl (lv_at hl 0 rfl) ?_
        refine lv_iconst (v := 3) hx hb dX12_begin_3 (by decide) ?_
        refine lv_icmp_ge (tgt := 35) hx hb dX12_begin_4 (by decide) (fun cz13 => ?_) (fun cz13 => ?_)
        · skip
          rw [hQ]
          exact W.vret hx hb hr (fun t ht hW => ⟨⟨(), rfl, trivial, (va_up uDn 0 fz10), (va_up aBb 0 fz11), (va_up aBa 0 fz12), (ruA_up hfz10), by rw [ht]; exact hP⟩, hS.F ht⟩) hS.2.2 dX12_begin_35
        · skip
          exact absurd cz13 (by decide)
def wk_c_X12_turn : List Cond := .code yX12_turn cX12_turn 5 none :: ([.fieldLink RX12 298 "SagMemoryModel" "frosts" "I", .methodLink RX12 307 yX12_isBit, .static yX12_isBit, .initialized RX12, .methodLink RX12 311 yX12_freezes, .instanceMethod yX12_freezes, .selects RX12 yX12_freezes yX12_freezes, .fieldLink RX12 62 "SagMemoryModel" "row" "[I", .fieldLink RX12 80 "SagMemoryModel" "goesBy" "[I", .fieldLink RX12 83 "SagMemoryModel" "comesTo" "[I", .fieldLink RX12 86 "SagMemoryModel" "sagMore" "[I", .fieldLink RX12 89 "SagMemoryModel" "creakOf" "[I", .fieldLink RX12 92 "SagMemoryModel" "wipedBy" "[I", .fieldLink RX12 301 "SagMemoryModel" "absent" "I", .methodLink RX12 314 yX12_wayOf, .instanceMethod yX12_wayOf, .selects RX12 yX12_wayOf yX12_wayOf, .fieldLink RX12 74 "SagMemoryModel" "brokenBy" "[I", .methodLink RX12 317 yX12_sagOf, .instanceMethod yX12_sagOf, .selects RX12 yX12_sagOf yX12_sagOf, .fieldLink RX12 56 "SagMemoryModel" "loadNow" "[I", .methodLink RX12 304 yX12_lastOf, .instanceMethod yX12_lastOf, .selects RX12 yX12_lastOf yX12_lastOf, .methodLink RX12 320 yX12_crosses, .instanceMethod yX12_crosses, .selects RX12 yX12_crosses yX12_crosses, .fieldLink RX12 37 "SagMemoryModel" "bridge" "[I", .fieldLink RX12 77 "SagMemoryModel" "brokenAt" "[I"] ++ (wsX120 ++ (wk_c_X12_isBit ++ (wk_c_X12_freezes ++ (wk_c_X12_wayOf ++ (wk_c_X12_sagOf ++ (wk_c_X12_lastOf ++ (wk_c_X12_crosses ++ []))))))))
theorem wkg_c_X12_turn : wk_c_X12_turn.all goodWord = true := by decide +kernel
set_option maxHeartbeats 4000000 in
set_option maxRecDepth 100000 in
theorem c_X12_turn (l : Launch) (dC : Nat → ClassId) (dI : Nat → Nat → Nat) (k : Nat → ClassId) (sz : Nat) (qO : Nat → Nat) (widthO : Nat) (manyO : Nat) (cellsO : Nat) (movedO : Nat) (tapeO : Nat) (linesO : Nat) (cartO : Nat) (frostAtO : Nat) (actO : Nat) (isKeptO : Nat) (deepAtO : Nat) (sagAtO : Nat) (loadAtO : Nat) (orderRowO : Nat) (oftenO : Nat) (lossOneO : Nat) (lossOtherO : Nat) (vO : Nat → Int32) (tO : Nat → Int32) (mO : Nat → Int32) (gO : Nat → Int64) (qHa : Nat → Nat) (hHa : Nat → Nat → Int32) (qWa : Nat → Nat) (jWa : Nat → Nat → Int32) (qBn : Nat → Nat) (yBn : Nat → Nat → Int32) (qLn : Nat → Nat) (aLn : Nat → Nat → Int32) (qBr : Nat → Nat) (aBr : Nat → Nat → Int32) (qRw : Nat → Nat) (rRw : Nat → Nat → Int32) (qGb : Nat → Nat) (yGb : Nat → Nat → Int32) (qCt : Nat → Nat) (aCt : Nat → Nat → Int32) (qSm : Nat → Nat) (aSm : Nat → Nat → Int32) (qCo : Nat → Nat) (aCo : Nat → Nat → Int32) (qWb : Nat → Nat) (aWb : Nat → Nat → Int32) (qDn : Nat → Nat) (uDn : Nat → Nat → Int32) (qMe : Nat → Nat) (aMe : Nat → Nat → Int32) (qWh : Nat → Nat) (aWh : Nat → Nat → Int32) (qBb : Nat → Nat) (aBb : Nat → Nat → Int32) (qBa : Nat → Nat) (aBa : Nat → Nat → Int32) (p1 : Int32) (T9 : Int) (htO : Rg 0 700 tO) (hmO : Rg (-1) 127 mO) (hhHa : Pa_h hHa) (hjWa : Pa_j jWa) (hyBn : RgA (-1) 2 yBn) (hrRw : RgA 0 6 rRw) (hyGb : RgA (-1) 2 yGb) (huDn : RuA T9 uDn) (hp0 : 0 ≤ p1.toInt ∧ p1.toInt ≤ 6) (hp1 : 0 ≤ T9 ∧ T9 ≤ 7) : Met l yX12_turn wk_c_X12_turn ({ frames := 2, cells := 0, slots := 0, locals := 47 }) (va_Pc [.ref (qO 0), .int p1] (fun U => U.heap.size = sz ∧ va_P (dC, dI) vwCl (List.flatten [(wmGb qGb k yGb), (wmCt qCt k aCt), (wmSm qSm k aSm), (wmCo qCo k aCo), (wmWb qWb k aWb), (wmDn qDn k uDn), (wmMe qMe k aMe), (wmWh qWh k aWh), (wmBb qBb k aBb), (wmBa qBa k aBa)] ++ List.flatten [(wMO qO k widthO manyO cellsO movedO tapeO linesO (qHa 0) (qBr 0) cartO (qWa 0) frostAtO actO isKeptO (qLn 0) (qBn 0) (qRw 0) (qMe 0) (qWh 0) (qDn 0) (qBb 0) (qBa 0) (qGb 0) (qCt 0) (qSm 0) (qCo 0) (qWb 0) deepAtO sagAtO loadAtO orderRowO oftenO lossOneO lossOtherO vO tO mO gO), (wmHa qHa k hHa), (wmWa qWa k jWa), (wmBn qBn k yBn), (wmLn qLn k aLn), (wmBr qBr k aBr), (wmRw qRw k rRw)]) U.heap ∧ va_K (dC, dI) vwCl (tK k) U ∧ va_D (fun _ => True) (List.flatten [(wmGb qGb k yGb), (wmCt qCt k aCt), (wmSm qSm k aSm), (wmCo qCo k aCo), (wmWb qWb k aWb), (wmDn qDn k uDn), (wmMe qMe k aMe), (wmWh qWh k aWh), (wmBb qBb k aBb), (wmBa qBa k aBa)] ++ List.flatten [(wMO qO k widthO manyO cellsO movedO tapeO linesO (qHa 0) (qBr 0) cartO (qWa 0) frostAtO actO isKeptO (qLn 0) (qBn 0) (qRw 0) (qMe 0) (qWh 0) (qDn 0) (qBb 0) (qBa 0) (qGb 0) (qCt 0) (qSm 0) (qCo 0) (qWb 0) deepAtO sagAtO loadAtO orderRowO oftenO lossOneO lossOtherO vO tO mO gO), (wmHa qHa k hHa), (wmWa qWa k jWa), (wmBn qBn k yBn), (wmLn qLn k aLn), (wmBr qBr k aBr), (wmRw qRw k rRw)]))) (va_Qv (fun _ : Unit => True) (fun (_ : Unit) (t : State) => ∃ (yGb' : Nat → Nat → Int32) (aCt' : Nat → Nat → Int32) (aSm' : Nat → Nat → Int32) (aCo' : Nat → Nat → Int32) (aWb' : Nat → Nat → Int32) (uDn' : Nat → Nat → Int32) (aMe' : Nat → Nat → Int32) (aWh' : Nat → Nat → Int32) (aBb' : Nat → Nat → Int32) (aBa' : Nat → Nat → Int32), RgA (-1) 2 yGb' ∧ RuA (T9 + 1) uDn' ∧ va_P (dC, dI) vwCl (List.flatten [(wmGb qGb k yGb'), (wmCt qCt k aCt'), (wmSm qSm k aSm'), (wmCo qCo k aCo'), (wmWb qWb k aWb'), (wmDn qDn k uDn'), (wmMe qMe k aMe'), (wmWh qWh k aWh'), (wmBb qBb k aBb'), (wmBa qBa k aBa')] ++ List.flatten [(wMO qO k widthO manyO cellsO movedO tapeO linesO (qHa 0) (qBr 0) cartO (qWa 0) frostAtO actO isKeptO (qLn 0) (qBn 0) (qRw 0) (qMe 0) (qWh 0) (qDn 0) (qBb 0) (qBa 0) (qGb 0) (qCt 0) (qSm 0) (qCo 0) (qWb 0) deepAtO sagAtO loadAtO orderRowO oftenO lossOneO lossOtherO vO tO mO gO), (wmHa qHa k hHa), (wmWa qWa k jWa), (wmBn qBn k yBn), (wmLn qLn k aLn), (wmBr qBr k aBr), (wmRw qRw k rRw)]) t.heap) (va_A (List.flatten [(wmGb qGb k yGb), (wmCt qCt k aCt), (wmSm qSm k aSm), (wmCo qCo k aCo), (wmWb qWb k aWb), (wmDn qDn k uDn), (wmMe qMe k aMe), (wmWh qWh k aWh), (wmBb qBb k aBb), (wmBa qBa k aBa)] ++ List.flatten [(wMO qO k widthO manyO cellsO movedO tapeO linesO (qHa 0) (qBr 0) cartO (qWa 0) frostAtO actO isKeptO (qLn 0) (qBn 0) (qRw 0) (qMe 0) (qWh 0) (qDn 0) (qBb 0) (qBa 0) (qGb 0) (qCt 0) (qSm 0) (qCo 0) (qWb 0) deepAtO sagAtO loadAtO orderRowO oftenO lossOneO lossOtherO vO tO mO gO), (wmHa qHa k hHa), (wmWa qWa k jWa), (wmBn qBn k yBn), (wmLn qLn k aLn), (wmBr qBr k aBr), (wmRw qRw k rRw)]) sz)) 0 0 (va_A (List.flatten [(wmGb qGb k yGb), (wmCt qCt k aCt), (wmSm qSm k aSm), (wmCo qCo k aCo), (wmWb qWb k aWb), (wmDn qDn k uDn), (wmMe qMe k aMe), (wmWh qWh k aWh), (wmBb qBb k aBb), (wmBa qBa k aBa)] ++ List.flatten [(wMO qO k widthO manyO cellsO movedO tapeO linesO (qHa 0) (qBr 0) cartO (qWa 0) frostAtO actO isKeptO (qLn 0) (qBn 0) (qRw 0) (qMe 0) (qWh 0) (qDn 0) (qBb 0) (qBa 0) (qGb 0) (qCt 0) (qSm 0) (qCo 0) (qWb 0) deepAtO sagAtO loadAtO orderRowO oftenO lossOneO lossOtherO vO tO mO gO), (wmHa qHa k hHa), (wmWa qWa k jWa), (wmBn qBn k yBn), (wmLn qLn k aLn), (wmBr qBr k aBr), (wmRw qRw k rRw)]) sz) := by
  refine Met.ofW (cc := cX12_turn) (maxL := 5) (ret := none) (by decide) rfl ?_
  intro p e s m args below meth c s₁ B hml hv
  obtain ⟨rfl, hsz, hP, hK, hD0⟩ := hv
  have hx := B.exec
  have hb := B.bytes
  have hr := B.returns
  have hts := atoms_spec (ws := wk_c_X12_turn) B.pre
  have hown : s.vm.findClass RX12 = some m.cls := findClass_of_methodNamed B.named
  have hlocks := B.notSynchronized
  subst hsz
  have hD := hD0.self (sz := s.heap.size)
  generalize hAe : va_A (List.flatten [(wmGb qGb k yGb), (wmCt qCt k aCt), (wmSm qSm k aSm), (wmCo qCo k aCo), (wmWb qWb k aWb), (wmDn qDn k uDn), (wmMe qMe k aMe), (wmWh qWh k aWh), (wmBb qBb k aBb), (wmBa qBa k aBa)] ++ List.flatten [(wMO qO k widthO manyO cellsO movedO tapeO linesO (qHa 0) (qBr 0) cartO (qWa 0) frostAtO actO isKeptO (qLn 0) (qBn 0) (qRw 0) (qMe 0) (qWh 0) (qDn 0) (qBb 0) (qBa 0) (qGb 0) (qCt 0) (qSm 0) (qCo 0) (qWb 0) deepAtO sagAtO loadAtO orderRowO oftenO lossOneO lossOtherO vO tO mO gO), (wmHa qHa k hHa), (wmWa qWa k jWa), (wmBn qBn k yBn), (wmLn qLn k aLn), (wmBr qBr k aBr), (wmRw qRw k rRw)]) s.heap.size = A at hD ⊢
  have hA : ∀ q : Nat, s.heap.size ≤ q → A q := fun q h => by rw [← hAe]; exact Or.inr h
  have hS : va_S A s.heap s.heap [] := va_S.rf
  have hP : va_P (dC, dI) vwCl (List.flatten [(wmGb qGb k yGb), (wmCt qCt k aCt), (wmSm qSm k aSm), (wmCo qCo k aCo), (wmWb qWb k aWb), (wmDn qDn k uDn), (wmMe qMe k aMe), (wmWh qWh k aWh), (wmBb qBb k aBb), (wmBa qBa k aBa)] ++ List.flatten [(wMO qO k widthO manyO cellsO movedO tapeO linesO (qHa 0) (qBr 0) cartO (qWa 0) frostAtO actO isKeptO (qLn 0) (qBn 0) (qRw 0) (qMe 0) (qWh 0) (qDn 0) (qBb 0) (qBa 0) (qGb 0) (qCt 0) (qSm 0) (qCo 0) (qWb 0) deepAtO sagAtO loadAtO orderRowO oftenO lossOneO lossOtherO vO tO mO gO), (wmHa qHa k hHa), (wmWa qWa k jWa), (wmBn qBn k yBn), (wmLn qLn k aLn), (wmBr qBr k aBr), (wmRw qRw k rRw)]) s.heap := hP
  have hl := lv_entry ([.ref (qO 0), .int p1]) (n := 5) (Nat.le_of_ble_eq_true rfl)
  rw [lg_entry_eq]
  generalize (lg_sl ([.ref (qO 0), .int p1]) ++ List.replicate (5 - (lg_sl ([.ref (qO 0), .int p1])).length) Slot.unset).toArray = ls at hl ⊢
  have hl : lv_has ls 5 [(0, .ref (qO 0)), (1, .int p1)] := hl
  refine w_gen (fun Q hQ => ?_)
  refine lv_aload_n hx hb dX12_turn_0 rfl (lv_at hl 0 rfl) ?_
  refine va_get (D := (dC, dI)) (ci := 12) (v := .int (vO 9)) (C := RX12) (T := TX12) (N := 59) hx hb hts (fun w h => List.mem_cons_of_mem _ (List.mem_append_right _ (List.mem_append_left _ h))) hown hK hP 10 rfl rfl 25 (by decide) (hts (.fieldLink RX12 298 "SagMemoryModel" "frosts" "I") (wl_mem 0 rfl)) (fun _ h9 => h9) rfl dX12_turn_1 ?_
  refine lv_iload_n hx hb dX12_turn_4 rfl (lv_at hl 1 rfl) ?_
  have hPc : va_P (dC, dI) vwCl (List.flatten ([] : List va_W)) s.heap := fun k q h => by simp at h
  refine vp_callSi (va_Run.run (va_runS (As := [.int (vO 9), .int p1]) (rest := []) ⟨hx, hb, hml, hown, hts⟩ (c_X12_isBit l dC dI k (vO 9) p1) (va_cwS 2 hts (gk_S (wl_mem 1 rfl) (wl_mem 2 rfl) (wl_mem 3 rfl) (fun w h => List.mem_cons_of_mem _ (List.mem_append_right _ (List.mem_append_right _ (List.mem_append_left _ h)))) wkg_c_X12_isBit) rfl rfl rfl (by decide +kernel) ⟨Nat.le_of_ble_eq_true rfl, Nat.le_of_ble_eq_true rfl⟩) ⟨fun a U g mk q => by obtain ⟨q0, qP, qK⟩ := q; exact ⟨q0, qP, va_K.moved (u := U) (U := U.calling g mk a) (Vm.Alike.refl U.vm) qK⟩, fun U hU hW => ⟨rfl, by rw [hU]; exact hPc, va_K.moved hW.alike hK⟩⟩ rfl rfl hl.1 rfl (lv_room (Nat.le_of_ble_eq_true rfl)) dX12_turn_5 ⟨Nat.le_of_ble_eq_true rfl, Nat.le_of_ble_eq_true rfl⟩)) (fun rz2 gz1 => ?_)
  clear hPc
  have pz3 := gz1
  have pz3 : rz2.toInt = 0 ∨ rz2.toInt = 1 := pz3
  have ct15_kz15 : ∀ (H : Heap) (locs : List Loc) (ls : Array Slot) (uz12 : Nat → Nat → Int32) (az13 : Nat → Nat → Int32) (az14 : Nat → Nat → Int32), RuA T9 uz12 → va_P (dC, dI) vwCl (List.flatten [(wmGb qGb k yGb), (wmCt qCt k aCt), (wmSm qSm k aSm), (wmCo qCo k aCo), (wmWb qWb k aWb), (wmDn qDn k uz12), (wmMe qMe k az13), (wmWh qWh k az14), (wmBb qBb k aBb), (wmBa qBa k aBa)] ++ List.flatten [(wMO qO k widthO manyO cellsO movedO tapeO linesO (qHa 0) (qBr 0) cartO (qWa 0) frostAtO actO isKeptO (qLn 0) (qBn 0) (qRw 0) (qMe 0) (qWh 0) (qDn 0) (qBb 0) (qBa 0) (qGb 0) (qCt 0) (qSm 0) (qCo 0) (qWb 0) deepAtO sagAtO loadAtO orderRowO oftenO lossOneO lossOtherO vO tO mO gO), (wmHa qHa k hHa), (wmWa qWa k jWa), (wmBn qBn k yBn), (wmLn qLn k aLn), (wmBr qBr k aBr), (wmRw qRw k rRw)]) H → va_D A (List.flatten [(wmGb qGb k yGb), (wmCt qCt k aCt), (wmSm qSm k aSm), (wmCo qCo k aCo), (wmWb qWb k aWb), (wmDn qDn k uz12), (wmMe qMe k az13), (wmWh qWh k az14), (wmBb qBb k aBb), (wmBa qBa k aBa)] ++ List.flatten [(wMO qO k widthO manyO cellsO movedO tapeO linesO (qHa 0) (qBr 0) cartO (qWa 0) frostAtO actO isKeptO (qLn 0) (qBn 0) (qRw 0) (qMe 0) (qWh 0) (qDn 0) (qBb 0) (qBa 0) (qGb 0) (qCt 0) (qSm 0) (qCo 0) (qWb 0) deepAtO sagAtO loadAtO orderRowO oftenO lossOneO lossOtherO vO tO mO gO), (wmHa qHa k hHa), (wmWa qWa k jWa), (wmBn qBn k yBn), (wmLn qLn k aLn), (wmBr qBr k aBr), (wmRw qRw k rRw)]) → va_S A s.heap H locs → lv_has ls 5 [(0, .ref (qO 0)), (1, .int p1)] → W p l e (headSpec wk_c_X12_turn ({ frames := 2, cells := 0, slots := 0, locals := 47 })).room s m ([.ref (qO 0), .int p1] : List Value).toArray below meth c H locs 0 0 Q (F0 m 15 ls []) := by
    intro H locs ls uz12 az13 az14 huz12 hP hD hS hl
    refine lv_aload_n hx hb dX12_turn_15 rfl (lv_at hl 0 rfl) ?_
    refine va_get (D := (dC, dI)) (ci := 12) (v := .ref (qRw 0)) (C := RX12) (T := TX12) (N := 59) hx hb hts (fun w h => List.mem_cons_of_mem _ (List.mem_append_right _ (List.mem_append_left _ h))) hown hK hP 10 rfl rfl 29 (by decide) (hts (.fieldLink RX12 62 "SagMemoryModel" "row" "[I") (wl_mem 7 rfl)) (fun _ h9 => h9) rfl dX12_turn_16 ?_
    refine lv_iload_n hx hb dX12_turn_19 rfl (lv_at hl 1 rfl) ?_
    refine va_iald hx hb hK hP 16 0 rfl rfl (vp_in_iff.mpr ⟨by omega, by omega⟩) dX12_turn_20 ?_
    refine lv_topi (fun xz16 exz16 => ?_)
    have bxz16 : 0 ≤ xz16.toInt ∧ xz16.toInt ≤ 6 := by rw [exz16]; exact (hrRw 0) _
    refine lv_istore_n (lv' := [(2, .int xz16), (0, .ref (qO 0)), (1, .int p1)]) hx hb dX12_turn_21 rfl hl (by decide) rfl (fun ls hl => ?_)
    refine lv_aload_n hx hb dX12_turn_22 rfl (lv_at hl 1 rfl) ?_
    refine va_get (D := (dC, dI)) (ci := 12) (v := .ref (qGb 0)) (C := RX12) (T := TX12) (N := 59) hx hb hts (fun w h => List.mem_cons_of_mem _ (List.mem_append_right _ (List.mem_append_left _ h))) hown hK hP 10 rfl rfl 35 (by decide) (hts (.fieldLink RX12 80 "SagMemoryModel" "goesBy" "[I") (wl_mem 8 rfl)) (fun _ h9 => h9) rfl dX12_turn_23 ?_
    refine lv_iload_n hx hb dX12_turn_26 rfl (lv_at hl 0 rfl) ?_
    refine lv_iconst (v := (-1)) hx hb dX12_turn_27 (by decide) ?_
    refine va_iast hx hb hK hP hD hS 0 0 rfl rfl (vp_in_iff.mpr ⟨by omega, by omega⟩) dX12_turn_28 (fun H locs hP hD hS => ?_)
    obtain ⟨fz17, efz17, hP, hD⟩ : ∃ fz17 : Nat → Int32, fz17 = upd (yGb 0) xz16.toNatClampNeg (-1 : Int32) ∧ va_P (dC, dI) vwCl (List.flatten [(wmGb qGb k (va_up yGb 0 fz17)), (wmCt qCt k aCt), (wmSm qSm k aSm), (wmCo qCo k aCo), (wmWb qWb k aWb), (wmDn qDn k uz12), (wmMe qMe k az13), (wmWh qWh k az14), (wmBb qBb k aBb), (wmBa qBa k aBa)] ++ List.flatten [(wMO qO k widthO manyO cellsO movedO tapeO linesO (qHa 0) (qBr 0) cartO (qWa 0) frostAtO actO isKeptO (qLn 0) (qBn 0) (qRw 0) (qMe 0) (qWh 0) (qDn 0) (qBb 0) (qBa 0) (qGb 0) (qCt 0) (qSm 0) (qCo 0) (qWb 0) deepAtO sagAtO loadAtO orderRowO oftenO lossOneO lossOtherO vO tO mO gO), (wmHa qHa k hHa), (wmWa qWa k jWa), (wmBn qBn k yBn), (wmLn qLn k aLn), (wmBr qBr k aBr), (wmRw qRw k rRw)]) H ∧ va_D A (List.flatten [(wmGb qGb k (va_up yGb 0 fz17)), (wmCt qCt k aCt), (wmSm qSm k aSm), (wmCo qCo k aCo), (wmWb qWb k aWb), (wmDn qDn k uz12), (wmMe qMe k az13), (wmWh qWh k az14), (wmBb qBb k aBb), (wmBa qBa k aBa)] ++ List.flatten [(wMO qO k widthO manyO cellsO movedO tapeO linesO (qHa 0) (qBr 0) cartO (qWa 0) frostAtO actO isKeptO (qLn 0) (qBn 0) (qRw 0) (qMe 0) (qWh 0) (qDn 0) (qBb 0) (qBa 0) (qGb 0) (qCt 0) (qSm 0) (qCo 0) (qWb 0) deepAtO sagAtO loadAtO orderRowO oftenO lossOneO lossOtherO vO tO mO gO), (wmHa qHa k hHa), (wmWa qWa k jWa), (wmBn qBn k yBn), (wmLn qLn k aLn), (wmBr qBr k aBr), (wmRw qRw k rRw)]) := ⟨_, rfl, hP, hD⟩
    have hfz17 : Rg (-1) 2 fz17 := by rw [efz17]; exact rg_upd (hyGb 0) (by show (-1) ≤ (-1 : Int) ∧ (-1 : Int) ≤ 2; omega)
    have kfz17 : fz17 xz16.toNatClampNeg = (-1 : Int32) := by rw [efz17]; exact pk_us
    refine lv_aload_n hx hb dX12_turn_29 rfl (lv_at hl 1 rfl) ?_
    refine va_get (D := (dC, dI)) (ci := 12) (v := .ref (qCt 0)) (C := RX12) (T := TX12) (N := 59) hx hb hts (fun w h => List.mem_cons_of_mem _ (List.mem_append_right _ (List.mem_append_left _ h))) hown hK hP 10 rfl rfl 36 (by decide) (hts (.fieldLink RX12 83 "SagMemoryModel" "comesTo" "[I") (wl_mem 9 rfl)) (fun _ h9 => h9) rfl dX12_turn_30 ?_
    refine lv_iload_n hx hb dX12_turn_33 rfl (lv_at hl 0 rfl) ?_
    refine lv_iconst (v := (-1)) hx hb dX12_turn_34 (by decide) ?_
    refine va_iast hx hb hK hP hD hS 1 0 rfl rfl (vp_in_iff.mpr ⟨by omega, by omega⟩) dX12_turn_35 (fun H locs hP hD hS => ?_)
    obtain ⟨fz18, efz18, hP, hD⟩ : ∃ fz18 : Nat → Int32, fz18 = upd (aCt 0) xz16.toNatClampNeg (-1 : Int32) ∧ va_P (dC, dI) vwCl (List.flatten [(wmGb qGb k (va_up yGb 0 fz17)), (wmCt qCt k (va_up aCt 0 fz18)), (wmSm qSm k aSm), (wmCo qCo k aCo), (wmWb qWb k aWb), (wmDn qDn k uz12), (wmMe qMe k az13), (wmWh qWh k az14), (wmBb qBb k aBb), (wmBa qBa k aBa)] ++ List.flatten [(wMO qO k widthO manyO cellsO movedO tapeO linesO (qHa 0) (qBr 0) cartO (qWa 0) frostAtO actO isKeptO (qLn 0) (qBn 0) (qRw 0) (qMe 0) (qWh 0) (qDn 0) (qBb 0) (qBa 0) (qGb 0) (qCt 0) (qSm 0) (qCo 0) (qWb 0) deepAtO sagAtO loadAtO orderRowO oftenO lossOneO lossOtherO vO tO mO gO), (wmHa qHa k hHa), (wmWa qWa k jWa), (wmBn qBn k yBn), (wmLn qLn k aLn), (wmBr qBr k aBr), (wmRw qRw k rRw)]) H ∧ va_D A (List.flatten [(wmGb qGb k (va_up yGb 0 fz17)), (wmCt qCt k (va_up aCt 0 fz18)), (wmSm qSm k aSm), (wmCo qCo k aCo), (wmWb qWb k aWb), (wmDn qDn k uz12), (wmMe qMe k az13), (wmWh qWh k az14), (wmBb qBb k aBb), (wmBa qBa k aBa)] ++ List.flatten [(wMO qO k widthO manyO cellsO movedO tapeO linesO (qHa 0) (qBr 0) cartO (qWa 0) frostAtO actO isKeptO (qLn 0) (qBn 0) (qRw 0) (qMe 0) (qWh 0) (qDn 0) (qBb 0) (qBa 0) (qGb 0) (qCt 0) (qSm 0) (qCo 0) (qWb 0) deepAtO sagAtO loadAtO orderRowO oftenO lossOneO lossOtherO vO tO mO gO), (wmHa qHa k hHa), (wmWa qWa k jWa), (wmBn qBn k yBn), (wmLn qLn k aLn), (wmBr qBr k aBr), (wmRw qRw k rRw)]) := ⟨_, rfl, hP, hD⟩
    have kfz18 : fz18 xz16.toNatClampNeg = (-1 : Int32) := by rw [efz18]; exact pk_us
    refine lv_aload_n hx hb dX12_turn_36 rfl (lv_at hl 1 rfl) ?_
    refine va_get (D := (dC, dI)) (ci := 12) (v := .ref (qSm 0)) (C := RX12) (T := TX12) (N := 59) hx hb hts (fun w h => List.mem_cons_of_mem _ (List.mem_append_right _ (List.mem_append_left _ h))) hown hK hP 10 rfl rfl 37 (by decide) (hts (.fieldLink RX12 86 "SagMemoryModel" "sagMore" "[I") (wl_mem 10 rfl)) (fun _ h9 => h9) rfl dX12_turn_37 ?_
    refine lv_iload_n hx hb dX12_turn_40 rfl (lv_at hl 0 rfl) ?_
    refine lv_iconst (v := 0) hx hb dX12_turn_41 (by decide) ?_
    refine va_iast hx hb hK hP hD hS 2 0 rfl rfl (vp_in_iff.mpr ⟨by omega, by omega⟩) dX12_turn_42 (fun H locs hP hD hS => ?_)
    obtain ⟨fz19, efz19, hP, hD⟩ : ∃ fz19 : Nat → Int32, fz19 = upd (aSm 0) xz16.toNatClampNeg (0 : Int32) ∧ va_P (dC, dI) vwCl (List.flatten [(wmGb qGb k (va_up yGb 0 fz17)), (wmCt qCt k (va_up aCt 0 fz18)), (wmSm qSm k (va_up aSm 0 fz19)), (wmCo qCo k aCo), (wmWb qWb k aWb), (wmDn qDn k uz12), (wmMe qMe k az13), (wmWh qWh k az14), (wmBb qBb k aBb), (wmBa qBa k aBa)] ++ List.flatten [(wMO qO k widthO manyO cellsO movedO tapeO linesO (qHa 0) (qBr 0) cartO (qWa 0) frostAtO actO isKeptO (qLn 0) (qBn 0) (qRw 0) (qMe 0) (qWh 0) (qDn 0) (qBb 0) (qBa 0) (qGb 0) (qCt 0) (qSm 0) (qCo 0) (qWb 0) deepAtO sagAtO loadAtO orderRowO oftenO lossOneO lossOtherO vO tO mO gO), (wmHa qHa k hHa), (wmWa qWa k jWa), (wmBn qBn k yBn), (wmLn qLn k aLn), (wmBr qBr k aBr), (wmRw qRw k rRw)]) H ∧ va_D A (List.flatten [(wmGb qGb k (va_up yGb 0 fz17)), (wmCt qCt k (va_up aCt 0 fz18)), (wmSm qSm k (va_up aSm 0 fz19)), (wmCo qCo k aCo), (wmWb qWb k aWb), (wmDn qDn k uz12), (wmMe qMe k az13), (wmWh qWh k az14), (wmBb qBb k aBb), (wmBa qBa k aBa)] ++ List.flatten [(wMO qO k widthO manyO cellsO movedO tapeO linesO (qHa 0) (qBr 0) cartO (qWa 0) frostAtO actO isKeptO (qLn 0) (qBn 0) (qRw 0) (qMe 0) (qWh 0) (qDn 0) (qBb 0) (qBa 0) (qGb 0) (qCt 0) (qSm 0) (qCo 0) (qWb 0) deepAtO sagAtO loadAtO orderRowO oftenO lossOneO lossOtherO vO tO mO gO), (wmHa qHa k hHa), (wmWa qWa k jWa), (wmBn qBn k yBn), (wmLn qLn k aLn), (wmBr qBr k aBr), (wmRw qRw k rRw)]) := ⟨_, rfl, hP, hD⟩
    have kfz19 : fz19 xz16.toNatClampNeg = (0 : Int32) := by rw [efz19]; exact pk_us
    refine lv_aload_n hx hb dX12_turn_43 rfl (lv_at hl 1 rfl) ?_
    refine va_get (D := (dC, dI)) (ci := 12) (v := .ref (qCo 0)) (C := RX12) (T := TX12) (N := 59) hx hb hts (fun w h => List.mem_cons_of_mem _ (List.mem_append_right _ (List.mem_append_left _ h))) hown hK hP 10 rfl rfl 38 (by decide) (hts (.fieldLink RX12 89 "SagMemoryModel" "creakOf" "[I") (wl_mem 11 rfl)) (fun _ h9 => h9) rfl dX12_turn_44 ?_
    refine lv_iload_n hx hb dX12_turn_47 rfl (lv_at hl 0 rfl) ?_
    refine lv_iconst (v := 0) hx hb dX12_turn_48 (by decide) ?_
    refine va_iast hx hb hK hP hD hS 3 0 rfl rfl (vp_in_iff.mpr ⟨by omega, by omega⟩) dX12_turn_49 (fun H locs hP hD hS => ?_)
    obtain ⟨fz20, efz20, hP, hD⟩ : ∃ fz20 : Nat → Int32, fz20 = upd (aCo 0) xz16.toNatClampNeg (0 : Int32) ∧ va_P (dC, dI) vwCl (List.flatten [(wmGb qGb k (va_up yGb 0 fz17)), (wmCt qCt k (va_up aCt 0 fz18)), (wmSm qSm k (va_up aSm 0 fz19)), (wmCo qCo k (va_up aCo 0 fz20)), (wmWb qWb k aWb), (wmDn qDn k uz12), (wmMe qMe k az13), (wmWh qWh k az14), (wmBb qBb k aBb), (wmBa qBa k aBa)] ++ List.flatten [(wMO qO k widthO manyO cellsO movedO tapeO linesO (qHa 0) (qBr 0) cartO (qWa 0) frostAtO actO isKeptO (qLn 0) (qBn 0) (qRw 0) (qMe 0) (qWh 0) (qDn 0) (qBb 0) (qBa 0) (qGb 0) (qCt 0) (qSm 0) (qCo 0) (qWb 0) deepAtO sagAtO loadAtO orderRowO oftenO lossOneO lossOtherO vO tO mO gO), (wmHa qHa k hHa), (wmWa qWa k jWa), (wmBn qBn k yBn), (wmLn qLn k aLn), (wmBr qBr k aBr), (wmRw qRw k rRw)]) H ∧ va_D A (List.flatten [(wmGb qGb k (va_up yGb 0 fz17)), (wmCt qCt k (va_up aCt 0 fz18)), (wmSm qSm k (va_up aSm 0 fz19)), (wmCo qCo k (va_up aCo 0 fz20)), (wmWb qWb k aWb), (wmDn qDn k uz12), (wmMe qMe k az13), (wmWh qWh k az14), (wmBb qBb k aBb), (wmBa qBa k aBa)] ++ List.flatten [(wMO qO k widthO manyO cellsO movedO tapeO linesO (qHa 0) (qBr 0) cartO (qWa 0) frostAtO actO isKeptO (qLn 0) (qBn 0) (qRw 0) (qMe 0) (qWh 0) (qDn 0) (qBb 0) (qBa 0) (qGb 0) (qCt 0) (qSm 0) (qCo 0) (qWb 0) deepAtO sagAtO loadAtO orderRowO oftenO lossOneO lossOtherO vO tO mO gO), (wmHa qHa k hHa), (wmWa qWa k jWa), (wmBn qBn k yBn), (wmLn qLn k aLn), (wmBr qBr k aBr), (wmRw qRw k rRw)]) := ⟨_, rfl, hP, hD⟩
    have kfz20 : fz20 xz16.toNatClampNeg = (0 : Int32) := by rw [efz20]; exact pk_us
    refine lv_aload_n hx hb dX12_turn_50 rfl (lv_at hl 1 rfl) ?_
    refine va_get (D := (dC, dI)) (ci := 12) (v := .ref (qWb 0)) (C := RX12) (T := TX12) (N := 59) hx hb hts (fun w h => List.mem_cons_of_mem _ (List.mem_append_right _ (List.mem_append_left _ h))) hown hK hP 10 rfl rfl 39 (by decide) (hts (.fieldLink RX12 92 "SagMemoryModel" "wipedBy" "[I") (wl_mem 12 rfl)) (fun _ h9 => h9) rfl dX12_turn_51 ?_
    refine lv_iload_n hx hb dX12_turn_54 rfl (lv_at hl 0 rfl) ?_
    refine lv_iconst (v := 0) hx hb dX12_turn_55 (by decide) ?_
    refine va_iast hx hb hK hP hD hS 4 0 rfl rfl (vp_in_iff.mpr ⟨by omega, by omega⟩) dX12_turn_56 (fun H locs hP hD hS => ?_)
    obtain ⟨fz21, efz21, hP, hD⟩ : ∃ fz21 : Nat → Int32, fz21 = upd (aWb 0) xz16.toNatClampNeg (0 : Int32) ∧ va_P (dC, dI) vwCl (List.flatten [(wmGb qGb k (va_up yGb 0 fz17)), (wmCt qCt k (va_up aCt 0 fz18)), (wmSm qSm k (va_up aSm 0 fz19)), (wmCo qCo k (va_up aCo 0 fz20)), (wmWb qWb k (va_up aWb 0 fz21)), (wmDn qDn k uz12), (wmMe qMe k az13), (wmWh qWh k az14), (wmBb qBb k aBb), (wmBa qBa k aBa)] ++ List.flatten [(wMO qO k widthO manyO cellsO movedO tapeO linesO (qHa 0) (qBr 0) cartO (qWa 0) frostAtO actO isKeptO (qLn 0) (qBn 0) (qRw 0) (qMe 0) (qWh 0) (qDn 0) (qBb 0) (qBa 0) (qGb 0) (qCt 0) (qSm 0) (qCo 0) (qWb 0) deepAtO sagAtO loadAtO orderRowO oftenO lossOneO lossOtherO vO tO mO gO), (wmHa qHa k hHa), (wmWa qWa k jWa), (wmBn qBn k yBn), (wmLn qLn k aLn), (wmBr qBr k aBr), (wmRw qRw k rRw)]) H ∧ va_D A (List.flatten [(wmGb qGb k (va_up yGb 0 fz17)), (wmCt qCt k (va_up aCt 0 fz18)), (wmSm qSm k (va_up aSm 0 fz19)), (wmCo qCo k (va_up aCo 0 fz20)), (wmWb qWb k (va_up aWb 0 fz21)), (wmDn qDn k uz12), (wmMe qMe k az13), (wmWh qWh k az14), (wmBb qBb k aBb), (wmBa qBa k aBa)] ++ List.flatten [(wMO qO k widthO manyO cellsO movedO tapeO linesO (qHa 0) (qBr 0) cartO (qWa 0) frostAtO actO isKeptO (qLn 0) (qBn 0) (qRw 0) (qMe 0) (qWh 0) (qDn 0) (qBb 0) (qBa 0) (qGb 0) (qCt 0) (qSm 0) (qCo 0) (qWb 0) deepAtO sagAtO loadAtO orderRowO oftenO lossOneO lossOtherO vO tO mO gO), (wmHa qHa k hHa), (wmWa qWa k jWa), (wmBn qBn k yBn), (wmLn qLn k aLn), (wmBr qBr k aBr), (wmRw qRw k rRw)]) := ⟨_, rfl, hP, hD⟩
    have kfz21 : fz21 xz16.toNatClampNeg = (0 : Int32) := by rw [efz21]; exact pk_us
    refine lv_aload_n hx hb dX12_turn_57 rfl (lv_at hl 1 rfl) ?_
    refine va_get (D := (dC, dI)) (ci := 12) (v := .int (vO 10)) (C := RX12) (T := TX12) (N := 59) hx hb hts (fun w h => List.mem_cons_of_mem _ (List.mem_append_right _ (List.mem_append_left _ h))) hown hK hP 10 rfl rfl 26 (by decide) (hts (.fieldLink RX12 301 "SagMemoryModel" "absent" "I") (wl_mem 13 rfl)) (fun _ h9 => h9) rfl dX12_turn_58 ?_
    refine lv_iload_n hx hb dX12_turn_61 rfl (lv_at hl 0 rfl) ?_
    have hPc : va_P (dC, dI) vwCl (List.flatten ([] : List va_W)) H := fun k q h => by simp at h
    refine vp_callSi (va_Run.run (va_runS (As := [.int (vO 10), .int xz16]) (rest := []) ⟨hx, hb, hml, hown, hts⟩ (c_X12_isBit l dC dI k (vO 10) xz16) (va_cwS 2 hts (gk_S (wl_mem 1 rfl) (wl_mem 2 rfl) (wl_mem 3 rfl) (fun w h => List.mem_cons_of_mem _ (List.mem_append_right _ (List.mem_append_right _ (List.mem_append_left _ h)))) wkg_c_X12_isBit) rfl rfl rfl (by decide +kernel) ⟨Nat.le_of_ble_eq_true rfl, Nat.le_of_ble_eq_true rfl⟩) ⟨fun a U g mk q => by obtain ⟨q0, qP, qK⟩ := q; exact ⟨q0, qP, va_K.moved (u := U) (U := U.calling g mk a) (Vm.Alike.refl U.vm) qK⟩, fun U hU hW => ⟨rfl, by rw [hU]; exact hPc, va_K.moved hW.alike hK⟩⟩ rfl rfl hl.1 rfl (lv_room (Nat.le_of_ble_eq_true rfl)) dX12_turn_62 ⟨Nat.le_of_ble_eq_true rfl, Nat.le_of_ble_eq_true rfl⟩)) (fun rz23 gz22 => ?_)
    clear hPc
    have pz24 := gz22
    have pz24 : rz23.toInt = 0 ∨ rz23.toInt = 1 := pz24
    refine lv_if_eq (tgt := 69) hx hb dX12_turn_65 (by decide) (fun cz25 => ?_) (fun cz25 => ?_)
    · skip
      have zz26 : rz23.toInt = (0 : Int) := zi_eq.mp cz25
      refine lv_aload_n hx hb dX12_turn_69 rfl (lv_at hl 1 rfl) ?_
      refine lv_iload_n hx hb dX12_turn_70 rfl (lv_at hl 0 rfl) ?_
      have hPc := hP.sub (ws' := (List.flatten [(wMO qO k widthO manyO cellsO movedO tapeO linesO (qHa 0) (qBr 0) cartO (qWa 0) frostAtO actO isKeptO (qLn 0) (qBn 0) (qRw 0) (qMe 0) (qWh 0) (qDn 0) (qBb 0) (qBa 0) (qGb 0) (qCt 0) (qSm 0) (qCo 0) (qWb 0) deepAtO sagAtO loadAtO orderRowO oftenO lossOneO lossOtherO vO tO mO gO), (wmHa qHa k hHa), (wmWa qWa k jWa), (wmBn qBn k yBn), (wmLn qLn k aLn)])) [10, 11, 12, 13, 14] rfl
      refine vp_callSi (va_Run.run (va_runV (As := [.int xz16]) (rest := []) ⟨hx, hb, hml, hown, hts⟩ (c_X12_wayOf l dC dI k qO widthO manyO cellsO movedO tapeO linesO (qBr 0) cartO frostAtO actO isKeptO (qRw 0) (qMe 0) (qWh 0) (qDn 0) (qBb 0) (qBa 0) (qGb 0) (qCt 0) (qSm 0) (qCo 0) (qWb 0) deepAtO sagAtO loadAtO orderRowO oftenO lossOneO lossOtherO vO tO mO gO qHa hHa qWa jWa qBn yBn qLn aLn xz16 htO hmO hhHa hjWa hyBn (by show 0 ≤ xz16.toInt ∧ xz16.toInt ≤ 6; omega)) (cwV 1 hts (gk_V (wl_mem 14 rfl) (wl_mem 15 rfl) (wl_mem 16 rfl) (wl_mem 3 rfl) (fun w h => List.mem_cons_of_mem _ (List.mem_append_right _ (List.mem_append_right _ (List.mem_append_right _ (List.mem_append_right _ (List.mem_append_left _ h)))))) wkg_c_X12_wayOf) rfl rfl rfl (by decide +kernel) ⟨Nat.le_of_ble_eq_true rfl, Nat.le_of_ble_eq_true rfl⟩) ⟨fun a U g mk q => by obtain ⟨q0, qP, qK⟩ := q; exact ⟨q0, qP, va_K.moved (u := U) (U := U.calling g mk a) (Vm.Alike.refl U.vm) qK⟩, va_recv hK hPc (ci := 12) (q0 := 0) rfl rfl, fun U hU hW => ⟨rfl, by rw [hU]; exact hPc, va_K.moved hW.alike hK⟩⟩ rfl rfl hl.1 rfl (lv_room (Nat.le_of_ble_eq_true rfl)) dX12_turn_71 ⟨Nat.le_of_ble_eq_true rfl, Nat.le_of_ble_eq_true rfl⟩)) (fun rz28 gz27 => ?_)
      clear hPc
      have pz29 := gz27
      have pz29 : (-1) ≤ rz28.toInt ∧ rz28.toInt ≤ 2 := pz29
      refine lv_istore_n (lv' := [(3, .int rz28), (2, .int xz16), (0, .ref (qO 0)), (1, .int p1)]) hx hb dX12_turn_74 rfl hl (by decide) rfl (fun ls hl => ?_)
      refine lv_aload_n hx hb dX12_turn_75 rfl (lv_at hl 2 rfl) ?_
      refine va_get (D := (dC, dI)) (ci := 12) (v := .ref (qCt 0)) (C := RX12) (T := TX12) (N := 59) hx hb hts (fun w h => List.mem_cons_of_mem _ (List.mem_append_right _ (List.mem_append_left _ h))) hown hK hP 10 rfl rfl 36 (by decide) (hts (.fieldLink RX12 83 "SagMemoryModel" "comesTo" "[I") (wl_mem 9 rfl)) (fun _ h9 => h9) rfl dX12_turn_76 ?_
      refine lv_iload_n hx hb dX12_turn_79 rfl (lv_at hl 1 rfl) ?_
      refine lv_iload_n hx hb dX12_turn_80 rfl (lv_at hl 0 rfl) ?_
      refine va_iast hx hb hK hP hD hS 1 0 rfl rfl (vp_in_iff.mpr ⟨by omega, by omega⟩) dX12_turn_81 (fun H locs hP hD hS => ?_)
      obtain ⟨fz30, efz30, hP, hD⟩ : ∃ fz30 : Nat → Int32, fz30 = upd fz18 xz16.toNatClampNeg rz28 ∧ va_P (dC, dI) vwCl (List.flatten [(wmGb qGb k (va_up yGb 0 fz17)), (wmCt qCt k (va_up aCt 0 fz30)), (wmSm qSm k (va_up aSm 0 fz19)), (wmCo qCo k (va_up aCo 0 fz20)), (wmWb qWb k (va_up aWb 0 fz21)), (wmDn qDn k uz12), (wmMe qMe k az13), (wmWh qWh k az14), (wmBb qBb k aBb), (wmBa qBa k aBa)] ++ List.flatten [(wMO qO k widthO manyO cellsO movedO tapeO linesO (qHa 0) (qBr 0) cartO (qWa 0) frostAtO actO isKeptO (qLn 0) (qBn 0) (qRw 0) (qMe 0) (qWh 0) (qDn 0) (qBb 0) (qBa 0) (qGb 0) (qCt 0) (qSm 0) (qCo 0) (qWb 0) deepAtO sagAtO loadAtO orderRowO oftenO lossOneO lossOtherO vO tO mO gO), (wmHa qHa k hHa), (wmWa qWa k jWa), (wmBn qBn k yBn), (wmLn qLn k aLn), (wmBr qBr k aBr), (wmRw qRw k rRw)]) H ∧ va_D A (List.flatten [(wmGb qGb k (va_up yGb 0 fz17)), (wmCt qCt k (va_up aCt 0 fz30)), (wmSm qSm k (va_up aSm 0 fz19)), (wmCo qCo k (va_up aCo 0 fz20)), (wmWb qWb k (va_up aWb 0 fz21)), (wmDn qDn k uz12), (wmMe qMe k az13), (wmWh qWh k az14), (wmBb qBb k aBb), (wmBa qBa k aBa)] ++ List.flatten [(wMO qO k widthO manyO cellsO movedO tapeO linesO (qHa 0) (qBr 0) cartO (qWa 0) frostAtO actO isKeptO (qLn 0) (qBn 0) (qRw 0) (qMe 0) (qWh 0) (qDn 0) (qBb 0) (qBa 0) (qGb 0) (qCt 0) (qSm 0) (qCo 0) (qWb 0) deepAtO sagAtO loadAtO orderRowO oftenO lossOneO lossOtherO vO tO mO gO), (wmHa qHa k hHa), (wmWa qWa k jWa), (wmBn qBn k yBn), (wmLn qLn k aLn), (wmBr qBr k aBr), (wmRw qRw k rRw)]) := ⟨_, rfl, hP, hD⟩
      have kfz30 : fz30 xz16.toNatClampNeg = rz28 := by rw [efz30]; exact pk_us
      refine lv_iload_n hx hb dX12_turn_82 rfl (lv_at hl 0 rfl) ?_
      refine lv_iconst (v := (-1)) hx hb dX12_turn_83 (by decide) ?_
      refine lv_icmp_eq (tgt := 97) hx hb dX12_turn_84 (by decide) (fun cz31 => ?_) (fun cz31 => ?_)
      · skip
        have zz32 : rz28.toInt = (-1 : Int) := zi_eq.mp cz31
        rw [hQ]
        exact W.vret hx hb hr (fun t ht hW => ⟨⟨(), rfl, trivial, (va_up yGb 0 fz17), (va_up aCt 0 fz30), (va_up aSm 0 fz19), (va_up aCo 0 fz20), (va_up aWb 0 fz21), uz12, az13, az14, aBb, aBa, (rga_up hyGb hfz17), (ru_wk huz12 (by show (T9 : Int) ≤ T9 + 1; omega)), by rw [ht]; exact hP⟩, hS.F ht⟩) hS.2.2 dX12_turn_97
      · skip
        have zz33 : ¬ rz28.toInt = (-1 : Int) := fun h9 => cz31 (zi_eq.mpr h9)
        refine lv_aload_n hx hb dX12_turn_87 rfl (lv_at hl 2 rfl) ?_
        refine va_get (D := (dC, dI)) (ci := 12) (v := .ref (qBb 0)) (C := RX12) (T := TX12) (N := 59) hx hb hts (fun w h => List.mem_cons_of_mem _ (List.mem_append_right _ (List.mem_append_left _ h))) hown hK hP 10 rfl rfl 33 (by decide) (hts (.fieldLink RX12 74 "SagMemoryModel" "brokenBy" "[I") (wl_mem 17 rfl)) (fun _ h9 => h9) rfl dX12_turn_88 ?_
        refine lv_iload_n hx hb dX12_turn_91 rfl (lv_at hl 0 rfl) ?_
        refine va_iald hx hb hK hP 8 0 rfl rfl (vp_in_iff.mpr ⟨by omega, by omega⟩) dX12_turn_92 ?_
        refine lv_topi (fun xz34 exz34 => ?_)
        refine lv_iconst (v := (-1)) hx hb dX12_turn_93 (by decide) ?_
        refine lv_icmp_eq (tgt := 98) hx hb dX12_turn_94 (by decide) (fun cz35 => ?_) (fun cz35 => ?_)
        · skip
          have zz36 : xz34.toInt = (-1 : Int) := zi_eq.mp cz35
          refine lv_aload_n hx hb dX12_turn_98 rfl (lv_at hl 2 rfl) ?_
          refine va_get (D := (dC, dI)) (ci := 12) (v := .ref (qGb 0)) (C := RX12) (T := TX12) (N := 59) hx hb hts (fun w h => List.mem_cons_of_mem _ (List.mem_append_right _ (List.mem_append_left _ h))) hown hK hP 10 rfl rfl 35 (by decide) (hts (.fieldLink RX12 80 "SagMemoryModel" "goesBy" "[I") (wl_mem 8 rfl)) (fun _ h9 => h9) rfl dX12_turn_99 ?_
          refine lv_iload_n hx hb dX12_turn_102 rfl (lv_at hl 1 rfl) ?_
          refine lv_iload_n hx hb dX12_turn_103 rfl (lv_at hl 0 rfl) ?_
          refine va_iast hx hb hK hP hD hS 0 0 rfl rfl (vp_in_iff.mpr ⟨by omega, by omega⟩) dX12_turn_104 (fun H locs hP hD hS => ?_)
          obtain ⟨fz37, efz37, hP, hD⟩ : ∃ fz37 : Nat → Int32, fz37 = upd fz17 xz16.toNatClampNeg rz28 ∧ va_P (dC, dI) vwCl (List.flatten [(wmGb qGb k (va_up yGb 0 fz37)), (wmCt qCt k (va_up aCt 0 fz30)), (wmSm qSm k (va_up aSm 0 fz19)), (wmCo qCo k (va_up aCo 0 fz20)), (wmWb qWb k (va_up aWb 0 fz21)), (wmDn qDn k uz12), (wmMe qMe k az13), (wmWh qWh k az14), (wmBb qBb k aBb), (wmBa qBa k aBa)] ++ List.flatten [(wMO qO k widthO manyO cellsO movedO tapeO linesO (qHa 0) (qBr 0) cartO (qWa 0) frostAtO actO isKeptO (qLn 0) (qBn 0) (qRw 0) (qMe 0) (qWh 0) (qDn 0) (qBb 0) (qBa 0) (qGb 0) (qCt 0) (qSm 0) (qCo 0) (qWb 0) deepAtO sagAtO loadAtO orderRowO oftenO lossOneO lossOtherO vO tO mO gO), (wmHa qHa k hHa), (wmWa qWa k jWa), (wmBn qBn k yBn), (wmLn qLn k aLn), (wmBr qBr k aBr), (wmRw qRw k rRw)]) H ∧ va_D A (List.flatten [(wmGb qGb k (va_up yGb 0 fz37)), (wmCt qCt k (va_up aCt 0 fz30)), (wmSm qSm k (va_up aSm 0 fz19)), (wmCo qCo k (va_up aCo 0 fz20)), (wmWb qWb k (va_up aWb 0 fz21)), (wmDn qDn k uz12), (wmMe qMe k az13), (wmWh qWh k az14), (wmBb qBb k aBb), (wmBa qBa k aBa)] ++ List.flatten [(wMO qO k widthO manyO cellsO movedO tapeO linesO (qHa 0) (qBr 0) cartO (qWa 0) frostAtO actO isKeptO (qLn 0) (qBn 0) (qRw 0) (qMe 0) (qWh 0) (qDn 0) (qBb 0) (qBa 0) (qGb 0) (qCt 0) (qSm 0) (qCo 0) (qWb 0) deepAtO sagAtO loadAtO orderRowO oftenO lossOneO lossOtherO vO tO mO gO), (wmHa qHa k hHa), (wmWa qWa k jWa), (wmBn qBn k yBn), (wmLn qLn k aLn), (wmBr qBr k aBr), (wmRw qRw k rRw)]) := ⟨_, rfl, hP, hD⟩
          have hfz37 : Rg (-1) 2 fz37 := by rw [efz37]; exact rg_upd hfz17 (by show (-1) ≤ rz28.toInt ∧ rz28.toInt ≤ 2; omega)
          have kfz37 : fz37 xz16.toNatClampNeg = rz28 := by rw [efz37]; exact pk_us
          refine lv_aload_n hx hb dX12_turn_105 rfl (lv_at hl 2 rfl) ?_
          refine lv_iload_n hx hb dX12_turn_106 rfl (lv_at hl 0 rfl) ?_
          have hPc := hP.sub (ws' := (List.flatten [(wMO qO k widthO manyO cellsO movedO tapeO linesO (qHa 0) (qBr 0) cartO (qWa 0) frostAtO actO isKeptO (qLn 0) (qBn 0) (qRw 0) (qMe 0) (qWh 0) (qDn 0) (qBb 0) (qBa 0) (qGb 0) (qCt 0) (qSm 0) (qCo 0) (qWb 0) deepAtO sagAtO loadAtO orderRowO oftenO lossOneO lossOtherO vO tO mO gO), (wmDn qDn k uz12), (wmMe qMe k az13)])) [10, 5, 6] rfl
          refine vp_callSi (va_Run.run (va_runV (As := [.int rz28]) (rest := []) ⟨hx, hb, hml, hown, hts⟩ (c_X12_sagOf l dC dI k qO widthO manyO cellsO movedO tapeO linesO (qHa 0) (qBr 0) cartO (qWa 0) frostAtO actO isKeptO (qLn 0) (qBn 0) (qRw 0) (qWh 0) (qBb 0) (qBa 0) (qGb 0) (qCt 0) (qSm 0) (qCo 0) (qWb 0) deepAtO sagAtO loadAtO orderRowO oftenO lossOneO lossOtherO vO tO mO gO qDn uz12 qMe az13 rz28 htO hmO (ru_wk huz12 (by show (T9 : Int) ≤ 8; omega)) (by show 0 ≤ rz28.toInt ∧ rz28.toInt ≤ 2; omega)) (cwV 1 hts (gk_V (wl_mem 18 rfl) (wl_mem 19 rfl) (wl_mem 20 rfl) (wl_mem 3 rfl) (fun w h => List.mem_cons_of_mem _ (List.mem_append_right _ (List.mem_append_right _ (List.mem_append_right _ (List.mem_append_right _ (List.mem_append_right _ (List.mem_append_left _ h))))))) wkg_c_X12_sagOf) rfl rfl rfl (by decide +kernel) ⟨Nat.le_of_ble_eq_true rfl, Nat.le_of_ble_eq_true rfl⟩) ⟨fun a U g mk q => by obtain ⟨q0, qP, qK⟩ := q; exact ⟨q0, qP, va_K.moved (u := U) (U := U.calling g mk a) (Vm.Alike.refl U.vm) qK⟩, va_recv hK hPc (ci := 12) (q0 := 0) rfl rfl, fun U hU hW => ⟨rfl, by rw [hU]; exact hPc, va_K.moved hW.alike hK⟩⟩ rfl rfl hl.1 rfl (lv_room (Nat.le_of_ble_eq_true rfl)) dX12_turn_107 ⟨Nat.le_of_ble_eq_true rfl, Nat.le_of_ble_eq_true rfl⟩)) (fun rz39 gz38 => ?_)
          clear hPc
          refine lv_istore (lv' := [(4, .int rz39), (3, .int rz28), (2, .int xz16), (0, .ref (qO 0)), (1, .int p1)]) hx hb dX12_turn_110 hl (by decide) rfl (fun ls hl => ?_)
          refine lv_aload_n hx hb dX12_turn_112 rfl (lv_at hl 3 rfl) ?_
          refine va_get (D := (dC, dI)) (ci := 12) (v := .ref (qCo 0)) (C := RX12) (T := TX12) (N := 59) hx hb hts (fun w h => List.mem_cons_of_mem _ (List.mem_append_right _ (List.mem_append_left _ h))) hown hK hP 10 rfl rfl 38 (by decide) (hts (.fieldLink RX12 89 "SagMemoryModel" "creakOf" "[I") (wl_mem 11 rfl)) (fun _ h9 => h9) rfl dX12_turn_113 ?_
          refine lv_iload_n hx hb dX12_turn_116 rfl (lv_at hl 2 rfl) ?_
          refine lv_aload_n hx hb dX12_turn_117 rfl (lv_at hl 3 rfl) ?_
          refine va_get (D := (dC, dI)) (ci := 12) (v := .ref (qLn 0)) (C := RX12) (T := TX12) (N := 59) hx hb hts (fun w h => List.mem_cons_of_mem _ (List.mem_append_right _ (List.mem_append_left _ h))) hown hK hP 10 rfl rfl 27 (by decide) (hts (.fieldLink RX12 56 "SagMemoryModel" "loadNow" "[I") (wl_mem 21 rfl)) (fun _ h9 => h9) rfl dX12_turn_118 ?_
          refine lv_iload_n hx hb dX12_turn_121 rfl (lv_at hl 2 rfl) ?_
          refine va_iald hx hb hK hP 14 0 rfl rfl (vp_in_iff.mpr ⟨by omega, by omega⟩) dX12_turn_122 ?_
          refine lv_topi (fun xz40 exz40 => ?_)
          refine lv_aload_n hx hb dX12_turn_123 rfl (lv_at hl 3 rfl) ?_
          refine lv_iload_n hx hb dX12_turn_124 rfl (lv_at hl 1 rfl) ?_
          have hPc := hP.sub (ws' := (List.flatten [(wMO qO k widthO manyO cellsO movedO tapeO linesO (qHa 0) (qBr 0) cartO (qWa 0) frostAtO actO isKeptO (qLn 0) (qBn 0) (qRw 0) (qMe 0) (qWh 0) (qDn 0) (qBb 0) (qBa 0) (qGb 0) (qCt 0) (qSm 0) (qCo 0) (qWb 0) deepAtO sagAtO loadAtO orderRowO oftenO lossOneO lossOtherO vO tO mO gO), (wmDn qDn k uz12), (wmMe qMe k az13)])) [10, 5, 6] rfl
          refine vp_callSi (va_Run.run (va_runV (As := [.int rz28]) (rest := [.int xz40, .int xz16, .ref (qCo 0)]) ⟨hx, hb, hml, hown, hts⟩ (c_X12_lastOf l dC dI k qO widthO manyO cellsO movedO tapeO linesO (qHa 0) (qBr 0) cartO (qWa 0) frostAtO actO isKeptO (qLn 0) (qBn 0) (qRw 0) (qWh 0) (qBb 0) (qBa 0) (qGb 0) (qCt 0) (qSm 0) (qCo 0) (qWb 0) deepAtO sagAtO loadAtO orderRowO oftenO lossOneO lossOtherO vO tO mO gO qDn uz12 qMe az13 rz28 htO hmO (ru_wk huz12 (by show (T9 : Int) ≤ 8; omega)) (by show 0 ≤ rz28.toInt ∧ rz28.toInt ≤ 2; omega)) (cwV 1 hts (gk_V (wl_mem 22 rfl) (wl_mem 23 rfl) (wl_mem 24 rfl) (wl_mem 3 rfl) (fun w h => List.mem_cons_of_mem _ (List.mem_append_right _ (List.mem_append_right _ (List.mem_append_right _ (List.mem_append_right _ (List.mem_append_right _ (List.mem_append_right _ (List.mem_append_left _ h)))))))) wkg_c_X12_lastOf) rfl rfl rfl (by decide +kernel) ⟨Nat.le_of_ble_eq_true rfl, Nat.le_of_ble_eq_true rfl⟩) ⟨fun a U g mk q => by obtain ⟨q0, qP, qK⟩ := q; exact ⟨q0, qP, va_K.moved (u := U) (U := U.calling g mk a) (Vm.Alike.refl U.vm) qK⟩, va_recv hK hPc (ci := 12) (q0 := 0) rfl rfl, fun U hU hW => ⟨rfl, by rw [hU]; exact hPc, va_K.moved hW.alike hK⟩⟩ rfl rfl hl.1 rfl (lv_room (Nat.le_of_ble_eq_true rfl)) dX12_turn_125 ⟨Nat.le_of_ble_eq_true rfl, Nat.le_of_ble_eq_true rfl⟩)) (fun rz42 gz41 => ?_)
          clear hPc
          refine lv_icmp_le (tgt := 146) hx hb dX12_turn_128 (by decide) (fun cz106 => ?_) (fun cz106 => ?_)
          · skip
            have bz107 := fb_rng xz40
            have bz108 := fb_rng rz42
            have zz109 : xz40.toInt ≤ rz42.toInt := zi_le.mp cz106
            refine lv_iconst (v := 0) hx hb dX12_turn_146 (by decide) ?_
            refine va_iast hx hb hK hP hD hS 3 0 rfl rfl (vp_in_iff.mpr ⟨by omega, by omega⟩) dX12_turn_147 (fun H locs hP hD hS => ?_)
            obtain ⟨fz110, efz110, hP, hD⟩ : ∃ fz110 : Nat → Int32, fz110 = upd fz20 xz16.toNatClampNeg (0 : Int32) ∧ va_P (dC, dI) vwCl (List.flatten [(wmGb qGb k (va_up yGb 0 fz37)), (wmCt qCt k (va_up aCt 0 fz30)), (wmSm qSm k (va_up aSm 0 fz19)), (wmCo qCo k (va_up aCo 0 fz110)), (wmWb qWb k (va_up aWb 0 fz21)), (wmDn qDn k uz12), (wmMe qMe k az13), (wmWh qWh k az14), (wmBb qBb k aBb), (wmBa qBa k aBa)] ++ List.flatten [(wMO qO k widthO manyO cellsO movedO tapeO linesO (qHa 0) (qBr 0) cartO (qWa 0) frostAtO actO isKeptO (qLn 0) (qBn 0) (qRw 0) (qMe 0) (qWh 0) (qDn 0) (qBb 0) (qBa 0) (qGb 0) (qCt 0) (qSm 0) (qCo 0) (qWb 0) deepAtO sagAtO loadAtO orderRowO oftenO lossOneO lossOtherO vO tO mO gO), (wmHa qHa k hHa), (wmWa qWa k jWa), (wmBn qBn k yBn), (wmLn qLn k aLn), (wmBr qBr k aBr), (wmRw qRw k rRw)]) H ∧ va_D A (List.flatten [(wmGb qGb k (va_up yGb 0 fz37)), (wmCt qCt k (va_up aCt 0 fz30)), (wmSm qSm k (va_up aSm 0 fz19)), (wmCo qCo k (va_up aCo 0 fz110)), (wmWb qWb k (va_up aWb 0 fz21)), (wmDn qDn k uz12), (wmMe qMe k az13), (wmWh qWh k az14), (wmBb qBb k aBb), (wmBa qBa k aBa)] ++ List.flatten [(wMO qO k widthO manyO cellsO movedO tapeO linesO (qHa 0) (qBr 0) cartO (qWa 0) frostAtO actO isKeptO (qLn 0) (qBn 0) (qRw 0) (qMe 0) (qWh 0) (qDn 0) (qBb 0) (qBa 0) (qGb 0) (qCt 0) (qSm 0) (qCo 0) (qWb 0) deepAtO sagAtO loadAtO orderRowO oftenO lossOneO lossOtherO vO tO mO gO), (wmHa qHa k hHa), (wmWa qWa k jWa), (wmBn qBn k yBn), (wmLn qLn k aLn), (wmBr qBr k aBr), (wmRw qRw k rRw)]) := ⟨_, rfl, hP, hD⟩
            have kfz110 : fz110 xz16.toNatClampNeg = (0 : Int32) := by rw [efz110]; exact pk_us
            refine lv_aload_n hx hb dX12_turn_148 rfl (lv_at hl 3 rfl) ?_
            refine va_get (D := (dC, dI)) (ci := 12) (v := .ref (qWb 0)) (C := RX12) (T := TX12) (N := 59) hx hb hts (fun w h => List.mem_cons_of_mem _ (List.mem_append_right _ (List.mem_append_left _ h))) hown hK hP 10 rfl rfl 39 (by decide) (hts (.fieldLink RX12 92 "SagMemoryModel" "wipedBy" "[I") (wl_mem 12 rfl)) (fun _ h9 => h9) rfl dX12_turn_149 ?_
            refine lv_iload_n hx hb dX12_turn_152 rfl (lv_at hl 2 rfl) ?_
            refine lv_aload_n hx hb dX12_turn_153 rfl (lv_at hl 3 rfl) ?_
            refine lv_iload_n hx hb dX12_turn_154 rfl (lv_at hl 1 rfl) ?_
            refine lv_aload_n hx hb dX12_turn_155 rfl (lv_at hl 3 rfl) ?_
            refine va_get (D := (dC, dI)) (ci := 12) (v := .ref (qLn 0)) (C := RX12) (T := TX12) (N := 59) hx hb hts (fun w h => List.mem_cons_of_mem _ (List.mem_append_right _ (List.mem_append_left _ h))) hown hK hP 10 rfl rfl 27 (by decide) (hts (.fieldLink RX12 56 "SagMemoryModel" "loadNow" "[I") (wl_mem 21 rfl)) (fun _ h9 => h9) rfl dX12_turn_156 ?_
            refine lv_iload_n hx hb dX12_turn_159 rfl (lv_at hl 2 rfl) ?_
            refine va_iald hx hb hK hP 14 0 rfl rfl (vp_in_iff.mpr ⟨by omega, by omega⟩) dX12_turn_160 ?_
            refine lv_topi (fun xz111 exz111 => ?_)
            refine lv_iload_n hx hb dX12_turn_161 rfl (lv_at hl 2 rfl) ?_
            have bz112 : 0 ≤ ((uz12 0) rz28.toNatClampNeg).toInt ∧ ((uz12 0) rz28.toNatClampNeg).toInt ≤ T9 := ru_rd huz12 (by show 0 ≤ rz28.toInt; omega) (by show rz28.toInt ≤ 2; omega)
            have hPc := hP.sub (ws' := (List.flatten [(wmDn qDn k uz12), (wmMe qMe k az13), (wmWh qWh k az14)] ++ List.flatten [(wMO qO k widthO manyO cellsO movedO tapeO linesO (qHa 0) (qBr 0) cartO (qWa 0) frostAtO actO isKeptO (qLn 0) (qBn 0) (qRw 0) (qMe 0) (qWh 0) (qDn 0) (qBb 0) (qBa 0) (qGb 0) (qCt 0) (qSm 0) (qCo 0) (qWb 0) deepAtO sagAtO loadAtO orderRowO oftenO lossOneO lossOtherO vO tO mO gO)])) [5, 6, 7, 10] rfl
            have hC : [5, 6, 7, 10].map (fun i => (List.flatten [(wmGb qGb k (va_up yGb 0 fz37)), (wmCt qCt k (va_up aCt 0 fz30)), (wmSm qSm k (va_up aSm 0 fz19)), (wmCo qCo k (va_up aCo 0 fz110)), (wmWb qWb k (va_up aWb 0 fz21)), (wmDn qDn k uz12), (wmMe qMe k az13), (wmWh qWh k az14), (wmBb qBb k aBb), (wmBa qBa k aBa)] ++ List.flatten [(wMO qO k widthO manyO cellsO movedO tapeO linesO (qHa 0) (qBr 0) cartO (qWa 0) frostAtO actO isKeptO (qLn 0) (qBn 0) (qRw 0) (qMe 0) (qWh 0) (qDn 0) (qBb 0) (qBa 0) (qGb 0) (qCt 0) (qSm 0) (qCo 0) (qWb 0) deepAtO sagAtO loadAtO orderRowO oftenO lossOneO lossOtherO vO tO mO gO), (wmHa qHa k hHa), (wmWa qWa k jWa), (wmBn qBn k yBn), (wmLn qLn k aLn), (wmBr qBr k aBr), (wmRw qRw k rRw)])[i]?) = (List.flatten [(wmDn qDn k uz12), (wmMe qMe k az13), (wmWh qWh k az14)] ++ List.flatten [(wMO qO k widthO manyO cellsO movedO tapeO linesO (qHa 0) (qBr 0) cartO (qWa 0) frostAtO actO isKeptO (qLn 0) (qBn 0) (qRw 0) (qMe 0) (qWh 0) (qDn 0) (qBb 0) (qBa 0) (qGb 0) (qCt 0) (qSm 0) (qCo 0) (qWb 0) deepAtO sagAtO loadAtO orderRowO oftenO lossOneO lossOtherO vO tO mO gO)]).map some := rfl
            have hDc := hD.sub [5, 6, 7, 10] (by decide) hC
            have hFc := va_free hD hS hA [5, 6, 7, 10] hC
            refine va_calli (va_runV (As := [.int rz28, .int xz111, .int xz16]) (rest := [.int xz16, .ref (qWb 0)]) ⟨hx, hb, hml, hown, hts⟩ (c_X12_crosses l dC dI k H.size qO widthO manyO cellsO movedO tapeO linesO (qHa 0) (qBr 0) cartO (qWa 0) frostAtO actO isKeptO (qLn 0) (qBn 0) (qRw 0) (qBb 0) (qBa 0) (qGb 0) (qCt 0) (qSm 0) (qCo 0) (qWb 0) deepAtO sagAtO loadAtO orderRowO oftenO lossOneO lossOtherO vO tO mO gO qDn uz12 qMe az13 qWh az14 rz28 xz111 xz16 (T9 + 1) htO hmO (ru_wk huz12 (by show (T9 : Int) ≤ T9 + 1; omega)) (by show 0 ≤ rz28.toInt ∧ rz28.toInt ≤ 2; omega) (by show (T9 + 1) ≤ 8; omega) (by show ((uz12 0) rz28.toNatClampNeg).toInt < (T9 + 1); omega)) (cwV 3 hts (gk_V (wl_mem 25 rfl) (wl_mem 26 rfl) (wl_mem 27 rfl) (wl_mem 3 rfl) (fun w h => List.mem_cons_of_mem _ (List.mem_append_right _ (List.mem_append_right _ (List.mem_append_right _ (List.mem_append_right _ (List.mem_append_right _ (List.mem_append_right _ (List.mem_append_right _ (List.mem_append_left _ h))))))))) wkg_c_X12_crosses) rfl rfl rfl (by decide +kernel) ⟨Nat.le_of_ble_eq_true rfl, Nat.le_of_ble_eq_true rfl⟩) ⟨fun a U g mk q => by obtain ⟨q0, q1, qP, qK, qD⟩ := q; exact ⟨q0, q1, qP, va_K.moved (u := U) (U := U.calling g mk a) (Vm.Alike.refl U.vm) qK, qD⟩, va_recv hK hPc (ci := 12) (q0 := 3) rfl rfl, fun U hU hW => ⟨rfl, by rw [hU], by rw [hU]; exact hPc, va_K.moved hW.alike hK, hDc.weaken (fun _ _ _ _ => trivial)⟩⟩ rfl rfl hl.1 rfl (lv_room (Nat.le_of_ble_eq_true rfl)) dX12_turn_162 ⟨Nat.le_of_ble_eq_true rfl, Nat.le_of_ble_eq_true rfl⟩) hS (fun q _ h => hFc q h) hFc (fun rz114 u t H1 locs ht hvm gz113 hB hz1 hk1 hS => ?_)
            obtain ⟨uz115, az116, az117, huz115, hP1⟩ := hB
            rw [ht] at hP1
            obtain ⟨hP, hD⟩ := w_callR hP hD hk1 hP1 [5, 6, 7] rfl rfl (wk_memC [10] rfl) rfl [none, none, none, none, none, some 0, some 1, some 2, none, none] rfl rfl
            clear hPc hC hDc hFc hk1 hP1
            generalize H1 = H at hP hS ⊢
            have hP : va_P (dC, dI) vwCl (List.flatten [(wmGb qGb k (va_up yGb 0 fz37)), (wmCt qCt k (va_up aCt 0 fz30)), (wmSm qSm k (va_up aSm 0 fz19)), (wmCo qCo k (va_up aCo 0 fz110)), (wmWb qWb k (va_up aWb 0 fz21)), (wmDn qDn k uz115), (wmMe qMe k az116), (wmWh qWh k az117), (wmBb qBb k aBb), (wmBa qBa k aBa)] ++ List.flatten [(wMO qO k widthO manyO cellsO movedO tapeO linesO (qHa 0) (qBr 0) cartO (qWa 0) frostAtO actO isKeptO (qLn 0) (qBn 0) (qRw 0) (qMe 0) (qWh 0) (qDn 0) (qBb 0) (qBa 0) (qGb 0) (qCt 0) (qSm 0) (qCo 0) (qWb 0) deepAtO sagAtO loadAtO orderRowO oftenO lossOneO lossOtherO vO tO mO gO), (wmHa qHa k hHa), (wmWa qWa k jWa), (wmBn qBn k yBn), (wmLn qLn k aLn), (wmBr qBr k aBr), (wmRw qRw k rRw)]) H := hP
            have hD : va_D A (List.flatten [(wmGb qGb k (va_up yGb 0 fz37)), (wmCt qCt k (va_up aCt 0 fz30)), (wmSm qSm k (va_up aSm 0 fz19)), (wmCo qCo k (va_up aCo 0 fz110)), (wmWb qWb k (va_up aWb 0 fz21)), (wmDn qDn k uz115), (wmMe qMe k az116), (wmWh qWh k az117), (wmBb qBb k aBb), (wmBa qBa k aBa)] ++ List.flatten [(wMO qO k widthO manyO cellsO movedO tapeO linesO (qHa 0) (qBr 0) cartO (qWa 0) frostAtO actO isKeptO (qLn 0) (qBn 0) (qRw 0) (qMe 0) (qWh 0) (qDn 0) (qBb 0) (qBa 0) (qGb 0) (qCt 0) (qSm 0) (qCo 0) (qWb 0) deepAtO sagAtO loadAtO orderRowO oftenO lossOneO lossOtherO vO tO mO gO), (wmHa qHa k hHa), (wmWa qWa k jWa), (wmBn qBn k yBn), (wmLn qLn k aLn), (wmBr qBr k aBr), (wmRw qRw k rRw)]) := hD
            refine W.widen (k := 0) (n := 0) (Nat.le_refl 0) (Nat.le_refl 0) ?_
            refine va_iast hx hb hK hP hD hS 4 0 rfl rfl (vp_in_iff.mpr ⟨by omega, by omega⟩) dX12_turn_165 (fun H locs hP hD hS => ?_)
            obtain ⟨fz118, efz118, hP, hD⟩ : ∃ fz118 : Nat → Int32, fz118 = upd fz21 xz16.toNatClampNeg rz114 ∧ va_P (dC, dI) vwCl (List.flatten [(wmGb qGb k (va_up yGb 0 fz37)), (wmCt qCt k (va_up aCt 0 fz30)), (wmSm qSm k (va_up aSm 0 fz19)), (wmCo qCo k (va_up aCo 0 fz110)), (wmWb qWb k (va_up aWb 0 fz118)), (wmDn qDn k uz115), (wmMe qMe k az116), (wmWh qWh k az117), (wmBb qBb k aBb), (wmBa qBa k aBa)] ++ List.flatten [(wMO qO k widthO manyO cellsO movedO tapeO linesO (qHa 0) (qBr 0) cartO (qWa 0) frostAtO actO isKeptO (qLn 0) (qBn 0) (qRw 0) (qMe 0) (qWh 0) (qDn 0) (qBb 0) (qBa 0) (qGb 0) (qCt 0) (qSm 0) (qCo 0) (qWb 0) deepAtO sagAtO loadAtO orderRowO oftenO lossOneO lossOtherO vO tO mO gO), (wmHa qHa k hHa), (wmWa qWa k jWa), (wmBn qBn k yBn), (wmLn qLn k aLn), (wmBr qBr k aBr), (wmRw qRw k rRw)]) H ∧ va_D A (List.flatten [(wmGb qGb k (va_up yGb 0 fz37)), (wmCt qCt k (va_up aCt 0 fz30)), (wmSm qSm k (va_up aSm 0 fz19)), (wmCo qCo k (va_up aCo 0 fz110)), (wmWb qWb k (va_up aWb 0 fz118)), (wmDn qDn k uz115), (wmMe qMe k az116), (wmWh qWh k az117), (wmBb qBb k aBb), (wmBa qBa k aBa)] ++ List.flatten [(wMO qO k widthO manyO cellsO movedO tapeO linesO (qHa 0) (qBr 0) cartO (qWa 0) frostAtO actO isKeptO (qLn 0) (qBn 0) (qRw 0) (qMe 0) (qWh 0) (qDn 0) (qBb 0) (qBa 0) (qGb 0) (qCt 0) (qSm 0) (qCo 0) (qWb 0) deepAtO sagAtO loadAtO orderRowO oftenO lossOneO lossOtherO vO tO mO gO), (wmHa qHa k hHa), (wmWa qWa k jWa), (wmBn qBn k yBn), (wmLn qLn k aLn), (wmBr qBr k aBr), (wmRw qRw k rRw)]) := ⟨_, rfl, hP, hD⟩
            have kfz118 : fz118 xz16.toNatClampNeg = rz114 := by rw [efz118]; exact pk_us
            refine lv_aload_n hx hb dX12_turn_166 rfl (lv_at hl 3 rfl) ?_
            refine va_get (D := (dC, dI)) (ci := 12) (v := .ref (qSm 0)) (C := RX12) (T := TX12) (N := 59) hx hb hts (fun w h => List.mem_cons_of_mem _ (List.mem_append_right _ (List.mem_append_left _ h))) hown hK hP 10 rfl rfl 37 (by decide) (hts (.fieldLink RX12 86 "SagMemoryModel" "sagMore" "[I") (wl_mem 10 rfl)) (fun _ h9 => h9) rfl dX12_turn_167 ?_
            refine lv_iload_n hx hb dX12_turn_170 rfl (lv_at hl 2 rfl) ?_
            refine lv_aload_n hx hb dX12_turn_171 rfl (lv_at hl 3 rfl) ?_
            refine lv_iload_n hx hb dX12_turn_172 rfl (lv_at hl 1 rfl) ?_
            have hPc := hP.sub (ws' := (List.flatten [(wMO qO k widthO manyO cellsO movedO tapeO linesO (qHa 0) (qBr 0) cartO (qWa 0) frostAtO actO isKeptO (qLn 0) (qBn 0) (qRw 0) (qMe 0) (qWh 0) (qDn 0) (qBb 0) (qBa 0) (qGb 0) (qCt 0) (qSm 0) (qCo 0) (qWb 0) deepAtO sagAtO loadAtO orderRowO oftenO lossOneO lossOtherO vO tO mO gO), (wmDn qDn k uz115), (wmMe qMe k az116)])) [10, 5, 6] rfl
            refine vp_callSi (va_Run.run (va_runV (As := [.int rz28]) (rest := [.int xz16, .ref (qSm 0)]) ⟨hx, hb, hml, hown, hts⟩ (c_X12_sagOf l dC dI k qO widthO manyO cellsO movedO tapeO linesO (qHa 0) (qBr 0) cartO (qWa 0) frostAtO actO isKeptO (qLn 0) (qBn 0) (qRw 0) (qWh 0) (qBb 0) (qBa 0) (qGb 0) (qCt 0) (qSm 0) (qCo 0) (qWb 0) deepAtO sagAtO loadAtO orderRowO oftenO lossOneO lossOtherO vO tO mO gO qDn uz115 qMe az116 rz28 htO hmO (ru_wk huz115 (by show ((T9 + 1) : Int) ≤ 8; omega)) (by show 0 ≤ rz28.toInt ∧ rz28.toInt ≤ 2; omega)) (cwV 1 hts (gk_V (wl_mem 18 rfl) (wl_mem 19 rfl) (wl_mem 20 rfl) (wl_mem 3 rfl) (fun w h => List.mem_cons_of_mem _ (List.mem_append_right _ (List.mem_append_right _ (List.mem_append_right _ (List.mem_append_right _ (List.mem_append_right _ (List.mem_append_left _ h))))))) wkg_c_X12_sagOf) rfl rfl rfl (by decide +kernel) ⟨Nat.le_of_ble_eq_true rfl, Nat.le_of_ble_eq_true rfl⟩) ⟨fun a U g mk q => by obtain ⟨q0, qP, qK⟩ := q; exact ⟨q0, qP, va_K.moved (u := U) (U := U.calling g mk a) (Vm.Alike.refl U.vm) qK⟩, va_recv hK hPc (ci := 12) (q0 := 0) rfl rfl, fun U hU hW => ⟨rfl, by rw [hU]; exact hPc, va_K.moved hW.alike hK⟩⟩ rfl rfl hl.1 rfl (lv_room (Nat.le_of_ble_eq_true rfl)) dX12_turn_173 ⟨Nat.le_of_ble_eq_true rfl, Nat.le_of_ble_eq_true rfl⟩)) (fun rz120 gz119 => ?_)
            clear hPc
            refine lv_iload hx hb dX12_turn_176 (lv_at hl 0 rfl) ?_
            refine lv_isub hx hb dX12_turn_178 ?_
            refine lv_topi (fun xz121 exz121 => ?_)
            refine va_iast hx hb hK hP hD hS 2 0 rfl rfl (vp_in_iff.mpr ⟨by omega, by omega⟩) dX12_turn_179 (fun H locs hP hD hS => ?_)
            obtain ⟨fz122, efz122, hP, hD⟩ : ∃ fz122 : Nat → Int32, fz122 = upd fz19 xz16.toNatClampNeg xz121 ∧ va_P (dC, dI) vwCl (List.flatten [(wmGb qGb k (va_up yGb 0 fz37)), (wmCt qCt k (va_up aCt 0 fz30)), (wmSm qSm k (va_up aSm 0 fz122)), (wmCo qCo k (va_up aCo 0 fz110)), (wmWb qWb k (va_up aWb 0 fz118)), (wmDn qDn k uz115), (wmMe qMe k az116), (wmWh qWh k az117), (wmBb qBb k aBb), (wmBa qBa k aBa)] ++ List.flatten [(wMO qO k widthO manyO cellsO movedO tapeO linesO (qHa 0) (qBr 0) cartO (qWa 0) frostAtO actO isKeptO (qLn 0) (qBn 0) (qRw 0) (qMe 0) (qWh 0) (qDn 0) (qBb 0) (qBa 0) (qGb 0) (qCt 0) (qSm 0) (qCo 0) (qWb 0) deepAtO sagAtO loadAtO orderRowO oftenO lossOneO lossOtherO vO tO mO gO), (wmHa qHa k hHa), (wmWa qWa k jWa), (wmBn qBn k yBn), (wmLn qLn k aLn), (wmBr qBr k aBr), (wmRw qRw k rRw)]) H ∧ va_D A (List.flatten [(wmGb qGb k (va_up yGb 0 fz37)), (wmCt qCt k (va_up aCt 0 fz30)), (wmSm qSm k (va_up aSm 0 fz122)), (wmCo qCo k (va_up aCo 0 fz110)), (wmWb qWb k (va_up aWb 0 fz118)), (wmDn qDn k uz115), (wmMe qMe k az116), (wmWh qWh k az117), (wmBb qBb k aBb), (wmBa qBa k aBa)] ++ List.flatten [(wMO qO k widthO manyO cellsO movedO tapeO linesO (qHa 0) (qBr 0) cartO (qWa 0) frostAtO actO isKeptO (qLn 0) (qBn 0) (qRw 0) (qMe 0) (qWh 0) (qDn 0) (qBb 0) (qBa 0) (qGb 0) (qCt 0) (qSm 0) (qCo 0) (qWb 0) deepAtO sagAtO loadAtO orderRowO oftenO lossOneO lossOtherO vO tO mO gO), (wmHa qHa k hHa), (wmWa qWa k jWa), (wmBn qBn k yBn), (wmLn qLn k aLn), (wmBr qBr k aBr), (wmRw qRw k rRw)]) := ⟨_, rfl, hP, hD⟩
            have kfz122 : fz122 xz16.toNatClampNeg = xz121 := by rw [efz122]; exact pk_us
            refine lv_aload_n hx hb dX12_turn_180 rfl (lv_at hl 3 rfl) ?_
            refine lv_iload_n hx hb dX12_turn_181 rfl (lv_at hl 1 rfl) ?_
            have hPc := hP.sub (ws' := (List.flatten [(wMO qO k widthO manyO cellsO movedO tapeO linesO (qHa 0) (qBr 0) cartO (qWa 0) frostAtO actO isKeptO (qLn 0) (qBn 0) (qRw 0) (qMe 0) (qWh 0) (qDn 0) (qBb 0) (qBa 0) (qGb 0) (qCt 0) (qSm 0) (qCo 0) (qWb 0) deepAtO sagAtO loadAtO orderRowO oftenO lossOneO lossOtherO vO tO mO gO), (wmDn qDn k uz115), (wmMe qMe k az116)])) [10, 5, 6] rfl
            refine vp_callSi (va_Run.run (va_runV (As := [.int rz28]) (rest := []) ⟨hx, hb, hml, hown, hts⟩ (c_X12_sagOf l dC dI k qO widthO manyO cellsO movedO tapeO linesO (qHa 0) (qBr 0) cartO (qWa 0) frostAtO actO isKeptO (qLn 0) (qBn 0) (qRw 0) (qWh 0) (qBb 0) (qBa 0) (qGb 0) (qCt 0) (qSm 0) (qCo 0) (qWb 0) deepAtO sagAtO loadAtO orderRowO oftenO lossOneO lossOtherO vO tO mO gO qDn uz115 qMe az116 rz28 htO hmO (ru_wk huz115 (by show ((T9 + 1) : Int) ≤ 8; omega)) (by show 0 ≤ rz28.toInt ∧ rz28.toInt ≤ 2; omega)) (cwV 1 hts (gk_V (wl_mem 18 rfl) (wl_mem 19 rfl) (wl_mem 20 rfl) (wl_mem 3 rfl) (fun w h => List.mem_cons_of_mem _ (List.mem_append_right _ (List.mem_append_right _ (List.mem_append_right _ (List.mem_append_right _ (List.mem_append_right _ (List.mem_append_left _ h))))))) wkg_c_X12_sagOf) rfl rfl rfl (by decide +kernel) ⟨Nat.le_of_ble_eq_true rfl, Nat.le_of_ble_eq_true rfl⟩) ⟨fun a U g mk q => by obtain ⟨q0, qP, qK⟩ := q; exact ⟨q0, qP, va_K.moved (u := U) (U := U.calling g mk a) (Vm.Alike.refl U.vm) qK⟩, va_recv hK hPc (ci := 12) (q0 := 0) rfl rfl, fun U hU hW => ⟨rfl, by rw [hU]; exact hPc, va_K.moved hW.alike hK⟩⟩ rfl rfl hl.1 rfl (lv_room (Nat.le_of_ble_eq_true rfl)) dX12_turn_182 ⟨Nat.le_of_ble_eq_true rfl, Nat.le_of_ble_eq_true rfl⟩)) (fun rz124 gz123 => ?_)
            clear hPc
            refine lv_aload_n hx hb dX12_turn_185 rfl (lv_at hl 3 rfl) ?_
            refine va_get (D := (dC, dI)) (ci := 12) (v := .ref (qBr 0)) (C := RX12) (T := TX12) (N := 59) hx hb hts (fun w h => List.mem_cons_of_mem _ (List.mem_append_right _ (List.mem_append_left _ h))) hown hK hP 10 rfl rfl 18 (by decide) (hts (.fieldLink RX12 37 "SagMemoryModel" "bridge" "[I") (wl_mem 28 rfl)) (fun _ h9 => h9) rfl dX12_turn_186 ?_
            refine lv_iconst (v := 2) hx hb dX12_turn_189 (by decide) ?_
            refine lv_iload_n hx hb dX12_turn_190 rfl (lv_at hl 1 rfl) ?_
            refine lv_imul hx hb dX12_turn_191 ?_
            refine lv_topi (fun xz125 exz125 => ?_)
            have fxz125 : xz125.toInt = (2 : Int) * rz28.toInt := by rw [exz125]; exact fb_mulI (x := (2 : Int32)) (y := rz28) (by show -2147483648 ≤ (2 : Int) * rz28.toInt; omega) (by show (2 : Int) * rz28.toInt < 2147483648; omega)
            refine va_iald hx hb hK hP 15 0 rfl rfl (vp_in_iff.mpr ⟨by omega, by omega⟩) dX12_turn_192 ?_
            refine lv_topi (fun xz126 exz126 => ?_)
            refine lv_icmp_gt (tgt := 197) hx hb dX12_turn_193 (by decide) (fun cz127 => ?_) (fun cz127 => ?_)
            · skip
              have bz128 := fb_rng xz126
              have bz129 := fb_rng rz124
              have zz130 : xz126.toInt < rz124.toInt := zi_lt.mp cz127
              refine lv_aload_n hx hb dX12_turn_197 rfl (lv_at hl 3 rfl) ?_
              refine va_get (D := (dC, dI)) (ci := 12) (v := .ref (qBb 0)) (C := RX12) (T := TX12) (N := 59) hx hb hts (fun w h => List.mem_cons_of_mem _ (List.mem_append_right _ (List.mem_append_left _ h))) hown hK hP 10 rfl rfl 33 (by decide) (hts (.fieldLink RX12 74 "SagMemoryModel" "brokenBy" "[I") (wl_mem 17 rfl)) (fun _ h9 => h9) rfl dX12_turn_198 ?_
              refine lv_iload_n hx hb dX12_turn_201 rfl (lv_at hl 1 rfl) ?_
              refine lv_iload_n hx hb dX12_turn_202 rfl (lv_at hl 2 rfl) ?_
              refine va_iast hx hb hK hP hD hS 8 0 rfl rfl (vp_in_iff.mpr ⟨by omega, by omega⟩) dX12_turn_203 (fun H locs hP hD hS => ?_)
              obtain ⟨fz131, efz131, hP, hD⟩ : ∃ fz131 : Nat → Int32, fz131 = upd (aBb 0) rz28.toNatClampNeg xz16 ∧ va_P (dC, dI) vwCl (List.flatten [(wmGb qGb k (va_up yGb 0 fz37)), (wmCt qCt k (va_up aCt 0 fz30)), (wmSm qSm k (va_up aSm 0 fz122)), (wmCo qCo k (va_up aCo 0 fz110)), (wmWb qWb k (va_up aWb 0 fz118)), (wmDn qDn k uz115), (wmMe qMe k az116), (wmWh qWh k az117), (wmBb qBb k (va_up aBb 0 fz131)), (wmBa qBa k aBa)] ++ List.flatten [(wMO qO k widthO manyO cellsO movedO tapeO linesO (qHa 0) (qBr 0) cartO (qWa 0) frostAtO actO isKeptO (qLn 0) (qBn 0) (qRw 0) (qMe 0) (qWh 0) (qDn 0) (qBb 0) (qBa 0) (qGb 0) (qCt 0) (qSm 0) (qCo 0) (qWb 0) deepAtO sagAtO loadAtO orderRowO oftenO lossOneO lossOtherO vO tO mO gO), (wmHa qHa k hHa), (wmWa qWa k jWa), (wmBn qBn k yBn), (wmLn qLn k aLn), (wmBr qBr k aBr), (wmRw qRw k rRw)]) H ∧ va_D A (List.flatten [(wmGb qGb k (va_up yGb 0 fz37)), (wmCt qCt k (va_up aCt 0 fz30)), (wmSm qSm k (va_up aSm 0 fz122)), (wmCo qCo k (va_up aCo 0 fz110)), (wmWb qWb k (va_up aWb 0 fz118)), (wmDn qDn k uz115), (wmMe qMe k az116), (wmWh qWh k az117), (wmBb qBb k (va_up aBb 0 fz131)), (wmBa qBa k aBa)] ++ List.flatten [(wMO qO k widthO manyO cellsO movedO tapeO linesO (qHa 0) (qBr 0) cartO (qWa 0) frostAtO actO isKeptO (qLn 0) (qBn 0) (qRw 0) (qMe 0) (qWh 0) (qDn 0) (qBb 0) (qBa 0) (qGb 0) (qCt 0) (qSm 0) (qCo 0) (qWb 0) deepAtO sagAtO loadAtO orderRowO oftenO lossOneO lossOtherO vO tO mO gO), (wmHa qHa k hHa), (wmWa qWa k jWa), (wmBn qBn k yBn), (wmLn qLn k aLn), (wmBr qBr k aBr), (wmRw qRw k rRw)]) := ⟨_, rfl, hP, hD⟩
              have kfz131 : fz131 rz28.toNatClampNeg = xz16 := by rw [efz131]; exact pk_us
              refine lv_aload_n hx hb dX12_turn_204 rfl (lv_at hl 3 rfl) ?_
              refine va_get (D := (dC, dI)) (ci := 12) (v := .ref (qBa 0)) (C := RX12) (T := TX12) (N := 59) hx hb hts (fun w h => List.mem_cons_of_mem _ (List.mem_append_right _ (List.mem_append_left _ h))) hown hK hP 10 rfl rfl 34 (by decide) (hts (.fieldLink RX12 77 "SagMemoryModel" "brokenAt" "[I") (wl_mem 29 rfl)) (fun _ h9 => h9) rfl dX12_turn_205 ?_
              refine lv_iload_n hx hb dX12_turn_208 rfl (lv_at hl 1 rfl) ?_
              refine lv_iload_n hx hb dX12_turn_209 rfl (lv_at hl 4 rfl) ?_
              refine va_iast hx hb hK hP hD hS 9 0 rfl rfl (vp_in_iff.mpr ⟨by omega, by omega⟩) dX12_turn_210 (fun H locs hP hD hS => ?_)
              obtain ⟨fz132, efz132, hP, hD⟩ : ∃ fz132 : Nat → Int32, fz132 = upd (aBa 0) rz28.toNatClampNeg p1 ∧ va_P (dC, dI) vwCl (List.flatten [(wmGb qGb k (va_up yGb 0 fz37)), (wmCt qCt k (va_up aCt 0 fz30)), (wmSm qSm k (va_up aSm 0 fz122)), (wmCo qCo k (va_up aCo 0 fz110)), (wmWb qWb k (va_up aWb 0 fz118)), (wmDn qDn k uz115), (wmMe qMe k az116), (wmWh qWh k az117), (wmBb qBb k (va_up aBb 0 fz131)), (wmBa qBa k (va_up aBa 0 fz132))] ++ List.flatten [(wMO qO k widthO manyO cellsO movedO tapeO linesO (qHa 0) (qBr 0) cartO (qWa 0) frostAtO actO isKeptO (qLn 0) (qBn 0) (qRw 0) (qMe 0) (qWh 0) (qDn 0) (qBb 0) (qBa 0) (qGb 0) (qCt 0) (qSm 0) (qCo 0) (qWb 0) deepAtO sagAtO loadAtO orderRowO oftenO lossOneO lossOtherO vO tO mO gO), (wmHa qHa k hHa), (wmWa qWa k jWa), (wmBn qBn k yBn), (wmLn qLn k aLn), (wmBr qBr k aBr), (wmRw qRw k rRw)]) H ∧ va_D A (List.flatten [(wmGb qGb k (va_up yGb 0 fz37)), (wmCt qCt k (va_up aCt 0 fz30)), (wmSm qSm k (va_up aSm 0 fz122)), (wmCo qCo k (va_up aCo 0 fz110)), (wmWb qWb k (va_up aWb 0 fz118)), (wmDn qDn k uz115), (wmMe qMe k az116), (wmWh qWh k az117), (wmBb qBb k (va_up aBb 0 fz131)), (wmBa qBa k (va_up aBa 0 fz132))] ++ List.flatten [(wMO qO k widthO manyO cellsO movedO tapeO linesO (qHa 0) (qBr 0) cartO (qWa 0) frostAtO actO isKeptO (qLn 0) (qBn 0) (qRw 0) (qMe 0) (qWh 0) (qDn 0) (qBb 0) (qBa 0) (qGb 0) (qCt 0) (qSm 0) (qCo 0) (qWb 0) deepAtO sagAtO loadAtO orderRowO oftenO lossOneO lossOtherO vO tO mO gO), (wmHa qHa k hHa), (wmWa qWa k jWa), (wmBn qBn k yBn), (wmLn qLn k aLn), (wmBr qBr k aBr), (wmRw qRw k rRw)]) := ⟨_, rfl, hP, hD⟩
              have kfz132 : fz132 rz28.toNatClampNeg = p1 := by rw [efz132]; exact pk_us
              rw [hQ]
              exact W.vret hx hb hr (fun t ht hW => ⟨⟨(), rfl, trivial, (va_up yGb 0 fz37), (va_up aCt 0 fz30), (va_up aSm 0 fz122), (va_up aCo 0 fz110), (va_up aWb 0 fz118), uz115, az116, az117, (va_up aBb 0 fz131), (va_up aBa 0 fz132), (rga_up hyGb hfz37), (ru_wk huz115 (by show ((T9 + 1) : Int) ≤ T9 + 1; omega)), by rw [ht]; exact hP⟩, hS.F ht⟩) hS.2.2 dX12_turn_211
            · skip
              have bz133 := fb_rng xz126
              have bz134 := fb_rng rz124
              have zz135 : ¬ xz126.toInt < rz124.toInt := fun h9 => cz127 (zi_lt.mpr h9)
              rw [hQ]
              exact W.vret hx hb hr (fun t ht hW => ⟨⟨(), rfl, trivial, (va_up yGb 0 fz37), (va_up aCt 0 fz30), (va_up aSm 0 fz122), (va_up aCo 0 fz110), (va_up aWb 0 fz118), uz115, az116, az117, aBb, aBa, (rga_up hyGb hfz37), (ru_wk huz115 (by show ((T9 + 1) : Int) ≤ T9 + 1; omega)), by rw [ht]; exact hP⟩, hS.F ht⟩) hS.2.2 dX12_turn_196
          · skip
            have bz136 := fb_rng xz40
            have bz137 := fb_rng rz42
            have zz138 : ¬ xz40.toInt ≤ rz42.toInt := fun h9 => cz106 (zi_le.mpr h9)
            refine lv_aload_n hx hb dX12_turn_131 rfl (lv_at hl 3 rfl) ?_
            refine va_get (D := (dC, dI)) (ci := 12) (v := .ref (qLn 0)) (C := RX12) (T := TX12) (N := 59) hx hb hts (fun w h => List.mem_cons_of_mem _ (List.mem_append_right _ (List.mem_append_left _ h))) hown hK hP 10 rfl rfl 27 (by decide) (hts (.fieldLink RX12 56 "SagMemoryModel" "loadNow" "[I") (wl_mem 21 rfl)) (fun _ h9 => h9) rfl dX12_turn_132 ?_
            refine lv_iload_n hx hb dX12_turn_135 rfl (lv_at hl 2 rfl) ?_
            refine va_iald hx hb hK hP 14 0 rfl rfl (vp_in_iff.mpr ⟨by omega, by omega⟩) dX12_turn_136 ?_
            refine lv_topi (fun xz139 exz139 => ?_)
            refine lv_aload_n hx hb dX12_turn_137 rfl (lv_at hl 3 rfl) ?_
            refine lv_iload_n hx hb dX12_turn_138 rfl (lv_at hl 1 rfl) ?_
            have hPc := hP.sub (ws' := (List.flatten [(wMO qO k widthO manyO cellsO movedO tapeO linesO (qHa 0) (qBr 0) cartO (qWa 0) frostAtO actO isKeptO (qLn 0) (qBn 0) (qRw 0) (qMe 0) (qWh 0) (qDn 0) (qBb 0) (qBa 0) (qGb 0) (qCt 0) (qSm 0) (qCo 0) (qWb 0) deepAtO sagAtO loadAtO orderRowO oftenO lossOneO lossOtherO vO tO mO gO), (wmDn qDn k uz12), (wmMe qMe k az13)])) [10, 5, 6] rfl
            refine vp_callSi (va_Run.run (va_runV (As := [.int rz28]) (rest := [.int xz139, .int xz16, .ref (qCo 0)]) ⟨hx, hb, hml, hown, hts⟩ (c_X12_lastOf l dC dI k qO widthO manyO cellsO movedO tapeO linesO (qHa 0) (qBr 0) cartO (qWa 0) frostAtO actO isKeptO (qLn 0) (qBn 0) (qRw 0) (qWh 0) (qBb 0) (qBa 0) (qGb 0) (qCt 0) (qSm 0) (qCo 0) (qWb 0) deepAtO sagAtO loadAtO orderRowO oftenO lossOneO lossOtherO vO tO mO gO qDn uz12 qMe az13 rz28 htO hmO (ru_wk huz12 (by show (T9 : Int) ≤ 8; omega)) (by show 0 ≤ rz28.toInt ∧ rz28.toInt ≤ 2; omega)) (cwV 1 hts (gk_V (wl_mem 22 rfl) (wl_mem 23 rfl) (wl_mem 24 rfl) (wl_mem 3 rfl) (fun w h => List.mem_cons_of_mem _ (List.mem_append_right _ (List.mem_append_right _ (List.mem_append_right _ (List.mem_append_right _ (List.mem_append_right _ (List.mem_append_right _ (List.mem_append_left _ h)))))))) wkg_c_X12_lastOf) rfl rfl rfl (by decide +kernel) ⟨Nat.le_of_ble_eq_true rfl, Nat.le_of_ble_eq_true rfl⟩) ⟨fun a U g mk q => by obtain ⟨q0, qP, qK⟩ := q; exact ⟨q0, qP, va_K.moved (u := U) (U := U.calling g mk a) (Vm.Alike.refl U.vm) qK⟩, va_recv hK hPc (ci := 12) (q0 := 0) rfl rfl, fun U hU hW => ⟨rfl, by rw [hU]; exact hPc, va_K.moved hW.alike hK⟩⟩ rfl rfl hl.1 rfl (lv_room (Nat.le_of_ble_eq_true rfl)) dX12_turn_139 ⟨Nat.le_of_ble_eq_true rfl, Nat.le_of_ble_eq_true rfl⟩)) (fun rz141 gz140 => ?_)
            clear hPc
            refine lv_isub hx hb dX12_turn_142 ?_
            refine lv_topi (fun xz142 exz142 => ?_)
            refine lv_goto (tgt := 147) hx hb dX12_turn_143 (by decide) ?_
            refine va_iast hx hb hK hP hD hS 3 0 rfl rfl (vp_in_iff.mpr ⟨by omega, by omega⟩) dX12_turn_147 (fun H locs hP hD hS => ?_)
            obtain ⟨fz143, efz143, hP, hD⟩ : ∃ fz143 : Nat → Int32, fz143 = upd fz20 xz16.toNatClampNeg xz142 ∧ va_P (dC, dI) vwCl (List.flatten [(wmGb qGb k (va_up yGb 0 fz37)), (wmCt qCt k (va_up aCt 0 fz30)), (wmSm qSm k (va_up aSm 0 fz19)), (wmCo qCo k (va_up aCo 0 fz143)), (wmWb qWb k (va_up aWb 0 fz21)), (wmDn qDn k uz12), (wmMe qMe k az13), (wmWh qWh k az14), (wmBb qBb k aBb), (wmBa qBa k aBa)] ++ List.flatten [(wMO qO k widthO manyO cellsO movedO tapeO linesO (qHa 0) (qBr 0) cartO (qWa 0) frostAtO actO isKeptO (qLn 0) (qBn 0) (qRw 0) (qMe 0) (qWh 0) (qDn 0) (qBb 0) (qBa 0) (qGb 0) (qCt 0) (qSm 0) (qCo 0) (qWb 0) deepAtO sagAtO loadAtO orderRowO oftenO lossOneO lossOtherO vO tO mO gO), (wmHa qHa k hHa), (wmWa qWa k jWa), (wmBn qBn k yBn), (wmLn qLn k aLn), (wmBr qBr k aBr), (wmRw qRw k rRw)]) H ∧ va_D A (List.flatten [(wmGb qGb k (va_up yGb 0 fz37)), (wmCt qCt k (va_up aCt 0 fz30)), (wmSm qSm k (va_up aSm 0 fz19)), (wmCo qCo k (va_up aCo 0 fz143)), (wmWb qWb k (va_up aWb 0 fz21)), (wmDn qDn k uz12), (wmMe qMe k az13), (wmWh qWh k az14), (wmBb qBb k aBb), (wmBa qBa k aBa)] ++ List.flatten [(wMO qO k widthO manyO cellsO movedO tapeO linesO (qHa 0) (qBr 0) cartO (qWa 0) frostAtO actO isKeptO (qLn 0) (qBn 0) (qRw 0) (qMe 0) (qWh 0) (qDn 0) (qBb 0) (qBa 0) (qGb 0) (qCt 0) (qSm 0) (qCo 0) (qWb 0) deepAtO sagAtO loadAtO orderRowO oftenO lossOneO lossOtherO vO tO mO gO), (wmHa qHa k hHa), (wmWa qWa k jWa), (wmBn qBn k yBn), (wmLn qLn k aLn), (wmBr qBr k aBr), (wmRw qRw k rRw)]) := ⟨_, rfl, hP, hD⟩
            have kfz143 : fz143 xz16.toNatClampNeg = xz142 := by rw [efz143]; exact pk_us
            refine lv_aload_n hx hb dX12_turn_148 rfl (lv_at hl 3 rfl) ?_
            refine va_get (D := (dC, dI)) (ci := 12) (v := .ref (qWb 0)) (C := RX12) (T := TX12) (N := 59) hx hb hts (fun w h => List.mem_cons_of_mem _ (List.mem_append_right _ (List.mem_append_left _ h))) hown hK hP 10 rfl rfl 39 (by decide) (hts (.fieldLink RX12 92 "SagMemoryModel" "wipedBy" "[I") (wl_mem 12 rfl)) (fun _ h9 => h9) rfl dX12_turn_149 ?_
            refine lv_iload_n hx hb dX12_turn_152 rfl (lv_at hl 2 rfl) ?_
            refine lv_aload_n hx hb dX12_turn_153 rfl (lv_at hl 3 rfl) ?_
            refine lv_iload_n hx hb dX12_turn_154 rfl (lv_at hl 1 rfl) ?_
            refine lv_aload_n hx hb dX12_turn_155 rfl (lv_at hl 3 rfl) ?_
            refine va_get (D := (dC, dI)) (ci := 12) (v := .ref (qLn 0)) (C := RX12) (T := TX12) (N := 59) hx hb hts (fun w h => List.mem_cons_of_mem _ (List.mem_append_right _ (List.mem_append_left _ h))) hown hK hP 10 rfl rfl 27 (by decide) (hts (.fieldLink RX12 56 "SagMemoryModel" "loadNow" "[I") (wl_mem 21 rfl)) (fun _ h9 => h9) rfl dX12_turn_156 ?_
            refine lv_iload_n hx hb dX12_turn_159 rfl (lv_at hl 2 rfl) ?_
            refine va_iald hx hb hK hP 14 0 rfl rfl (vp_in_iff.mpr ⟨by omega, by omega⟩) dX12_turn_160 ?_
            refine lv_topi (fun xz144 exz144 => ?_)
            refine lv_iload_n hx hb dX12_turn_161 rfl (lv_at hl 2 rfl) ?_
            have bz145 : 0 ≤ ((uz12 0) rz28.toNatClampNeg).toInt ∧ ((uz12 0) rz28.toNatClampNeg).toInt ≤ T9 := ru_rd huz12 (by show 0 ≤ rz28.toInt; omega) (by show rz28.toInt ≤ 2; omega)
            have hPc := hP.sub (ws' := (List.flatten [(wmDn qDn k uz12), (wmMe qMe k az13), (wmWh qWh k az14)] ++ List.flatten [(wMO qO k widthO manyO cellsO movedO tapeO linesO (qHa 0) (qBr 0) cartO (qWa 0) frostAtO actO isKeptO (qLn 0) (qBn 0) (qRw 0) (qMe 0) (qWh 0) (qDn 0) (qBb 0) (qBa 0) (qGb 0) (qCt 0) (qSm 0) (qCo 0) (qWb 0) deepAtO sagAtO loadAtO orderRowO oftenO lossOneO lossOtherO vO tO mO gO)])) [5, 6, 7, 10] rfl
            have hC : [5, 6, 7, 10].map (fun i => (List.flatten [(wmGb qGb k (va_up yGb 0 fz37)), (wmCt qCt k (va_up aCt 0 fz30)), (wmSm qSm k (va_up aSm 0 fz19)), (wmCo qCo k (va_up aCo 0 fz143)), (wmWb qWb k (va_up aWb 0 fz21)), (wmDn qDn k uz12), (wmMe qMe k az13), (wmWh qWh k az14), (wmBb qBb k aBb), (wmBa qBa k aBa)] ++ List.flatten [(wMO qO k widthO manyO cellsO movedO tapeO linesO (qHa 0) (qBr 0) cartO (qWa 0) frostAtO actO isKeptO (qLn 0) (qBn 0) (qRw 0) (qMe 0) (qWh 0) (qDn 0) (qBb 0) (qBa 0) (qGb 0) (qCt 0) (qSm 0) (qCo 0) (qWb 0) deepAtO sagAtO loadAtO orderRowO oftenO lossOneO lossOtherO vO tO mO gO), (wmHa qHa k hHa), (wmWa qWa k jWa), (wmBn qBn k yBn), (wmLn qLn k aLn), (wmBr qBr k aBr), (wmRw qRw k rRw)])[i]?) = (List.flatten [(wmDn qDn k uz12), (wmMe qMe k az13), (wmWh qWh k az14)] ++ List.flatten [(wMO qO k widthO manyO cellsO movedO tapeO linesO (qHa 0) (qBr 0) cartO (qWa 0) frostAtO actO isKeptO (qLn 0) (qBn 0) (qRw 0) (qMe 0) (qWh 0) (qDn 0) (qBb 0) (qBa 0) (qGb 0) (qCt 0) (qSm 0) (qCo 0) (qWb 0) deepAtO sagAtO loadAtO orderRowO oftenO lossOneO lossOtherO vO tO mO gO)]).map some := rfl
            have hDc := hD.sub [5, 6, 7, 10] (by decide) hC
            have hFc := va_free hD hS hA [5, 6, 7, 10] hC
            refine va_calli (va_runV (As := [.int rz28, .int xz144, .int xz16]) (rest := [.int xz16, .ref (qWb 0)]) ⟨hx, hb, hml, hown, hts⟩ (c_X12_crosses l dC dI k H.size qO widthO manyO cellsO movedO tapeO linesO (qHa 0) (qBr 0) cartO (qWa 0) frostAtO actO isKeptO (qLn 0) (qBn 0) (qRw 0) (qBb 0) (qBa 0) (qGb 0) (qCt 0) (qSm 0) (qCo 0) (qWb 0) deepAtO sagAtO loadAtO orderRowO oftenO lossOneO lossOtherO vO tO mO gO qDn uz12 qMe az13 qWh az14 rz28 xz144 xz16 (T9 + 1) htO hmO (ru_wk huz12 (by show (T9 : Int) ≤ T9 + 1; omega)) (by show 0 ≤ rz28.toInt ∧ rz28.toInt ≤ 2; omega) (by show (T9 + 1) ≤ 8; omega) (by show ((uz12 0) rz28.toNatClampNeg).toInt < (T9 + 1); omega)) (cwV 3 hts (gk_V (wl_mem 25 rfl) (wl_mem 26 rfl) (wl_mem 27 rfl) (wl_mem 3 rfl) (fun w h => List.mem_cons_of_mem _ (List.mem_append_right _ (List.mem_append_right _ (List.mem_append_right _ (List.mem_append_right _ (List.mem_append_right _ (List.mem_append_right _ (List.mem_append_right _ (List.mem_append_left _ h))))))))) wkg_c_X12_crosses) rfl rfl rfl (by decide +kernel) ⟨Nat.le_of_ble_eq_true rfl, Nat.le_of_ble_eq_true rfl⟩) ⟨fun a U g mk q => by obtain ⟨q0, q1, qP, qK, qD⟩ := q; exact ⟨q0, q1, qP, va_K.moved (u := U) (U := U.calling g mk a) (Vm.Alike.refl U.vm) qK, qD⟩, va_recv hK hPc (ci := 12) (q0 := 3) rfl rfl, fun U hU hW => ⟨rfl, by rw [hU], by rw [hU]; exact hPc, va_K.moved hW.alike hK, hDc.weaken (fun _ _ _ _ => trivial)⟩⟩ rfl rfl hl.1 rfl (lv_room (Nat.le_of_ble_eq_true rfl)) dX12_turn_162 ⟨Nat.le_of_ble_eq_true rfl, Nat.le_of_ble_eq_true rfl⟩) hS (fun q _ h => hFc q h) hFc (fun rz147 u t H1 locs ht hvm gz146 hB hz1 hk1 hS => ?_)
            obtain ⟨uz148, az149, az150, huz148, hP1⟩ := hB
            rw [ht] at hP1
            obtain ⟨hP, hD⟩ := w_callR hP hD hk1 hP1 [5, 6, 7] rfl rfl (wk_memC [10] rfl) rfl [none, none, none, none, none, some 0, some 1, some 2, none, none] rfl rfl
            clear hPc hC hDc hFc hk1 hP1
            generalize H1 = H at hP hS ⊢
            have hP : va_P (dC, dI) vwCl (List.flatten [(wmGb qGb k (va_up yGb 0 fz37)), (wmCt qCt k (va_up aCt 0 fz30)), (wmSm qSm k (va_up aSm 0 fz19)), (wmCo qCo k (va_up aCo 0 fz143)), (wmWb qWb k (va_up aWb 0 fz21)), (wmDn qDn k uz148), (wmMe qMe k az149), (wmWh qWh k az150), (wmBb qBb k aBb), (wmBa qBa k aBa)] ++ List.flatten [(wMO qO k widthO manyO cellsO movedO tapeO linesO (qHa 0) (qBr 0) cartO (qWa 0) frostAtO actO isKeptO (qLn 0) (qBn 0) (qRw 0) (qMe 0) (qWh 0) (qDn 0) (qBb 0) (qBa 0) (qGb 0) (qCt 0) (qSm 0) (qCo 0) (qWb 0) deepAtO sagAtO loadAtO orderRowO oftenO lossOneO lossOtherO vO tO mO gO), (wmHa qHa k hHa), (wmWa qWa k jWa), (wmBn qBn k yBn), (wmLn qLn k aLn), (wmBr qBr k aBr), (wmRw qRw k rRw)]) H := hP
            have hD : va_D A (List.flatten [(wmGb qGb k (va_up yGb 0 fz37)), (wmCt qCt k (va_up aCt 0 fz30)), (wmSm qSm k (va_up aSm 0 fz19)), (wmCo qCo k (va_up aCo 0 fz143)), (wmWb qWb k (va_up aWb 0 fz21)), (wmDn qDn k uz148), (wmMe qMe k az149), (wmWh qWh k az150), (wmBb qBb k aBb), (wmBa qBa k aBa)] ++ List.flatten [(wMO qO k widthO manyO cellsO movedO tapeO linesO (qHa 0) (qBr 0) cartO (qWa 0) frostAtO actO isKeptO (qLn 0) (qBn 0) (qRw 0) (qMe 0) (qWh 0) (qDn 0) (qBb 0) (qBa 0) (qGb 0) (qCt 0) (qSm 0) (qCo 0) (qWb 0) deepAtO sagAtO loadAtO orderRowO oftenO lossOneO lossOtherO vO tO mO gO), (wmHa qHa k hHa), (wmWa qWa k jWa), (wmBn qBn k yBn), (wmLn qLn k aLn), (wmBr qBr k aBr), (wmRw qRw k rRw)]) := hD
            refine W.widen (k := 0) (n := 0) (Nat.le_refl 0) (Nat.le_refl 0) ?_
            refine va_iast hx hb hK hP hD hS 4 0 rfl rfl (vp_in_iff.mpr ⟨by omega, by omega⟩) dX12_turn_165 (fun H locs hP hD hS => ?_)
            obtain ⟨fz151, efz151, hP, hD⟩ : ∃ fz151 : Nat → Int32, fz151 = upd fz21 xz16.toNatClampNeg rz147 ∧ va_P (dC, dI) vwCl (List.flatten [(wmGb qGb k (va_up yGb 0 fz37)), (wmCt qCt k (va_up aCt 0 fz30)), (wmSm qSm k (va_up aSm 0 fz19)), (wmCo qCo k (va_up aCo 0 fz143)), (wmWb qWb k (va_up aWb 0 fz151)), (wmDn qDn k uz148), (wmMe qMe k az149), (wmWh qWh k az150), (wmBb qBb k aBb), (wmBa qBa k aBa)] ++ List.flatten [(wMO qO k widthO manyO cellsO movedO tapeO linesO (qHa 0) (qBr 0) cartO (qWa 0) frostAtO actO isKeptO (qLn 0) (qBn 0) (qRw 0) (qMe 0) (qWh 0) (qDn 0) (qBb 0) (qBa 0) (qGb 0) (qCt 0) (qSm 0) (qCo 0) (qWb 0) deepAtO sagAtO loadAtO orderRowO oftenO lossOneO lossOtherO vO tO mO gO), (wmHa qHa k hHa), (wmWa qWa k jWa), (wmBn qBn k yBn), (wmLn qLn k aLn), (wmBr qBr k aBr), (wmRw qRw k rRw)]) H ∧ va_D A (List.flatten [(wmGb qGb k (va_up yGb 0 fz37)), (wmCt qCt k (va_up aCt 0 fz30)), (wmSm qSm k (va_up aSm 0 fz19)), (wmCo qCo k (va_up aCo 0 fz143)), (wmWb qWb k (va_up aWb 0 fz151)), (wmDn qDn k uz148), (wmMe qMe k az149), (wmWh qWh k az150), (wmBb qBb k aBb), (wmBa qBa k aBa)] ++ List.flatten [(wMO qO k widthO manyO cellsO movedO tapeO linesO (qHa 0) (qBr 0) cartO (qWa 0) frostAtO actO isKeptO (qLn 0) (qBn 0) (qRw 0) (qMe 0) (qWh 0) (qDn 0) (qBb 0) (qBa 0) (qGb 0) (qCt 0) (qSm 0) (qCo 0) (qWb 0) deepAtO sagAtO loadAtO orderRowO oftenO lossOneO lossOtherO vO tO mO gO), (wmHa qHa k hHa), (wmWa qWa k jWa), (wmBn qBn k yBn), (wmLn qLn k aLn), (wmBr qBr k aBr), (wmRw qRw k rRw)]) := ⟨_, rfl, hP, hD⟩
            have kfz151 : fz151 xz16.toNatClampNeg = rz147 := by rw [efz151]; exact pk_us
            refine lv_aload_n hx hb dX12_turn_166 rfl (lv_at hl 3 rfl) ?_
            refine va_get (D := (dC, dI)) (ci := 12) (v := .ref (qSm 0)) (C := RX12) (T := TX12) (N := 59) hx hb hts (fun w h => List.mem_cons_of_mem _ (List.mem_append_right _ (List.mem_append_left _ h))) hown hK hP 10 rfl rfl 37 (by decide) (hts (.fieldLink RX12 86 "SagMemoryModel" "sagMore" "[I") (wl_mem 10 rfl)) (fun _ h9 => h9) rfl dX12_turn_167 ?_
            refine lv_iload_n hx hb dX12_turn_170 rfl (lv_at hl 2 rfl) ?_
            refine lv_aload_n hx hb dX12_turn_171 rfl (lv_at hl 3 rfl) ?_
            refine lv_iload_n hx hb dX12_turn_172 rfl (lv_at hl 1 rfl) ?_
            have hPc := hP.sub (ws' := (List.flatten [(wMO qO k widthO manyO cellsO movedO tapeO linesO (qHa 0) (qBr 0) cartO (qWa 0) frostAtO actO isKeptO (qLn 0) (qBn 0) (qRw 0) (qMe 0) (qWh 0) (qDn 0) (qBb 0) (qBa 0) (qGb 0) (qCt 0) (qSm 0) (qCo 0) (qWb 0) deepAtO sagAtO loadAtO orderRowO oftenO lossOneO lossOtherO vO tO mO gO), (wmDn qDn k uz148), (wmMe qMe k az149)])) [10, 5, 6] rfl
            refine vp_callSi (va_Run.run (va_runV (As := [.int rz28]) (rest := [.int xz16, .ref (qSm 0)]) ⟨hx, hb, hml, hown, hts⟩ (c_X12_sagOf l dC dI k qO widthO manyO cellsO movedO tapeO linesO (qHa 0) (qBr 0) cartO (qWa 0) frostAtO actO isKeptO (qLn 0) (qBn 0) (qRw 0) (qWh 0) (qBb 0) (qBa 0) (qGb 0) (qCt 0) (qSm 0) (qCo 0) (qWb 0) deepAtO sagAtO loadAtO orderRowO oftenO lossOneO lossOtherO vO tO mO gO qDn uz148 qMe az149 rz28 htO hmO (ru_wk huz148 (by show ((T9 + 1) : Int) ≤ 8; omega)) (by show 0 ≤ rz28.toInt ∧ rz28.toInt ≤ 2; omega)) (cwV 1 hts (gk_V (wl_mem 18 rfl) (wl_mem 19 rfl) (wl_mem 20 rfl) (wl_mem 3 rfl) (fun w h => List.mem_cons_of_mem _ (List.mem_append_right _ (List.mem_append_right _ (List.mem_append_right _ (List.mem_append_right _ (List.mem_append_right _ (List.mem_append_left _ h))))))) wkg_c_X12_sagOf) rfl rfl rfl (by decide +kernel) ⟨Nat.le_of_ble_eq_true rfl, Nat.le_of_ble_eq_true rfl⟩) ⟨fun a U g mk q => by obtain ⟨q0, qP, qK⟩ := q; exact ⟨q0, qP, va_K.moved (u := U) (U := U.calling g mk a) (Vm.Alike.refl U.vm) qK⟩, va_recv hK hPc (ci := 12) (q0 := 0) rfl rfl, fun U hU hW => ⟨rfl, by rw [hU]; exact hPc, va_K.moved hW.alike hK⟩⟩ rfl rfl hl.1 rfl (lv_room (Nat.le_of_ble_eq_true rfl)) dX12_turn_173 ⟨Nat.le_of_ble_eq_true rfl, Nat.le_of_ble_eq_true rfl⟩)) (fun rz153 gz152 => ?_)
            clear hPc
            refine lv_iload hx hb dX12_turn_176 (lv_at hl 0 rfl) ?_
            refine lv_isub hx hb dX12_turn_178 ?_
            refine lv_topi (fun xz154 exz154 => ?_)
            refine va_iast hx hb hK hP hD hS 2 0 rfl rfl (vp_in_iff.mpr ⟨by omega, by omega⟩) dX12_turn_179 (fun H locs hP hD hS => ?_)
            obtain ⟨fz155, efz155, hP, hD⟩ : ∃ fz155 : Nat → Int32, fz155 = upd fz19 xz16.toNatClampNeg xz154 ∧ va_P (dC, dI) vwCl (List.flatten [(wmGb qGb k (va_up yGb 0 fz37)), (wmCt qCt k (va_up aCt 0 fz30)), (wmSm qSm k (va_up aSm 0 fz155)), (wmCo qCo k (va_up aCo 0 fz143)), (wmWb qWb k (va_up aWb 0 fz151)), (wmDn qDn k uz148), (wmMe qMe k az149), (wmWh qWh k az150), (wmBb qBb k aBb), (wmBa qBa k aBa)] ++ List.flatten [(wMO qO k widthO manyO cellsO movedO tapeO linesO (qHa 0) (qBr 0) cartO (qWa 0) frostAtO actO isKeptO (qLn 0) (qBn 0) (qRw 0) (qMe 0) (qWh 0) (qDn 0) (qBb 0) (qBa 0) (qGb 0) (qCt 0) (qSm 0) (qCo 0) (qWb 0) deepAtO sagAtO loadAtO orderRowO oftenO lossOneO lossOtherO vO tO mO gO), (wmHa qHa k hHa), (wmWa qWa k jWa), (wmBn qBn k yBn), (wmLn qLn k aLn), (wmBr qBr k aBr), (wmRw qRw k rRw)]) H ∧ va_D A (List.flatten [(wmGb qGb k (va_up yGb 0 fz37)), (wmCt qCt k (va_up aCt 0 fz30)), (wmSm qSm k (va_up aSm 0 fz155)), (wmCo qCo k (va_up aCo 0 fz143)), (wmWb qWb k (va_up aWb 0 fz151)), (wmDn qDn k uz148), (wmMe qMe k az149), (wmWh qWh k az150), (wmBb qBb k aBb), (wmBa qBa k aBa)] ++ List.flatten [(wMO qO k widthO manyO cellsO movedO tapeO linesO (qHa 0) (qBr 0) cartO (qWa 0) frostAtO actO isKeptO (qLn 0) (qBn 0) (qRw 0) (qMe 0) (qWh 0) (qDn 0) (qBb 0) (qBa 0) (qGb 0) (qCt 0) (qSm 0) (qCo 0) (qWb 0) deepAtO sagAtO loadAtO orderRowO oftenO lossOneO lossOtherO vO tO mO gO), (wmHa qHa k hHa), (wmWa qWa k jWa), (wmBn qBn k yBn), (wmLn qLn k aLn), (wmBr qBr k aBr), (wmRw qRw k rRw)]) := ⟨_, rfl, hP, hD⟩
            have kfz155 : fz155 xz16.toNatClampNeg = xz154 := by rw [efz155]; exact pk_us
            refine lv_aload_n hx hb dX12_turn_180 rfl (lv_at hl 3 rfl) ?_
            refine lv_iload_n hx hb dX12_turn_181 rfl (lv_at hl 1 rfl) ?_
            have hPc := hP.sub (ws' := (List.flatten [(wMO qO k widthO manyO cellsO movedO tapeO linesO (qHa 0) (qBr 0) cartO (qWa 0) frostAtO actO isKeptO (qLn 0) (qBn 0) (qRw 0) (qMe 0) (qWh 0) (qDn 0) (qBb 0) (qBa 0) (qGb 0) (qCt 0) (qSm 0) (qCo 0) (qWb 0) deepAtO sagAtO loadAtO orderRowO oftenO lossOneO lossOtherO vO tO mO gO), (wmDn qDn k uz148), (wmMe qMe k az149)])) [10, 5, 6] rfl
            refine vp_callSi (va_Run.run (va_runV (As := [.int rz28]) (rest := []) ⟨hx, hb, hml, hown, hts⟩ (c_X12_sagOf l dC dI k qO widthO manyO cellsO movedO tapeO linesO (qHa 0) (qBr 0) cartO (qWa 0) frostAtO actO isKeptO (qLn 0) (qBn 0) (qRw 0) (qWh 0) (qBb 0) (qBa 0) (qGb 0) (qCt 0) (qSm 0) (qCo 0) (qWb 0) deepAtO sagAtO loadAtO orderRowO oftenO lossOneO lossOtherO vO tO mO gO qDn uz148 qMe az149 rz28 htO hmO (ru_wk huz148 (by show ((T9 + 1) : Int) ≤ 8; omega)) (by show 0 ≤ rz28.toInt ∧ rz28.toInt ≤ 2; omega)) (cwV 1 hts (gk_V (wl_mem 18 rfl) (wl_mem 19 rfl) (wl_mem 20 rfl) (wl_mem 3 rfl) (fun w h => List.mem_cons_of_mem _ (List.mem_append_right _ (List.mem_append_right _ (List.mem_append_right _ (List.mem_append_right _ (List.mem_append_right _ (List.mem_append_left _ h))))))) wkg_c_X12_sagOf) rfl rfl rfl (by decide +kernel) ⟨Nat.le_of_ble_eq_true rfl, Nat.le_of_ble_eq_true rfl⟩) ⟨fun a U g mk q => by obtain ⟨q0, qP, qK⟩ := q; exact ⟨q0, qP, va_K.moved (u := U) (U := U.calling g mk a) (Vm.Alike.refl U.vm) qK⟩, va_recv hK hPc (ci := 12) (q0 := 0) rfl rfl, fun U hU hW => ⟨rfl, by rw [hU]; exact hPc, va_K.moved hW.alike hK⟩⟩ rfl rfl hl.1 rfl (lv_room (Nat.le_of_ble_eq_true rfl)) dX12_turn_182 ⟨Nat.le_of_ble_eq_true rfl, Nat.le_of_ble_eq_true rfl⟩)) (fun rz157 gz156 => ?_)
            clear hPc
            refine lv_aload_n hx hb dX12_turn_185 rfl (lv_at hl 3 rfl) ?_
            refine va_get (D := (dC, dI)) (ci := 12) (v := .ref (qBr 0)) (C := RX12) (T := TX12) (N := 59) hx hb hts (fun w h => List.mem_cons_of_mem _ (List.mem_append_right _ (List.mem_append_left _ h))) hown hK hP 10 rfl rfl 18 (by decide) (hts (.fieldLink RX12 37 "SagMemoryModel" "bridge" "[I") (wl_mem 28 rfl)) (fun _ h9 => h9) rfl dX12_turn_186 ?_
            refine lv_iconst (v := 2) hx hb dX12_turn_189 (by decide) ?_
            refine lv_iload_n hx hb dX12_turn_190 rfl (lv_at hl 1 rfl) ?_
            refine lv_imul hx hb dX12_turn_191 ?_
            refine lv_topi (fun xz158 exz158 => ?_)
            have fxz158 : xz158.toInt = (2 : Int) * rz28.toInt := by rw [exz158]; exact fb_mulI (x := (2 : Int32)) (y := rz28) (by show -2147483648 ≤ (2 : Int) * rz28.toInt; omega) (by show (2 : Int) * rz28.toInt < 2147483648; omega)
            refine va_iald hx hb hK hP 15 0 rfl rfl (vp_in_iff.mpr ⟨by omega, by omega⟩) dX12_turn_192 ?_
            refine lv_topi (fun xz159 exz159 => ?_)
            refine lv_icmp_gt (tgt := 197) hx hb dX12_turn_193 (by decide) (fun cz160 => ?_) (fun cz160 => ?_)
            · skip
              have bz161 := fb_rng xz159
              have bz162 := fb_rng rz157
              have zz163 : xz159.toInt < rz157.toInt := zi_lt.mp cz160
              refine lv_aload_n hx hb dX12_turn_197 rfl (lv_at hl 3 rfl) ?_
              refine va_get (D := (dC, dI)) (ci := 12) (v := .ref (qBb 0)) (C := RX12) (T := TX12) (N := 59) hx hb hts (fun w h => List.mem_cons_of_mem _ (List.mem_append_right _ (List.mem_append_left _ h))) hown hK hP 10 rfl rfl 33 (by decide) (hts (.fieldLink RX12 74 "SagMemoryModel" "brokenBy" "[I") (wl_mem 17 rfl)) (fun _ h9 => h9) rfl dX12_turn_198 ?_
              refine lv_iload_n hx hb dX12_turn_201 rfl (lv_at hl 1 rfl) ?_
              refine lv_iload_n hx hb dX12_turn_202 rfl (lv_at hl 2 rfl) ?_
              refine va_iast hx hb hK hP hD hS 8 0 rfl rfl (vp_in_iff.mpr ⟨by omega, by omega⟩) dX12_turn_203 (fun H locs hP hD hS => ?_)
              obtain ⟨fz164, efz164, hP, hD⟩ : ∃ fz164 : Nat → Int32, fz164 = upd (aBb 0) rz28.toNatClampNeg xz16 ∧ va_P (dC, dI) vwCl (List.flatten [(wmGb qGb k (va_up yGb 0 fz37)), (wmCt qCt k (va_up aCt 0 fz30)), (wmSm qSm k (va_up aSm 0 fz155)), (wmCo qCo k (va_up aCo 0 fz143)), (wmWb qWb k (va_up aWb 0 fz151)), (wmDn qDn k uz148), (wmMe qMe k az149), (wmWh qWh k az150), (wmBb qBb k (va_up aBb 0 fz164)), (wmBa qBa k aBa)] ++ List.flatten [(wMO qO k widthO manyO cellsO movedO tapeO linesO (qHa 0) (qBr 0) cartO (qWa 0) frostAtO actO isKeptO (qLn 0) (qBn 0) (qRw 0) (qMe 0) (qWh 0) (qDn 0) (qBb 0) (qBa 0) (qGb 0) (qCt 0) (qSm 0) (qCo 0) (qWb 0) deepAtO sagAtO loadAtO orderRowO oftenO lossOneO lossOtherO vO tO mO gO), (wmHa qHa k hHa), (wmWa qWa k jWa), (wmBn qBn k yBn), (wmLn qLn k aLn), (wmBr qBr k aBr), (wmRw qRw k rRw)]) H ∧ va_D A (List.flatten [(wmGb qGb k (va_up yGb 0 fz37)), (wmCt qCt k (va_up aCt 0 fz30)), (wmSm qSm k (va_up aSm 0 fz155)), (wmCo qCo k (va_up aCo 0 fz143)), (wmWb qWb k (va_up aWb 0 fz151)), (wmDn qDn k uz148), (wmMe qMe k az149), (wmWh qWh k az150), (wmBb qBb k (va_up aBb 0 fz164)), (wmBa qBa k aBa)] ++ List.flatten [(wMO qO k widthO manyO cellsO movedO tapeO linesO (qHa 0) (qBr 0) cartO (qWa 0) frostAtO actO isKeptO (qLn 0) (qBn 0) (qRw 0) (qMe 0) (qWh 0) (qDn 0) (qBb 0) (qBa 0) (qGb 0) (qCt 0) (qSm 0) (qCo 0) (qWb 0) deepAtO sagAtO loadAtO orderRowO oftenO lossOneO lossOtherO vO tO mO gO), (wmHa qHa k hHa), (wmWa qWa k jWa), (wmBn qBn k yBn), (wmLn qLn k aLn), (wmBr qBr k aBr), (wmRw qRw k rRw)]) := ⟨_, rfl, hP, hD⟩
              have kfz164 : fz164 rz28.toNatClampNeg = xz16 := by rw [efz164]; exact pk_us
              refine lv_aload_n hx hb dX12_turn_204 rfl (lv_at hl 3 rfl) ?_
              refine va_get (D := (dC, dI)) (ci := 12) (v := .ref (qBa 0)) (C := RX12) (T := TX12) (N := 59) hx hb hts (fun w h => List.mem_cons_of_mem _ (List.mem_append_right _ (List.mem_append_left _ h))) hown hK hP 10 rfl rfl 34 (by decide) (hts (.fieldLink RX12 77 "SagMemoryModel" "brokenAt" "[I") (wl_mem 29 rfl)) (fun _ h9 => h9) rfl dX12_turn_205 ?_
              refine lv_iload_n hx hb dX12_turn_208 rfl (lv_at hl 1 rfl) ?_
              refine lv_iload_n hx hb dX12_turn_209 rfl (lv_at hl 4 rfl) ?_
              refine va_iast hx hb hK hP hD hS 9 0 rfl rfl (vp_in_iff.mpr ⟨by omega, by omega⟩) dX12_turn_210 (fun H locs hP hD hS => ?_)
              obtain ⟨fz165, efz165, hP, hD⟩ : ∃ fz165 : Nat → Int32, fz165 = upd (aBa 0) rz28.toNatClampNeg p1 ∧ va_P (dC, dI) vwCl (List.flatten [(wmGb qGb k (va_up yGb 0 fz37)), (wmCt qCt k (va_up aCt 0 fz30)), (wmSm qSm k (va_up aSm 0 fz155)), (wmCo qCo k (va_up aCo 0 fz143)), (wmWb qWb k (va_up aWb 0 fz151)), (wmDn qDn k uz148), (wmMe qMe k az149), (wmWh qWh k az150), (wmBb qBb k (va_up aBb 0 fz164)), (wmBa qBa k (va_up aBa 0 fz165))] ++ List.flatten [(wMO qO k widthO manyO cellsO movedO tapeO linesO (qHa 0) (qBr 0) cartO (qWa 0) frostAtO actO isKeptO (qLn 0) (qBn 0) (qRw 0) (qMe 0) (qWh 0) (qDn 0) (qBb 0) (qBa 0) (qGb 0) (qCt 0) (qSm 0) (qCo 0) (qWb 0) deepAtO sagAtO loadAtO orderRowO oftenO lossOneO lossOtherO vO tO mO gO), (wmHa qHa k hHa), (wmWa qWa k jWa), (wmBn qBn k yBn), (wmLn qLn k aLn), (wmBr qBr k aBr), (wmRw qRw k rRw)]) H ∧ va_D A (List.flatten [(wmGb qGb k (va_up yGb 0 fz37)), (wmCt qCt k (va_up aCt 0 fz30)), (wmSm qSm k (va_up aSm 0 fz155)), (wmCo qCo k (va_up aCo 0 fz143)), (wmWb qWb k (va_up aWb 0 fz151)), (wmDn qDn k uz148), (wmMe qMe k az149), (wmWh qWh k az150), (wmBb qBb k (va_up aBb 0 fz164)), (wmBa qBa k (va_up aBa 0 fz165))] ++ List.flatten [(wMO qO k widthO manyO cellsO movedO tapeO linesO (qHa 0) (qBr 0) cartO (qWa 0) frostAtO actO isKeptO (qLn 0) (qBn 0) (qRw 0) (qMe 0) (qWh 0) (qDn 0) (qBb 0) (qBa 0) (qGb 0) (qCt 0) (qSm 0) (qCo 0) (qWb 0) deepAtO sagAtO loadAtO orderRowO oftenO lossOneO lossOtherO vO tO mO gO), (wmHa qHa k hHa), (wmWa qWa k jWa), (wmBn qBn k yBn), (wmLn qLn k aLn), (wmBr qBr k aBr), (wmRw qRw k rRw)]) := ⟨_, rfl, hP, hD⟩
              have kfz165 : fz165 rz28.toNatClampNeg = p1 := by rw [efz165]; exact pk_us
              rw [hQ]
              exact W.vret hx hb hr (fun t ht hW => ⟨⟨(), rfl, trivial, (va_up yGb 0 fz37), (va_up aCt 0 fz30), (va_up aSm 0 fz155), (va_up aCo 0 fz143), (va_up aWb 0 fz151), uz148, az149, az150, (va_up aBb 0 fz164), (va_up aBa 0 fz165), (rga_up hyGb hfz37), (ru_wk huz148 (by show ((T9 + 1) : Int) ≤ T9 + 1; omega)), by rw [ht]; exact hP⟩, hS.F ht⟩) hS.2.2 dX12_turn_211
            · skip
              have bz166 := fb_rng xz159
              have bz167 := fb_rng rz157
              have zz168 : ¬ xz159.toInt < rz157.toInt := fun h9 => cz160 (zi_lt.mpr h9)
              rw [hQ]
              exact W.vret hx hb hr (fun t ht hW => ⟨⟨(), rfl, trivial, (va_up yGb 0 fz37), (va_up aCt 0 fz30), (va_up aSm 0 fz155), (va_up aCo 0 fz143), (va_up aWb 0 fz151), uz148, az149, az150, aBb, aBa, (rga_up hyGb hfz37), (ru_wk huz148 (by show ((T9 + 1) : Int) ≤ T9 + 1; omega)), by rw [ht]; exact hP⟩, hS.F ht⟩) hS.2.2 dX12_turn_196
        · skip
          have zz169 : ¬ xz34.toInt = (-1 : Int) := fun h9 => cz35 (zi_eq.mpr h9)
          rw [hQ]
          exact W.vret hx hb hr (fun t ht hW => ⟨⟨(), rfl, trivial, (va_up yGb 0 fz17), (va_up aCt 0 fz30), (va_up aSm 0 fz19), (va_up aCo 0 fz20), (va_up aWb 0 fz21), uz12, az13, az14, aBb, aBa, (rga_up hyGb hfz17), (ru_wk huz12 (by show (T9 : Int) ≤ T9 + 1; omega)), by rw [ht]; exact hP⟩, hS.F ht⟩) hS.2.2 dX12_turn_97
    · skip
      have zz170 : ¬ rz23.toInt = (0 : Int) := fun h9 => cz25 (zi_eq.mpr h9)
      rw [hQ]
      exact W.vret hx hb hr (fun t ht hW => ⟨⟨(), rfl, trivial, (va_up yGb 0 fz17), (va_up aCt 0 fz18), (va_up aSm 0 fz19), (va_up aCo 0 fz20), (va_up aWb 0 fz21), uz12, az13, az14, aBb, aBa, (rga_up hyGb hfz17), (ru_wk huz12 (by show (T9 : Int) ≤ T9 + 1; omega)), by rw [ht]; exact hP⟩, hS.F ht⟩) hS.2.2 dX12_turn_68
  refine lv_if_eq (tgt := 15) hx hb dX12_turn_8 (by decide) (fun cz171 => ?_) (fun cz171 => ?_)
  · skip
    have zz172 : rz2.toInt = (0 : Int) := zi_eq.mp cz171
    exact ct15_kz15 s.heap [] ls uDn aMe aWh  huDn hP hD hS (lv_sub hl [0, 1] rfl)
  · skip
    have zz173 : ¬ rz2.toInt = (0 : Int) := fun h9 => cz171 (zi_eq.mpr h9)
    refine lv_aload_n hx hb dX12_turn_11 rfl (lv_at hl 0 rfl) ?_
    have hPc := hP.sub (ws' := (List.flatten [(wmDn qDn k uDn), (wmMe qMe k aMe), (wmWh qWh k aWh)] ++ List.flatten [(wMO qO k widthO manyO cellsO movedO tapeO linesO (qHa 0) (qBr 0) cartO (qWa 0) frostAtO actO isKeptO (qLn 0) (qBn 0) (qRw 0) (qMe 0) (qWh 0) (qDn 0) (qBb 0) (qBa 0) (qGb 0) (qCt 0) (qSm 0) (qCo 0) (qWb 0) deepAtO sagAtO loadAtO orderRowO oftenO lossOneO lossOtherO vO tO mO gO), (wmHa qHa k hHa)])) [5, 6, 7, 10, 11] rfl
    have hC : [5, 6, 7, 10, 11].map (fun i => (List.flatten [(wmGb qGb k yGb), (wmCt qCt k aCt), (wmSm qSm k aSm), (wmCo qCo k aCo), (wmWb qWb k aWb), (wmDn qDn k uDn), (wmMe qMe k aMe), (wmWh qWh k aWh), (wmBb qBb k aBb), (wmBa qBa k aBa)] ++ List.flatten [(wMO qO k widthO manyO cellsO movedO tapeO linesO (qHa 0) (qBr 0) cartO (qWa 0) frostAtO actO isKeptO (qLn 0) (qBn 0) (qRw 0) (qMe 0) (qWh 0) (qDn 0) (qBb 0) (qBa 0) (qGb 0) (qCt 0) (qSm 0) (qCo 0) (qWb 0) deepAtO sagAtO loadAtO orderRowO oftenO lossOneO lossOtherO vO tO mO gO), (wmHa qHa k hHa), (wmWa qWa k jWa), (wmBn qBn k yBn), (wmLn qLn k aLn), (wmBr qBr k aBr), (wmRw qRw k rRw)])[i]?) = (List.flatten [(wmDn qDn k uDn), (wmMe qMe k aMe), (wmWh qWh k aWh)] ++ List.flatten [(wMO qO k widthO manyO cellsO movedO tapeO linesO (qHa 0) (qBr 0) cartO (qWa 0) frostAtO actO isKeptO (qLn 0) (qBn 0) (qRw 0) (qMe 0) (qWh 0) (qDn 0) (qBb 0) (qBa 0) (qGb 0) (qCt 0) (qSm 0) (qCo 0) (qWb 0) deepAtO sagAtO loadAtO orderRowO oftenO lossOneO lossOtherO vO tO mO gO), (wmHa qHa k hHa)]).map some := rfl
    have hDc := hD.sub [5, 6, 7, 10, 11] (by decide) hC
    have hFc := va_free hD hS hA [5, 6, 7, 10, 11] hC
    refine va_callv (va_runV (As := []) (rest := []) ⟨hx, hb, hml, hown, hts⟩ (c_X12_freezes l dC dI k s.heap.size qO widthO manyO cellsO movedO tapeO linesO (qBr 0) cartO (qWa 0) frostAtO actO isKeptO (qLn 0) (qBn 0) (qRw 0) (qBb 0) (qBa 0) (qGb 0) (qCt 0) (qSm 0) (qCo 0) (qWb 0) deepAtO sagAtO loadAtO orderRowO oftenO lossOneO lossOtherO vO tO mO gO qHa hHa qDn uDn qMe aMe qWh aWh T9 htO hmO hhHa huDn (by show 0 ≤ T9 ∧ T9 ≤ 8; omega)) (cwV 0 hts (gk_V (wl_mem 4 rfl) (wl_mem 5 rfl) (wl_mem 6 rfl) (wl_mem 3 rfl) (fun w h => List.mem_cons_of_mem _ (List.mem_append_right _ (List.mem_append_right _ (List.mem_append_right _ (List.mem_append_left _ h))))) wkg_c_X12_freezes) rfl rfl rfl (by decide +kernel) ⟨Nat.le_of_ble_eq_true rfl, Nat.le_of_ble_eq_true rfl⟩) ⟨fun a U g mk q => by obtain ⟨q0, q1, qP, qK, qD⟩ := q; exact ⟨q0, q1, qP, va_K.moved (u := U) (U := U.calling g mk a) (Vm.Alike.refl U.vm) qK, qD⟩, va_recv hK hPc (ci := 12) (q0 := 3) rfl rfl, fun U hU hW => ⟨rfl, by rw [hU], by rw [hU]; exact hPc, va_K.moved hW.alike hK, hDc.weaken (fun _ _ _ _ => trivial)⟩⟩ rfl rfl hl.1 rfl (lv_room (Nat.le_of_ble_eq_true rfl)) dX12_turn_12 ⟨Nat.le_of_ble_eq_true rfl, Nat.le_of_ble_eq_true rfl⟩) hS (fun q _ h => hFc q h) hFc (fun u t H1 locs ht hvm gz174 hB hz1 hk1 hS => ?_)
    obtain ⟨uz176, az177, az178, huz176, hP1⟩ := hB
    rw [ht] at hP1
    obtain ⟨hP, hD⟩ := w_callR hP hD hk1 hP1 [5, 6, 7] rfl rfl (wk_memC [10, 11] rfl) rfl [none, none, none, none, none, some 0, some 1, some 2, none, none] rfl rfl
    clear hPc hC hDc hFc hk1 hP1
    generalize H1 = H at hP hS ⊢
    have hP : va_P (dC, dI) vwCl (List.flatten [(wmGb qGb k yGb), (wmCt qCt k aCt), (wmSm qSm k aSm), (wmCo qCo k aCo), (wmWb qWb k aWb), (wmDn qDn k uz176), (wmMe qMe k az177), (wmWh qWh k az178), (wmBb qBb k aBb), (wmBa qBa k aBa)] ++ List.flatten [(wMO qO k widthO manyO cellsO movedO tapeO linesO (qHa 0) (qBr 0) cartO (qWa 0) frostAtO actO isKeptO (qLn 0) (qBn 0) (qRw 0) (qMe 0) (qWh 0) (qDn 0) (qBb 0) (qBa 0) (qGb 0) (qCt 0) (qSm 0) (qCo 0) (qWb 0) deepAtO sagAtO loadAtO orderRowO oftenO lossOneO lossOtherO vO tO mO gO), (wmHa qHa k hHa), (wmWa qWa k jWa), (wmBn qBn k yBn), (wmLn qLn k aLn), (wmBr qBr k aBr), (wmRw qRw k rRw)]) H := hP
    have hD : va_D A (List.flatten [(wmGb qGb k yGb), (wmCt qCt k aCt), (wmSm qSm k aSm), (wmCo qCo k aCo), (wmWb qWb k aWb), (wmDn qDn k uz176), (wmMe qMe k az177), (wmWh qWh k az178), (wmBb qBb k aBb), (wmBa qBa k aBa)] ++ List.flatten [(wMO qO k widthO manyO cellsO movedO tapeO linesO (qHa 0) (qBr 0) cartO (qWa 0) frostAtO actO isKeptO (qLn 0) (qBn 0) (qRw 0) (qMe 0) (qWh 0) (qDn 0) (qBb 0) (qBa 0) (qGb 0) (qCt 0) (qSm 0) (qCo 0) (qWb 0) deepAtO sagAtO loadAtO orderRowO oftenO lossOneO lossOtherO vO tO mO gO), (wmHa qHa k hHa), (wmWa qWa k jWa), (wmBn qBn k yBn), (wmLn qLn k aLn), (wmBr qBr k aBr), (wmRw qRw k rRw)]) := hD
    refine W.widen (k := 0) (n := 0) (Nat.le_refl 0) (Nat.le_refl 0) ?_
    exact ct15_kz15 H locs ls uz176 az177 az178  huz176 hP hD hS (lv_sub hl [0, 1] rfl)
