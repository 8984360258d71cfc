def wk_c_X12_times : List Cond := .code yX12_times cX12_times 1 (some .long) :: ([.methodLink RX12 448 yX12_times, .static yX12_times, .initialized RX12] ++ ([]))
theorem wkg_c_X12_times : wk_c_X12_times.all goodWord = true := by decide +kernel
set_option maxHeartbeats 4000000 in
set_option maxRecDepth 100000 in
theorem c_X12_times (l : Launch) (dC : Nat → ClassId) (dI : Nat → Nat → Nat) (k : Nat → ClassId) : ∀ (d9 : Nat) (p1 : Int32) (hp0 : 1 ≤ ((d9 : Nat) : Int) ∧ p1.toInt < ((d9 : Nat) : Int)), Met l yX12_times wk_c_X12_times ({ frames := 0 + d9, cells := 0, slots := 0, locals := 0 + 20 * d9 }) (va_Pc [.int p1] (fun U => va_P (dC, dI) vwCl (List.flatten ([] : List va_W)) U.heap ∧ va_K (dC, dI) vwCl (tK k) U)) (vp_Sl (fun r : Int64 => (p1.toInt ≤ 7 → (1 ≤ r.toInt ∧ r.toInt = fct p1.toInt)))) 0 0 (fun _ => False) := by
  intro d9
  induction d9 with
  | zero => intro p1 hp0; exfalso; omega
  | succ d9 ih =>
    intro p1 hp0
    refine Met.ofW (cc := cX12_times) (maxL := 1) (ret := (some .long)) (by decide) rfl ?_
    intro p e s m args below meth c s₁ B hml hv
    obtain ⟨rfl, hP, hK⟩ := hv
    have hx := B.exec
    have hb := B.bytes
    have hr := B.returns
    have hts := atoms_spec (ws := wk_c_X12_times) B.pre
    have hown : s.vm.findClass RX12 = some m.cls := findClass_of_methodNamed B.named
    have hlocks := B.notSynchronized
    have hP : va_P (dC, dI) vwCl (List.flatten ([] : List va_W)) s.heap := hP
    have hl := lv_entry ([.int p1]) (n := 1) (Nat.le_of_ble_eq_true rfl)
    rw [lg_entry_eq]
    generalize (lg_sl ([.int p1]) ++ List.replicate (1 - (lg_sl ([.int p1])).length) Slot.unset).toArray = ls at hl ⊢
    have hl : lv_has ls 1 [(0, .int p1)] := hl
    refine w_gen (fun Q hQ => ?_)
    refine lv_iload_n hx hb dX12_times_0 rfl (lv_at hl 0 rfl) ?_
    refine lv_iconst (v := 2) hx hb dX12_times_1 (by decide) ?_
    refine lv_icmp_ge (tgt := 9) hx hb dX12_times_2 (by decide) (fun cz1 => ?_) (fun cz1 => ?_)
    · skip
      have bz2 := fb_rng p1
      have zz3 : (2 : Int) ≤ p1.toInt := zi_le.mp cz1
      refine lv_iload_n hx hb dX12_times_9 rfl (lv_at hl 0 rfl) ?_
      refine lv_i2l hx hb dX12_times_10 rfl ?_
      refine lv_iload_n hx hb dX12_times_11 rfl (lv_at hl 0 rfl) ?_
      refine lv_iconst (v := 1) hx hb dX12_times_12 (by decide) ?_
      refine lv_isub hx hb dX12_times_13 ?_
      refine lv_topi (fun xz4 exz4 => ?_)
      have fxz4 : xz4.toInt = p1.toInt - (1 : Int) := by rw [exz4]; exact fb_subI (x := p1) (y := (1 : Int32)) (by show -2147483648 ≤ p1.toInt - (1 : Int); omega) (by show p1.toInt - (1 : Int) < 2147483648; omega)
      have hPc : va_P (dC, dI) vwCl (List.flatten ([] : List va_W)) s.heap := fun k q h => by simp at h
      refine vp_callSl (va_Run.run (va_runS (As := [.int xz4]) (rest := [.long p1.toInt64]) ⟨hx, hb, hml, hown, hts⟩ (ih xz4 (by show 1 ≤ ((d9 : Nat) : Int) ∧ xz4.toInt < ((d9 : Nat) : Int); omega)) (va_cwS 1 hts (gk_S (wl_mem 0 rfl) (wl_mem 1 rfl) (wl_mem 2 rfl) (fun _ h => h) wkg_c_X12_times) rfl rfl rfl (by decide +kernel) ⟨by show (0 + d9) + 1 ≤ 0 + (d9 + 1); omega, by show 8 + (1 + 11) + (0 + 20 * d9) ≤ 0 + 20 * (d9 + 1); omega⟩) ⟨fun a U g mk q => by obtain ⟨q0, qP, qK⟩ := q; exact ⟨q0, qP, va_K.moved (u := U) (U := U.calling g mk a) (Vm.Alike.refl U.vm) qK⟩, fun U hU hW => ⟨rfl, by rw [hU]; exact hPc, va_K.moved hW.alike hK⟩⟩ rfl rfl hl.1 rfl (lv_room (Nat.le_of_ble_eq_true rfl)) dX12_times_14 ⟨Nat.le_of_ble_eq_true rfl, Nat.le_of_ble_eq_true rfl⟩)) (fun rz6 gz5 => ?_)
      clear hPc
      have pz7 := gz5
      have pz7 : xz4.toInt ≤ 7 → (1 ≤ rz6.toInt ∧ rz6.toInt = fct xz4.toInt) := pz7
      refine lv_lmul hx hb dX12_times_17 ?_
      refine lv_topl (fun xz8 exz8 => ?_)
      rw [hQ]
      exact W.lret (v := xz8) hx hb hr (fun t ht hW => ⟨xz8, rfl, (fct_mul exz8 pz7 (by show xz4.toInt = p1.toInt - 1; omega) (by omega)), ht⟩) (fun _ h => absurd h List.not_mem_nil) dX12_times_18
    · skip
      have bz9 := fb_rng p1
      have zz10 : ¬ (2 : Int) ≤ p1.toInt := fun h9 => cz1 (zi_le.mpr h9)
      refine lv_lconst (v := 1) hx hb dX12_times_5 (by decide) ?_
      refine lv_goto (tgt := 18) hx hb dX12_times_6 (by decide) ?_
      rw [hQ]
      exact W.lret (v := (1 : Int64)) hx hb hr (fun t ht hW => ⟨(1 : Int64), rfl, (fct_one (by omega)), ht⟩) (fun _ h => absurd h List.not_mem_nil) dX12_times_18
def wk_c_X12_common : List Cond := .code yX12_common cX12_common 4 (some .long) :: ([.methodLink RX12 452 yX12_common, .static yX12_common, .initialized RX12] ++ ([]))
theorem wkg_c_X12_common : wk_c_X12_common.all goodWord = true := by decide +kernel
set_option maxHeartbeats 4000000 in
set_option maxRecDepth 100000 in
theorem c_X12_common (l : Launch) (dC : Nat → ClassId) (dI : Nat → Nat → Nat) (k : Nat → ClassId) : ∀ (d9 : Nat) (p1 : Int64) (p2 : Int64) (hp0 : Cm d9 p1.toInt p2.toInt), Met l yX12_common wk_c_X12_common ({ frames := 0 + d9, cells := 0, slots := 0, locals := 0 + 23 * d9 }) (va_Pc [.long p1, .long p2] (fun U => va_P (dC, dI) vwCl (List.flatten ([] : List va_W)) U.heap ∧ va_K (dC, dI) vwCl (tK k) U)) (vp_Sl (fun r : Int64 => ((p1.toInt = 0 ∧ p2.toInt = 0) ∨ r.toInt ≠ 0))) 0 0 (fun _ => False) := by
  intro d9
  induction d9 with
  | zero => intro p1 p2 hp0; exact absurd hp0 cm_zero
  | succ d9 ih =>
    intro p1 p2 hp0
    refine Met.ofW (cc := cX12_common) (maxL := 4) (ret := (some .long)) (by decide) rfl ?_
    intro p e s m args below meth c s₁ B hml hv
    obtain ⟨rfl, hP, hK⟩ := hv
    have hx := B.exec
    have hb := B.bytes
    have hr := B.returns
    have hts := atoms_spec (ws := wk_c_X12_common) B.pre
    have hown : s.vm.findClass RX12 = some m.cls := findClass_of_methodNamed B.named
    have hlocks := B.notSynchronized
    have hP : va_P (dC, dI) vwCl (List.flatten ([] : List va_W)) s.heap := hP
    have hl := lv_entry ([.long p1, .long p2]) (n := 4) (Nat.le_of_ble_eq_true rfl)
    rw [lg_entry_eq]
    generalize (lg_sl ([.long p1, .long p2]) ++ List.replicate (4 - (lg_sl ([.long p1, .long p2])).length) Slot.unset).toArray = ls at hl ⊢
    have hl : lv_has ls 4 [(0, .long p1), (2, .long p2)] := hl
    refine w_gen (fun Q hQ => ?_)
    refine lv_lload_n hx hb dX12_common_0 rfl (lv_at hl 1 rfl) ?_
    refine lv_lconst (v := 0) hx hb dX12_common_1 (by decide) ?_
    refine W.lcmp hx hb dX12_common_2 ?_
    refine lv_if_ne (tgt := 21) hx hb dX12_common_3 (by decide) (fun cz1 => ?_) (fun cz1 => ?_)
    · skip
      rw [lg_cmp_eq] at cz1
      have zz2 : ¬ p2.toInt = (0 : Int) := fun h9 => cz1 (zi_eqL.mpr h9)
      refine lv_lload_n hx hb dX12_common_21 rfl (lv_at hl 1 rfl) ?_
      refine lv_lload_n hx hb dX12_common_22 rfl (lv_at hl 0 rfl) ?_
      refine lv_lload_n hx hb dX12_common_23 rfl (lv_at hl 1 rfl) ?_
      refine lv_lrem hx hb dX12_common_24 (fun h9 => by have h8 := zi_eqL.mp h9; have h8 : p2.toInt = (0 : Int) := h8; omega) ?_
      refine lv_topl (fun xz3 exz3 => ?_)
      have hPc : va_P (dC, dI) vwCl (List.flatten ([] : List va_W)) s.heap := fun k q h => by simp at h
      refine vp_callSl (va_Run.run (va_runS (As := [.long p2, .long xz3]) (rest := []) ⟨hx, hb, hml, hown, hts⟩ (ih p2 xz3 (cm_rec hp0 (by omega) exz3)) (va_cwS 2 hts (gk_S (wl_mem 0 rfl) (wl_mem 1 rfl) (wl_mem 2 rfl) (fun _ h => h) wkg_c_X12_common) rfl rfl rfl (by decide +kernel) ⟨by show (0 + d9) + 1 ≤ 0 + (d9 + 1); omega, by show 8 + (4 + 11) + (0 + 23 * d9) ≤ 0 + 23 * (d9 + 1); omega⟩) ⟨fun a U g mk q => by obtain ⟨q0, qP, qK⟩ := q; exact ⟨q0, qP, va_K.moved (u := U) (U := U.calling g mk a) (Vm.Alike.refl U.vm) qK⟩, fun U hU hW => ⟨rfl, by rw [hU]; exact hPc, va_K.moved hW.alike hK⟩⟩ rfl rfl hl.1 rfl (lv_room (Nat.le_of_ble_eq_true rfl)) dX12_common_25 ⟨Nat.le_of_ble_eq_true rfl, Nat.le_of_ble_eq_true rfl⟩)) (fun rz5 gz4 => ?_)
      clear hPc
      have pz6 := gz4
      have pz6 : (p2.toInt = 0 ∧ xz3.toInt = 0) ∨ rz5.toInt ≠ 0 := pz6
      rw [hQ]
      exact W.lret (v := rz5) hx hb hr (fun t ht hW => ⟨rz5, rfl, (by show (p1.toInt = 0 ∧ p2.toInt = 0) ∨ rz5.toInt ≠ 0; omega), ht⟩) (fun _ h => absurd h List.not_mem_nil) dX12_common_28
    · skip
      rw [lg_cmp_eq] at cz1
      have zz7 : p2.toInt = (0 : Int) := zi_eqL.mp cz1
      refine lv_lload_n hx hb dX12_common_6 rfl (lv_at hl 0 rfl) ?_
      refine lv_lconst (v := 0) hx hb dX12_common_7 (by decide) ?_
      refine W.lcmp hx hb dX12_common_8 ?_
      refine lv_if_ge (tgt := 17) hx hb dX12_common_9 (by decide) (fun cz8 => ?_) (fun cz8 => ?_)
      · skip
        rw [lg_cmp_ge] at cz8
        have zz9 : (0 : Int) ≤ p1.toInt := zi_leL.mp cz8
        refine lv_lload_n hx hb dX12_common_17 rfl (lv_at hl 0 rfl) ?_
        refine lv_goto (tgt := 28) hx hb dX12_common_18 (by decide) ?_
        rw [hQ]
        exact W.lret (v := p1) hx hb hr (fun t ht hW => ⟨p1, rfl, (by show (p1.toInt = 0 ∧ p2.toInt = 0) ∨ p1.toInt ≠ 0; omega), ht⟩) (fun _ h => absurd h List.not_mem_nil) dX12_common_28
      · skip
        rw [lg_cmp_ge] at cz8
        have zz10 : ¬ (0 : Int) ≤ p1.toInt := fun h9 => cz8 (zi_leL.mpr h9)
        refine lv_lload_n hx hb dX12_common_12 rfl (lv_at hl 0 rfl) ?_
        refine lv_lneg hx hb dX12_common_13 ?_
        refine lv_topl (fun xz11 exz11 => ?_)
        have fxz11 : xz11.toInt ≠ 0 ∨ p1.toInt = 0 := by rw [exz11]; exact znegL _
        refine lv_goto (tgt := 28) hx hb dX12_common_14 (by decide) ?_
        rw [hQ]
        exact W.lret (v := xz11) hx hb hr (fun t ht hW => ⟨xz11, rfl, (by show (p1.toInt = 0 ∧ p2.toInt = 0) ∨ xz11.toInt ≠ 0; omega), ht⟩) (fun _ h => absurd h List.not_mem_nil) dX12_common_28
def wk_c_X12_part : List Cond := .code yX12_part cX12_part 5 (some .long) :: ([.methodLink RX12 452 yX12_common, .static yX12_common, .initialized RX12] ++ (wk_c_X12_common ++ []))
theorem wkg_c_X12_part : wk_c_X12_part.all goodWord = true := by decide +kernel
set_option maxHeartbeats 4000000 in
set_option maxRecDepth 100000 in
theorem c_X12_part (l : Launch) (dC : Nat → ClassId) (dI : Nat → Nat → Nat) (k : Nat → ClassId) (p1 : Int64) (p2 : Int64) (p3 : Int32) (hp0 : p2.toInt ≠ 0) : Met l yX12_part wk_c_X12_part ({ frames := 130, cells := 0, slots := 0, locals := 2990 }) (va_Pc [.long p1, .long p2, .int p3] (fun U => va_P (dC, dI) vwCl (List.flatten ([] : List va_W)) U.heap ∧ va_K (dC, dI) vwCl (tK k) U)) (vp_Sl (fun r : Int64 => True)) 0 0 (fun _ => False) := by
  refine Met.ofW (cc := cX12_part) (maxL := 5) (ret := (some .long)) (by decide) rfl ?_
  intro p e s m args below meth c s₁ B hml hv
  obtain ⟨rfl, hP, hK⟩ := hv
  have hx := B.exec
  have hb := B.bytes
  have hr := B.returns
  have hts := atoms_spec (ws := wk_c_X12_part) B.pre
  have hown : s.vm.findClass RX12 = some m.cls := findClass_of_methodNamed B.named
  have hlocks := B.notSynchronized
  have hP : va_P (dC, dI) vwCl (List.flatten ([] : List va_W)) s.heap := hP
  have hl := lv_entry ([.long p1, .long p2, .int p3]) (n := 5) (Nat.le_of_ble_eq_true rfl)
  rw [lg_entry_eq]
  generalize (lg_sl ([.long p1, .long p2, .int p3]) ++ List.replicate (5 - (lg_sl ([.long p1, .long p2, .int p3])).length) Slot.unset).toArray = ls at hl ⊢
  have hl : lv_has ls 5 [(0, .long p1), (2, .long p2), (4, .int p3)] := hl
  refine w_gen (fun Q hQ => ?_)
  refine lv_iload hx hb dX12_part_0 (lv_at hl 2 rfl) ?_
  refine lv_if_ne (tgt := 9) hx hb dX12_part_2 (by decide) (fun cz1 => ?_) (fun cz1 => ?_)
  · skip
    have zz2 : ¬ p3.toInt = (0 : Int) := fun h9 => cz1 (zi_eq.mpr h9)
    refine lv_lload_n hx hb dX12_part_9 rfl (lv_at hl 1 rfl) ?_
    refine lv_lload_n hx hb dX12_part_10 rfl (lv_at hl 0 rfl) ?_
    refine lv_lload_n hx hb dX12_part_11 rfl (lv_at hl 1 rfl) ?_
    have hPc : va_P (dC, dI) vwCl (List.flatten ([] : List va_W)) s.heap := fun k q h => by simp at h
    refine vp_callSl (va_Run.run (va_runS (As := [.long p1, .long p2]) (rest := [.long p2]) ⟨hx, hb, hml, hown, hts⟩ (c_X12_common l dC dI k 129 p1 p2 (cm_start _ _)) (va_cwS 2 hts (gk_S (wl_mem 0 rfl) (wl_mem 1 rfl) (wl_mem 2 rfl) (fun w h => List.mem_cons_of_mem _ (List.mem_append_right _ (List.mem_append_left _ h))) wkg_c_X12_common) rfl rfl rfl (by decide +kernel) ⟨Nat.le_of_ble_eq_true rfl, Nat.le_of_ble_eq_true rfl⟩) ⟨fun a U g mk q => by obtain ⟨q0, qP, qK⟩ := q; exact ⟨q0, qP, va_K.moved (u := U) (U := U.calling g mk a) (Vm.Alike.refl U.vm) qK⟩, fun U hU hW => ⟨rfl, by rw [hU]; exact hPc, va_K.moved hW.alike hK⟩⟩ rfl rfl hl.1 rfl (lv_room (Nat.le_of_ble_eq_true rfl)) dX12_part_12 ⟨Nat.le_of_ble_eq_true rfl, Nat.le_of_ble_eq_true rfl⟩)) (fun rz4 gz3 => ?_)
    clear hPc
    have pz5 := gz3
    have pz5 : (p1.toInt = 0 ∧ p2.toInt = 0) ∨ rz4.toInt ≠ 0 := pz5
    refine lv_ldiv hx hb dX12_part_15 (fun h9 => by have h8 := zi_eqL.mp h9; have h8 : rz4.toInt = (0 : Int) := h8; omega) ?_
    refine lv_topl (fun xz6 exz6 => ?_)
    rw [hQ]
    exact W.lret (v := xz6) hx hb hr (fun t ht hW => ⟨xz6, rfl, trivial, ht⟩) (fun _ h => absurd h List.not_mem_nil) dX12_part_16
  · skip
    have zz7 : p3.toInt = (0 : Int) := zi_eq.mp cz1
    refine lv_lload_n hx hb dX12_part_5 rfl (lv_at hl 0 rfl) ?_
    refine lv_goto (tgt := 10) hx hb dX12_part_6 (by decide) ?_
    refine lv_lload_n hx hb dX12_part_10 rfl (lv_at hl 0 rfl) ?_
    refine lv_lload_n hx hb dX12_part_11 rfl (lv_at hl 1 rfl) ?_
    have hPc : va_P (dC, dI) vwCl (List.flatten ([] : List va_W)) s.heap := fun k q h => by simp at h
    refine vp_callSl (va_Run.run (va_runS (As := [.long p1, .long p2]) (rest := [.long p1]) ⟨hx, hb, hml, hown, hts⟩ (c_X12_common l dC dI k 129 p1 p2 (cm_start _ _)) (va_cwS 2 hts (gk_S (wl_mem 0 rfl) (wl_mem 1 rfl) (wl_mem 2 rfl) (fun w h => List.mem_cons_of_mem _ (List.mem_append_right _ (List.mem_append_left _ h))) wkg_c_X12_common) rfl rfl rfl (by decide +kernel) ⟨Nat.le_of_ble_eq_true rfl, Nat.le_of_ble_eq_true rfl⟩) ⟨fun a U g mk q => by obtain ⟨q0, qP, qK⟩ := q; exact ⟨q0, qP, va_K.moved (u := U) (U := U.calling g mk a) (Vm.Alike.refl U.vm) qK⟩, fun U hU hW => ⟨rfl, by rw [hU]; exact hPc, va_K.moved hW.alike hK⟩⟩ rfl rfl hl.1 rfl (lv_room (Nat.le_of_ble_eq_true rfl)) dX12_part_12 ⟨Nat.le_of_ble_eq_true rfl, Nat.le_of_ble_eq_true rfl⟩)) (fun rz9 gz8 => ?_)
    clear hPc
    have pz10 := gz8
    have pz10 : (p1.toInt = 0 ∧ p2.toInt = 0) ∨ rz9.toInt ≠ 0 := pz10
    refine lv_ldiv hx hb dX12_part_15 (fun h9 => by have h8 := zi_eqL.mp h9; have h8 : rz9.toInt = (0 : Int) := h8; omega) ?_
    refine lv_topl (fun xz11 exz11 => ?_)
    rw [hQ]
    exact W.lret (v := xz11) hx hb hr (fun t ht hW => ⟨xz11, rfl, trivial, ht⟩) (fun _ h => absurd h List.not_mem_nil) dX12_part_16
def wk_c_X12_share : List Cond := .code yX12_share cX12_share 8 (some .int) :: ([.fieldLink RX12 116 "SagMemoryModel" "thrown" "I", .methodLink RX12 289 yX12_isCart, .instanceMethod yX12_isCart, .selects RX12 yX12_isCart yX12_isCart, .initialized RX12, .methodLink RX12 342 yX12_isHalf, .static yX12_isHalf, .methodLink RX12 286 yX12_carts, .instanceMethod yX12_carts, .selects RX12 yX12_carts yX12_carts, .methodLink RX12 307 yX12_isBit, .static yX12_isBit, .methodLink RX12 407 yX12_sizeOf, .static yX12_sizeOf, .methodLink RX12 448 yX12_times, .static yX12_times, .methodLink RX12 389 yX12_sagWithout, .instanceMethod yX12_sagWithout, .selects RX12 yX12_sagWithout yX12_sagWithout, .methodLink RX12 456 yX12_part, .static yX12_part] ++ (wsX120 ++ (wk_c_X12_isCart ++ (wk_c_X12_isHalf ++ (wk_c_X12_carts ++ (wk_c_X12_isBit ++ (wk_c_X12_sizeOf ++ (wk_c_X12_times ++ (wk_c_X12_sagWithout ++ (wk_c_X12_part ++ []))))))))))
theorem wkg_c_X12_share : wk_c_X12_share.all goodWord = true := by decide +kernel
set_option maxHeartbeats 4000000 in
set_option maxRecDepth 100000 in
theorem c_X12_share (l : Launch) (dC : Nat → ClassId) (dI : Nat → Nat → Nat) (k : Nat → ClassId) (sz : Nat) (qO : Nat → Nat) (widthO : Nat) (manyO : Nat) (cellsO : Nat) (movedO : Nat) (tapeO : Nat) (linesO : Nat) (isKeptO : Nat) (orderRowO : Nat) (oftenO : Nat) (lossOneO : Nat) (lossOtherO : Nat) (vO : Nat → Int32) (tO : Nat → Int32) (mO : Nat → Int32) (gO : Nat → Int64) (qHa : Nat → Nat) (hHa : Nat → Nat → Int32) (qFr : Nat → Nat) (aFr : Nat → Nat → Int32) (qCa : Nat → Nat) (pCa : Nat → Nat → Int32) (qAc : Nat → Nat) (iAc : Nat → Nat → Int32) (qLn : Nat → Nat) (aLn : Nat → Nat → Int32) (qBn : Nat → Nat) (yBn : Nat → Nat → Int32) (qRw : Nat → Nat) (rRw : Nat → Nat → Int32) (qWa : Nat → Nat) (jWa : Nat → Nat → Int32) (qBr : Nat → Nat) (aBr : Nat → Nat → Int32) (qGb : Nat → Nat) (yGb : Nat → Nat → Int32) (qCt : Nat → Nat) (aCt : Nat → Nat → Int32) (qSm : Nat → Nat) (aSm : Nat → Nat → Int32) (qCo : Nat → Nat) (aCo : Nat → Nat → Int32) (qWb : Nat → Nat) (aWb : Nat → Nat → Int32) (qDn : Nat → Nat) (uDn : Nat → Nat → Int32) (qMe : Nat → Nat) (aMe : Nat → Nat → Int32) (qWh : Nat → Nat) (aWh : Nat → Nat → Int32) (qBb : Nat → Nat) (aBb : Nat → Nat → Int32) (qBa : Nat → Nat) (aBa : Nat → Nat → Int32) (qDa : Nat → Nat) (oDa : Nat → Nat → Int32) (qSa : Nat → Nat) (aSa : Nat → Nat → Int32) (qLa : Nat → Nat) (aLa : Nat → Nat → Int32) (p1 : Int32) (p2 : Int32) (htO : Rg 0 700 tO) (hmO : Rg (-1) 127 mO) (hhHa : Pa_h hHa) (hpCa : Pa_p pCa) (hiAc : Pa_i iAc) (hyBn : RgA (-1) 2 yBn) (hrRw : RgA 0 6 rRw) (hjWa : Pa_j jWa) (hyGb : RgA (-1) 2 yGb) (huDn : RuA 8 uDn) (hoDa : RgA 0 7 oDa) : Met l yX12_share wk_c_X12_share ({ frames := 131, cells := 0, slots := 0, locals := 3014 }) (va_Pc [.ref (qO 0), .int p1, .int p2] (fun U => U.heap.size = sz ∧ va_P (dC, dI) vwCl (List.flatten [(wMO qO k widthO manyO cellsO movedO tapeO linesO (qHa 0) (qBr 0) (qCa 0) (qWa 0) (qFr 0) (qAc 0) isKeptO (qLn 0) (qBn 0) (qRw 0) (qMe 0) (qWh 0) (qDn 0) (qBb 0) (qBa 0) (qGb 0) (qCt 0) (qSm 0) (qCo 0) (qWb 0) (qDa 0) (qSa 0) (qLa 0) orderRowO oftenO lossOneO lossOtherO vO tO mO gO), (wmLn qLn k aLn), (wmBn qBn k yBn), (wmRw qRw k rRw), (wmGb qGb k yGb), (wmCt qCt k aCt), (wmSm qSm k aSm), (wmCo qCo k aCo), (wmWb qWb k aWb), (wmDn qDn k uDn), (wmMe qMe k aMe), (wmWh qWh k aWh), (wmBb qBb k aBb), (wmBa qBa k aBa), (wmDa qDa k oDa), (wmSa qSa k aSa), (wmLa qLa k aLa)] ++ List.flatten [(wmHa qHa k hHa), (wmFr qFr k aFr), (wmCa qCa k pCa), (wmAc qAc k iAc), (wmWa qWa k jWa), (wmBr qBr k aBr)]) U.heap ∧ va_K (dC, dI) vwCl (tK k) U ∧ va_D (fun _ => True) (List.flatten [(wMO qO k widthO manyO cellsO movedO tapeO linesO (qHa 0) (qBr 0) (qCa 0) (qWa 0) (qFr 0) (qAc 0) isKeptO (qLn 0) (qBn 0) (qRw 0) (qMe 0) (qWh 0) (qDn 0) (qBb 0) (qBa 0) (qGb 0) (qCt 0) (qSm 0) (qCo 0) (qWb 0) (qDa 0) (qSa 0) (qLa 0) orderRowO oftenO lossOneO lossOtherO vO tO mO gO), (wmLn qLn k aLn), (wmBn qBn k yBn), (wmRw qRw k rRw), (wmGb qGb k yGb), (wmCt qCt k aCt), (wmSm qSm k aSm), (wmCo qCo k aCo), (wmWb qWb k aWb), (wmDn qDn k uDn), (wmMe qMe k aMe), (wmWh qWh k aWh), (wmBb qBb k aBb), (wmBa qBa k aBa), (wmDa qDa k oDa), (wmSa qSa k aSa), (wmLa qLa k aLa)] ++ List.flatten [(wmHa qHa k hHa), (wmFr qFr k aFr), (wmCa qCa k pCa), (wmAc qAc k iAc), (wmWa qWa k jWa), (wmBr qBr k aBr)]))) (va_Qi (fun (r : Int32) (_ : Unit) => True) (fun (_ : Unit) (t : State) => ∃ (vO' : Nat → Int32) (tO' : Nat → Int32) (mO' : Nat → Int32) (gO' : Nat → Int64) (aLn' : Nat → Nat → Int32) (yBn' : Nat → Nat → Int32) (rRw' : Nat → Nat → Int32) (yGb' : Nat → Nat → Int32) (aCt' : Nat → Nat → Int32) (aSm' : Nat → Nat → Int32) (aCo' : Nat → Nat → Int32) (aWb' : Nat → Nat → Int32) (uDn' : Nat → Nat → Int32) (aMe' : Nat → Nat → Int32) (aWh' : Nat → Nat → Int32) (aBb' : Nat → Nat → Int32) (aBa' : Nat → Nat → Int32) (oDa' : Nat → Nat → Int32) (aSa' : Nat → Nat → Int32) (aLa' : Nat → Nat → Int32), Rg 0 700 tO' ∧ Rg (-1) 127 mO' ∧ RgA (-1) 2 yBn' ∧ RgA 0 6 rRw' ∧ RgA (-1) 2 yGb' ∧ RuA 8 uDn' ∧ RgA 0 7 oDa' ∧ va_P (dC, dI) vwCl (List.flatten [(wMO qO k widthO manyO cellsO movedO tapeO linesO (qHa 0) (qBr 0) (qCa 0) (qWa 0) (qFr 0) (qAc 0) isKeptO (qLn 0) (qBn 0) (qRw 0) (qMe 0) (qWh 0) (qDn 0) (qBb 0) (qBa 0) (qGb 0) (qCt 0) (qSm 0) (qCo 0) (qWb 0) (qDa 0) (qSa 0) (qLa 0) orderRowO oftenO lossOneO lossOtherO vO' tO' mO' gO'), (wmLn qLn k aLn'), (wmBn qBn k yBn'), (wmRw qRw k rRw'), (wmGb qGb k yGb'), (wmCt qCt k aCt'), (wmSm qSm k aSm'), (wmCo qCo k aCo'), (wmWb qWb k aWb'), (wmDn qDn k uDn'), (wmMe qMe k aMe'), (wmWh qWh k aWh'), (wmBb qBb k aBb'), (wmBa qBa k aBa'), (wmDa qDa k oDa'), (wmSa qSa k aSa'), (wmLa qLa k aLa')] ++ List.flatten [(wmHa qHa k hHa), (wmFr qFr k aFr), (wmCa qCa k pCa), (wmAc qAc k iAc), (wmWa qWa k jWa), (wmBr qBr k aBr)]) t.heap) (va_A (List.flatten [(wMO qO k widthO manyO cellsO movedO tapeO linesO (qHa 0) (qBr 0) (qCa 0) (qWa 0) (qFr 0) (qAc 0) isKeptO (qLn 0) (qBn 0) (qRw 0) (qMe 0) (qWh 0) (qDn 0) (qBb 0) (qBa 0) (qGb 0) (qCt 0) (qSm 0) (qCo 0) (qWb 0) (qDa 0) (qSa 0) (qLa 0) orderRowO oftenO lossOneO lossOtherO vO tO mO gO), (wmLn qLn k aLn), (wmBn qBn k yBn), (wmRw qRw k rRw), (wmGb qGb k yGb), (wmCt qCt k aCt), (wmSm qSm k aSm), (wmCo qCo k aCo), (wmWb qWb k aWb), (wmDn qDn k uDn), (wmMe qMe k aMe), (wmWh qWh k aWh), (wmBb qBb k aBb), (wmBa qBa k aBa), (wmDa qDa k oDa), (wmSa qSa k aSa), (wmLa qLa k aLa)] ++ List.flatten [(wmHa qHa k hHa), (wmFr qFr k aFr), (wmCa qCa k pCa), (wmAc qAc k iAc), (wmWa qWa k jWa), (wmBr qBr k aBr)]) sz)) 0 0 (va_A (List.flatten [(wMO qO k widthO manyO cellsO movedO tapeO linesO (qHa 0) (qBr 0) (qCa 0) (qWa 0) (qFr 0) (qAc 0) isKeptO (qLn 0) (qBn 0) (qRw 0) (qMe 0) (qWh 0) (qDn 0) (qBb 0) (qBa 0) (qGb 0) (qCt 0) (qSm 0) (qCo 0) (qWb 0) (qDa 0) (qSa 0) (qLa 0) orderRowO oftenO lossOneO lossOtherO vO tO mO gO), (wmLn qLn k aLn), (wmBn qBn k yBn), (wmRw qRw k rRw), (wmGb qGb k yGb), (wmCt qCt k aCt), (wmSm qSm k aSm), (wmCo qCo k aCo), (wmWb qWb k aWb), (wmDn qDn k uDn), (wmMe qMe k aMe), (wmWh qWh k aWh), (wmBb qBb k aBb), (wmBa qBa k aBa), (wmDa qDa k oDa), (wmSa qSa k aSa), (wmLa qLa k aLa)] ++ List.flatten [(wmHa qHa k hHa), (wmFr qFr k aFr), (wmCa qCa k pCa), (wmAc qAc k iAc), (wmWa qWa k jWa), (wmBr qBr k aBr)]) sz) := by
  refine Met.ofW (cc := cX12_share) (maxL := 8) (ret := (some .int)) (by decide) rfl ?_
  intro p e s m args below meth c s₁ B hml hv
  obtain ⟨rfl, hsz, hP, hK, hD0⟩ := hv
  have hx := B.exec
  have hb := B.bytes
  have hr := B.returns
  have hts := atoms_spec (ws := wk_c_X12_share) B.pre
  have hown : s.vm.findClass RX12 = some m.cls := findClass_of_methodNamed B.named
  have hlocks := B.notSynchronized
  subst hsz
  have hD := hD0.self (sz := s.heap.size)
  generalize hAe : va_A (List.flatten [(wMO qO k widthO manyO cellsO movedO tapeO linesO (qHa 0) (qBr 0) (qCa 0) (qWa 0) (qFr 0) (qAc 0) isKeptO (qLn 0) (qBn 0) (qRw 0) (qMe 0) (qWh 0) (qDn 0) (qBb 0) (qBa 0) (qGb 0) (qCt 0) (qSm 0) (qCo 0) (qWb 0) (qDa 0) (qSa 0) (qLa 0) orderRowO oftenO lossOneO lossOtherO vO tO mO gO), (wmLn qLn k aLn), (wmBn qBn k yBn), (wmRw qRw k rRw), (wmGb qGb k yGb), (wmCt qCt k aCt), (wmSm qSm k aSm), (wmCo qCo k aCo), (wmWb qWb k aWb), (wmDn qDn k uDn), (wmMe qMe k aMe), (wmWh qWh k aWh), (wmBb qBb k aBb), (wmBa qBa k aBa), (wmDa qDa k oDa), (wmSa qSa k aSa), (wmLa qLa k aLa)] ++ List.flatten [(wmHa qHa k hHa), (wmFr qFr k aFr), (wmCa qCa k pCa), (wmAc qAc k iAc), (wmWa qWa k jWa), (wmBr qBr k aBr)]) s.heap.size = A at hD ⊢
  have hA : ∀ q : Nat, s.heap.size ≤ q → A q := fun q h => by rw [← hAe]; exact Or.inr h
  have hS : va_S A s.heap s.heap [] := va_S.rf
  have hP : va_P (dC, dI) vwCl (List.flatten [(wMO qO k widthO manyO cellsO movedO tapeO linesO (qHa 0) (qBr 0) (qCa 0) (qWa 0) (qFr 0) (qAc 0) isKeptO (qLn 0) (qBn 0) (qRw 0) (qMe 0) (qWh 0) (qDn 0) (qBb 0) (qBa 0) (qGb 0) (qCt 0) (qSm 0) (qCo 0) (qWb 0) (qDa 0) (qSa 0) (qLa 0) orderRowO oftenO lossOneO lossOtherO vO tO mO gO), (wmLn qLn k aLn), (wmBn qBn k yBn), (wmRw qRw k rRw), (wmGb qGb k yGb), (wmCt qCt k aCt), (wmSm qSm k aSm), (wmCo qCo k aCo), (wmWb qWb k aWb), (wmDn qDn k uDn), (wmMe qMe k aMe), (wmWh qWh k aWh), (wmBb qBb k aBb), (wmBa qBa k aBa), (wmDa qDa k oDa), (wmSa qSa k aSa), (wmLa qLa k aLa)] ++ List.flatten [(wmHa qHa k hHa), (wmFr qFr k aFr), (wmCa qCa k pCa), (wmAc qAc k iAc), (wmWa qWa k jWa), (wmBr qBr k aBr)]) s.heap := hP
  have hl := lv_entry ([.ref (qO 0), .int p1, .int p2]) (n := 8) (Nat.le_of_ble_eq_true rfl)
  rw [lg_entry_eq]
  generalize (lg_sl ([.ref (qO 0), .int p1, .int p2]) ++ List.replicate (8 - (lg_sl ([.ref (qO 0), .int p1, .int p2])).length) Slot.unset).toArray = ls at hl ⊢
  have hl : lv_has ls 8 [(0, .ref (qO 0)), (1, .int p1), (2, .int p2)] := hl
  refine w_gen (fun Q hQ => ?_)
  refine lv_aload_n hx hb dX12_share_0 rfl (lv_at hl 0 rfl) ?_
  refine lv_iconst (v := 0) hx hb dX12_share_1 (by decide) ?_
  refine va_put (D := (dC, dI)) (ci := 12) (v := .int 0) (ty := .int) (C := RX12) (T := TX12) (N := 59) hx hb hts (fun w h => List.mem_cons_of_mem _ (List.mem_append_right _ (List.mem_append_left _ h))) tyX12 tyX12_ok nmX12 hown hK hP hD hS 0 rfl rfl 0 (by decide) (hts (.fieldLink RX12 116 "SagMemoryModel" "thrown" "I") (wl_mem 0 rfl)) (fun _ h9 => h9) rfl (by decide +kernel) rfl rfl (Nat.le_of_ble_eq_true rfl) dX12_share_2 (fun H locs hP hD hS => ?_)
  have hP : va_P (dC, dI) vwCl (List.flatten [(wMO qO k widthO manyO cellsO movedO tapeO linesO (qHa 0) (qBr 0) (qCa 0) (qWa 0) (qFr 0) (qAc 0) isKeptO (qLn 0) (qBn 0) (qRw 0) (qMe 0) (qWh 0) (qDn 0) (qBb 0) (qBa 0) (qGb 0) (qCt 0) (qSm 0) (qCo 0) (qWb 0) (qDa 0) (qSa 0) (qLa 0) orderRowO oftenO lossOneO lossOtherO (va_up vO 0 (0 : Int32)) tO mO gO), (wmLn qLn k aLn), (wmBn qBn k yBn), (wmRw qRw k rRw), (wmGb qGb k yGb), (wmCt qCt k aCt), (wmSm qSm k aSm), (wmCo qCo k aCo), (wmWb qWb k aWb), (wmDn qDn k uDn), (wmMe qMe k aMe), (wmWh qWh k aWh), (wmBb qBb k aBb), (wmBa qBa k aBa), (wmDa qDa k oDa), (wmSa qSa k aSa), (wmLa qLa k aLa)] ++ List.flatten [(wmHa qHa k hHa), (wmFr qFr k aFr), (wmCa qCa k pCa), (wmAc qAc k iAc), (wmWa qWa k jWa), (wmBr qBr k aBr)]) H := hP
  have hD : va_D A (List.flatten [(wMO qO k widthO manyO cellsO movedO tapeO linesO (qHa 0) (qBr 0) (qCa 0) (qWa 0) (qFr 0) (qAc 0) isKeptO (qLn 0) (qBn 0) (qRw 0) (qMe 0) (qWh 0) (qDn 0) (qBb 0) (qBa 0) (qGb 0) (qCt 0) (qSm 0) (qCo 0) (qWb 0) (qDa 0) (qSa 0) (qLa 0) orderRowO oftenO lossOneO lossOtherO (va_up vO 0 (0 : Int32)) tO mO gO), (wmLn qLn k aLn), (wmBn qBn k yBn), (wmRw qRw k rRw), (wmGb qGb k yGb), (wmCt qCt k aCt), (wmSm qSm k aSm), (wmCo qCo k aCo), (wmWb qWb k aWb), (wmDn qDn k uDn), (wmMe qMe k aMe), (wmWh qWh k aWh), (wmBb qBb k aBb), (wmBa qBa k aBa), (wmDa qDa k oDa), (wmSa qSa k aSa), (wmLa qLa k aLa)] ++ List.flatten [(wmHa qHa k hHa), (wmFr qFr k aFr), (wmCa qCa k pCa), (wmAc qAc k iAc), (wmWa qWa k jWa), (wmBr qBr k aBr)]) := hD
  refine lv_aload_n hx hb dX12_share_5 rfl (lv_at hl 0 rfl) ?_
  refine lv_iload_n hx hb dX12_share_6 rfl (lv_at hl 1 rfl) ?_
  refine lv_i2l hx hb dX12_share_7 rfl ?_
  have hPc := hP.sub (ws' := (List.flatten [(wMO qO k widthO manyO cellsO movedO tapeO linesO (qHa 0) (qBr 0) (qCa 0) (qWa 0) (qFr 0) (qAc 0) isKeptO (qLn 0) (qBn 0) (qRw 0) (qMe 0) (qWh 0) (qDn 0) (qBb 0) (qBa 0) (qGb 0) (qCt 0) (qSm 0) (qCo 0) (qWb 0) (qDa 0) (qSa 0) (qLa 0) orderRowO oftenO lossOneO lossOtherO (va_up vO 0 (0 : Int32)) tO mO gO), (wmHa qHa k hHa)])) [0, 17] rfl
  refine vp_callSi (va_Run.run (va_runV (As := [.long p1.toInt64]) (rest := []) ⟨hx, hb, hml, hown, hts⟩ (c_X12_isCart l dC dI k qO widthO manyO cellsO movedO tapeO linesO (qBr 0) (qCa 0) (qWa 0) (qFr 0) (qAc 0) isKeptO (qLn 0) (qBn 0) (qRw 0) (qMe 0) (qWh 0) (qDn 0) (qBb 0) (qBa 0) (qGb 0) (qCt 0) (qSm 0) (qCo 0) (qWb 0) (qDa 0) (qSa 0) (qLa 0) orderRowO oftenO lossOneO lossOtherO (va_up vO 0 (0 : Int32)) tO mO gO qHa hHa p1.toInt64 htO hmO hhHa) (cwV 1 hts (gk_V (wl_mem 1 rfl) (wl_mem 2 rfl) (wl_mem 3 rfl) (wl_mem 4 rfl) (fun w h => List.mem_cons_of_mem _ (List.mem_append_right _ (List.mem_append_right _ (List.mem_append_left _ h)))) wkg_c_X12_isCart) rfl rfl rfl (by decide +kernel) ⟨Nat.le_of_ble_eq_true rfl, Nat.le_of_ble_eq_true rfl⟩) ⟨fun a U g mk q => by obtain ⟨q0, qP, qK⟩ := q; exact ⟨q0, qP, va_K.moved (u := U) (U := U.calling g mk a) (Vm.Alike.refl U.vm) qK⟩, va_recv hK hPc (ci := 12) (q0 := 0) rfl rfl, fun U hU hW => ⟨rfl, by rw [hU]; exact hPc, va_K.moved hW.alike hK⟩⟩ rfl rfl hl.1 rfl (lv_room (Nat.le_of_ble_eq_true rfl)) dX12_share_8 ⟨Nat.le_of_ble_eq_true rfl, Nat.le_of_ble_eq_true rfl⟩)) (fun rz2 gz1 => ?_)
  clear hPc
  obtain ⟨pz3, pz4⟩ := gz1
  have pz3 : rz2.toInt = 0 ∨ rz2.toInt = 1 := by first | exact pz3 | (simp only [Int32.toInt_toInt64] at pz3; exact pz3)
  have pz4 : rz2.toInt = 0 ∨ (0 ≤ p1.toInt ∧ p1.toInt ≤ 6) := by first | exact pz4 | (simp only [Int32.toInt_toInt64] at pz4; exact pz4)
  refine lv_if_eq (tgt := 21) hx hb dX12_share_11 (by decide) (fun cz5 => ?_) (fun cz5 => ?_)
  · skip
    have zz6 : rz2.toInt = (0 : Int) := zi_eq.mp cz5
    refine lv_bipush (v := (-2)) hx hb dX12_share_21 (by decide) ?_
    rw [hQ]
    exact W.iret (v := (-2 : Int32)) hx hb hr (fun t ht hW => ⟨⟨(-2 : Int32), (), rfl, trivial, (va_up vO 0 (0 : Int32)), tO, mO, gO, aLn, yBn, rRw, yGb, aCt, aSm, aCo, aWb, uDn, aMe, aWh, aBb, aBa, oDa, aSa, aLa, htO, hmO, hyBn, hrRw, hyGb, huDn, hoDa, by rw [ht]; exact hP⟩, hS.F ht⟩) hS.2.2 dX12_share_23
  · skip
    have zz7 : ¬ rz2.toInt = (0 : Int) := fun h9 => cz5 (zi_eq.mpr h9)
    refine lv_iload_n hx hb dX12_share_14 rfl (lv_at hl 2 rfl) ?_
    have hPc : va_P (dC, dI) vwCl (List.flatten ([] : List va_W)) H := fun k q h => by simp at h
    refine vp_callSi (va_Run.run (va_runS (As := [.int p2]) (rest := []) ⟨hx, hb, hml, hown, hts⟩ (c_X12_isHalf l dC dI k p2) (va_cwS 1 hts (gk_S (wl_mem 5 rfl) (wl_mem 6 rfl) (wl_mem 4 rfl) (fun w h => List.mem_cons_of_mem _ (List.mem_append_right _ (List.mem_append_right _ (List.mem_append_right _ (List.mem_append_left _ h))))) wkg_c_X12_isHalf) rfl rfl rfl (by decide +kernel) ⟨Nat.le_of_ble_eq_true rfl, Nat.le_of_ble_eq_true rfl⟩) ⟨fun a U g mk q => by obtain ⟨q0, qP, qK⟩ := q; exact ⟨q0, qP, va_K.moved (u := U) (U := U.calling g mk a) (Vm.Alike.refl U.vm) qK⟩, fun U hU hW => ⟨rfl, by rw [hU]; exact hPc, va_K.moved hW.alike hK⟩⟩ rfl rfl hl.1 rfl (lv_room (Nat.le_of_ble_eq_true rfl)) dX12_share_15 ⟨Nat.le_of_ble_eq_true rfl, Nat.le_of_ble_eq_true rfl⟩)) (fun rz9 gz8 => ?_)
    clear hPc
    rcases gz8 with ⟨er, cz10⟩ | ⟨er, cz11, cz12⟩ | ⟨er, cz13, cz14⟩
    · obtain rfl := er.symm
      have zz15 : p2.toInt < (0 : Int) := by have h9 := zi_ltL.mp cz10; simp only [Int32.toInt_toInt64] at h9; exact h9
      refine lv_if_ne (tgt := 24) hx hb dX12_share_18 (by decide) (fun cz16 => ?_) (fun cz16 => ?_)
      · skip
        exact absurd cz16 (by decide)
      · skip
        refine lv_bipush (v := (-2)) hx hb dX12_share_21 (by decide) ?_
        rw [hQ]
        exact W.iret (v := (-2 : Int32)) hx hb hr (fun t ht hW => ⟨⟨(-2 : Int32), (), rfl, trivial, (va_up vO 0 (0 : Int32)), tO, mO, gO, aLn, yBn, rRw, yGb, aCt, aSm, aCo, aWb, uDn, aMe, aWh, aBb, aBa, oDa, aSa, aLa, htO, hmO, hyBn, hrRw, hyGb, huDn, hoDa, by rw [ht]; exact hP⟩, hS.F ht⟩) hS.2.2 dX12_share_23
    · obtain rfl := er.symm
      have zz17 : ¬ p2.toInt < (0 : Int) := by intro h9; apply cz11; rw [zi_ltL]; simp only [Int32.toInt_toInt64]; exact h9
      have zz18 : (1 : Int) < p2.toInt := by have h9 := zi_ltL.mp cz12; simp only [Int32.toInt_toInt64] at h9; exact h9
      refine lv_if_ne (tgt := 24) hx hb dX12_share_18 (by decide) (fun cz19 => ?_) (fun cz19 => ?_)
      · skip
        exact absurd cz19 (by decide)
      · skip
        refine lv_bipush (v := (-2)) hx hb dX12_share_21 (by decide) ?_
        rw [hQ]
        exact W.iret (v := (-2 : Int32)) hx hb hr (fun t ht hW => ⟨⟨(-2 : Int32), (), rfl, trivial, (va_up vO 0 (0 : Int32)), tO, mO, gO, aLn, yBn, rRw, yGb, aCt, aSm, aCo, aWb, uDn, aMe, aWh, aBb, aBa, oDa, aSa, aLa, htO, hmO, hyBn, hrRw, hyGb, huDn, hoDa, by rw [ht]; exact hP⟩, hS.F ht⟩) hS.2.2 dX12_share_23
    · obtain rfl := er.symm
      have zz20 : ¬ p2.toInt < (0 : Int) := by intro h9; apply cz13; rw [zi_ltL]; simp only [Int32.toInt_toInt64]; exact h9
      have zz21 : ¬ (1 : Int) < p2.toInt := by intro h9; apply cz14; rw [zi_ltL]; simp only [Int32.toInt_toInt64]; exact h9
      refine lv_if_ne (tgt := 24) hx hb dX12_share_18 (by decide) (fun cz22 => ?_) (fun cz22 => ?_)
      · skip
        refine lv_iconst (v := 1) hx hb dX12_share_24 (by decide) ?_
        refine lv_aload_n hx hb dX12_share_25 rfl (lv_at hl 0 rfl) ?_
        have hPc := hP.sub (ws' := (List.flatten [(wMO qO k widthO manyO cellsO movedO tapeO linesO (qHa 0) (qBr 0) (qCa 0) (qWa 0) (qFr 0) (qAc 0) isKeptO (qLn 0) (qBn 0) (qRw 0) (qMe 0) (qWh 0) (qDn 0) (qBb 0) (qBa 0) (qGb 0) (qCt 0) (qSm 0) (qCo 0) (qWb 0) (qDa 0) (qSa 0) (qLa 0) orderRowO oftenO lossOneO lossOtherO (va_up vO 0 (0 : Int32)) tO mO gO), (wmHa qHa k hHa)])) [0, 17] rfl
        refine vp_callSi (va_Run.run (va_runV (As := []) (rest := [.int 1]) ⟨hx, hb, hml, hown, hts⟩ (c_X12_carts l dC dI k qO widthO manyO cellsO movedO tapeO linesO (qBr 0) (qCa 0) (qWa 0) (qFr 0) (qAc 0) isKeptO (qLn 0) (qBn 0) (qRw 0) (qMe 0) (qWh 0) (qDn 0) (qBb 0) (qBa 0) (qGb 0) (qCt 0) (qSm 0) (qCo 0) (qWb 0) (qDa 0) (qSa 0) (qLa 0) orderRowO oftenO lossOneO lossOtherO (va_up vO 0 (0 : Int32)) tO mO gO qHa hHa htO hmO hhHa) (cwV 0 hts (gk_V (wl_mem 7 rfl) (wl_mem 8 rfl) (wl_mem 9 rfl) (wl_mem 4 rfl) (fun w h => List.mem_cons_of_mem _ (List.mem_append_right _ (List.mem_append_right _ (List.mem_append_right _ (List.mem_append_right _ (List.mem_append_left _ h)))))) wkg_c_X12_carts) rfl rfl rfl (by decide +kernel) ⟨Nat.le_of_ble_eq_true rfl, Nat.le_of_ble_eq_true rfl⟩) ⟨fun a U g mk q => by obtain ⟨q0, qP, qK⟩ := q; exact ⟨q0, qP, va_K.moved (u := U) (U := U.calling g mk a) (Vm.Alike.refl U.vm) qK⟩, va_recv hK hPc (ci := 12) (q0 := 0) rfl rfl, fun U hU hW => ⟨rfl, by rw [hU]; exact hPc, va_K.moved hW.alike hK⟩⟩ rfl rfl hl.1 rfl (lv_room (Nat.le_of_ble_eq_true rfl)) dX12_share_26 ⟨Nat.le_of_ble_eq_true rfl, Nat.le_of_ble_eq_true rfl⟩)) (fun rz24 gz23 => ?_)
        clear hPc
        obtain ⟨pz25, pz26⟩ := gz23
        have pz25 : 0 ≤ rz24.toInt ∧ rz24.toInt ≤ 7 := pz25
        have pz26 : rz24.toInt = ((hHa 0) 4).toInt := pz26
        refine lv_ishl hx hb dX12_share_29 ?_
        refine lv_topi (fun xz27 exz27 => ?_)
        have bxz27 : 1 ≤ xz27.toInt ∧ xz27.toInt ≤ 128 := by rw [exz27]; exact zshl7 (by show 0 ≤ rz24.toInt; omega) (by show rz24.toInt ≤ 7; omega)
        refine lv_iconst (v := 1) hx hb dX12_share_30 (by decide) ?_
        refine lv_isub hx hb dX12_share_31 ?_
        refine lv_topi (fun xz28 exz28 => ?_)
        have fxz28 : xz28.toInt = xz27.toInt - (1 : Int) := by rw [exz28]; exact fb_subI (x := xz27) (y := (1 : Int32)) (by show -2147483648 ≤ xz27.toInt - (1 : Int); omega) (by show xz27.toInt - (1 : Int) < 2147483648; omega)
        refine lv_istore_n (lv' := [(3, .int xz28), (0, .ref (qO 0)), (1, .int p1), (2, .int p2)]) hx hb dX12_share_32 rfl hl (by decide) rfl (fun ls hl => ?_)
        refine lv_lconst (v := 0) hx hb dX12_share_33 (by decide) ?_
        refine lv_lstore (lv' := [(4, .long 0), (3, .int xz28), (0, .ref (qO 0)), (1, .int p1), (2, .int p2)]) hx hb dX12_share_34 hl (by decide) rfl (fun ls hl => ?_)
        refine lv_iconst (v := 0) hx hb dX12_share_36 (by decide) ?_
        refine lv_istore (lv' := [(6, .int 0), (4, .long 0), (3, .int xz28), (0, .ref (qO 0)), (1, .int p1), (2, .int p2)]) hx hb dX12_share_37 hl (by decide) rfl (fun ls hl => ?_)
        have lp39_kz248 : ∀ (n9_39 : Nat) (H : Heap) (locs : List Loc) (ls : Array Slot) (az226 : Nat → Nat → Int32) (az227 : Nat → Nat → Int32) (yz228 : Nat → Nat → Int32) (az229 : Nat → Nat → Int32) (az230 : Nat → Nat → Int32) (oz231 : Nat → Nat → Int32) (uz232 : Nat → Nat → Int32) (yz233 : Nat → Nat → Int32) (az234 : Nat → Nat → Int32) (az235 : Nat → Nat → Int32) (az236 : Nat → Nat → Int32) (gz237 : Nat → Int64) (mz238 : Nat → Int32) (tz239 : Nat → Int32) (vz240 : Nat → Int32) (rz241 : Nat → Nat → Int32) (az242 : Nat → Nat → Int32) (az243 : Nat → Nat → Int32) (az244 : Nat → Nat → Int32) (az245 : Nat → Nat → Int32) (xz246 : Int64) (xz247 : Int32), (2147483647 - xz247.toInt).toNat < n9_39 → RgA (-1) 2 yz228 → RgA 0 7 oz231 → RuA 8 uz232 → RgA (-1) 2 yz233 → Rg (-1) 127 mz238 → Rg 0 700 tz239 → RgA 0 6 rz241 → 0 ≤ xz247.toInt → va_P (dC, dI) vwCl (List.flatten [(wMO qO k widthO manyO cellsO movedO tapeO linesO (qHa 0) (qBr 0) (qCa 0) (qWa 0) (qFr 0) (qAc 0) isKeptO (qLn 0) (qBn 0) (qRw 0) (qMe 0) (qWh 0) (qDn 0) (qBb 0) (qBa 0) (qGb 0) (qCt 0) (qSm 0) (qCo 0) (qWb 0) (qDa 0) (qSa 0) (qLa 0) orderRowO oftenO lossOneO lossOtherO vz240 tz239 mz238 gz237), (wmLn qLn k az235), (wmBn qBn k yz228), (wmRw qRw k rz241), (wmGb qGb k yz233), (wmCt qCt k az230), (wmSm qSm k az243), (wmCo qCo k az229), (wmWb qWb k az244), (wmDn qDn k uz232), (wmMe qMe k az236), (wmWh qWh k az245), (wmBb qBb k az227), (wmBa qBa k az226), (wmDa qDa k oz231), (wmSa qSa k az242), (wmLa qLa k az234)] ++ List.flatten [(wmHa qHa k hHa), (wmFr qFr k aFr), (wmCa qCa k pCa), (wmAc qAc k iAc), (wmWa qWa k jWa), (wmBr qBr k aBr)]) H → va_D A (List.flatten [(wMO qO k widthO manyO cellsO movedO tapeO linesO (qHa 0) (qBr 0) (qCa 0) (qWa 0) (qFr 0) (qAc 0) isKeptO (qLn 0) (qBn 0) (qRw 0) (qMe 0) (qWh 0) (qDn 0) (qBb 0) (qBa 0) (qGb 0) (qCt 0) (qSm 0) (qCo 0) (qWb 0) (qDa 0) (qSa 0) (qLa 0) orderRowO oftenO lossOneO lossOtherO vz240 tz239 mz238 gz237), (wmLn qLn k az235), (wmBn qBn k yz228), (wmRw qRw k rz241), (wmGb qGb k yz233), (wmCt qCt k az230), (wmSm qSm k az243), (wmCo qCo k az229), (wmWb qWb k az244), (wmDn qDn k uz232), (wmMe qMe k az236), (wmWh qWh k az245), (wmBb qBb k az227), (wmBa qBa k az226), (wmDa qDa k oz231), (wmSa qSa k az242), (wmLa qLa k az234)] ++ List.flatten [(wmHa qHa k hHa), (wmFr qFr k aFr), (wmCa qCa k pCa), (wmAc qAc k iAc), (wmWa qWa k jWa), (wmBr qBr k aBr)]) → va_S A s.heap H locs → lv_has ls 8 [(0, .ref (qO 0)), (1, .int p1), (2, .int p2), (3, .int xz28), (4, .long xz246), (6, .int xz247)] → W p l e (headSpec wk_c_X12_share ({ frames := 131, cells := 0, slots := 0, locals := 3014 })).room s m ([.ref (qO 0), .int p1, .int p2] : List Value).toArray below meth c H locs 0 0 Q (F0 m 39 ls []) := by
          intro n9_39
          induction n9_39 with
          | zero => intro H locs ls az226 az227 yz228 az229 az230 oz231 uz232 yz233 az234 az235 az236 gz237 mz238 tz239 vz240 rz241 az242 az243 az244 az245 xz246 xz247 hm; exact absurd hm (Nat.not_lt_zero _)
          | succ n9_39 ih39 =>
            intro H locs ls az226 az227 yz228 az229 az230 oz231 uz232 yz233 az234 az235 az236 gz237 mz238 tz239 vz240 rz241 az242 az243 az244 az245 xz246 xz247 hm39 hyz228 hoz231 huz232 hyz233 hmz238 htz239 hrz241 jz249 hP hD hS hl
            refine lv_iload hx hb dX12_share_39 (lv_at hl 5 rfl) ?_
            refine lv_iload_n hx hb dX12_share_41 rfl (lv_at hl 3 rfl) ?_
            refine lv_icmp_gt (tgt := 120) hx hb dX12_share_42 (by decide) (fun cz250 => ?_) (fun cz250 => ?_)
            · skip
              have bz251 := fb_rng xz247
              have zz252 : xz28.toInt < xz247.toInt := zi_lt.mp cz250
              refine lv_lload hx hb dX12_share_120 (lv_at hl 4 rfl) ?_
              refine lv_aload_n hx hb dX12_share_122 rfl (lv_at hl 0 rfl) ?_
              have hPc := hP.sub (ws' := (List.flatten [(wMO qO k widthO manyO cellsO movedO tapeO linesO (qHa 0) (qBr 0) (qCa 0) (qWa 0) (qFr 0) (qAc 0) isKeptO (qLn 0) (qBn 0) (qRw 0) (qMe 0) (qWh 0) (qDn 0) (qBb 0) (qBa 0) (qGb 0) (qCt 0) (qSm 0) (qCo 0) (qWb 0) (qDa 0) (qSa 0) (qLa 0) orderRowO oftenO lossOneO lossOtherO vz240 tz239 mz238 gz237), (wmHa qHa k hHa)])) [0, 17] rfl
              refine vp_callSi (va_Run.run (va_runV (As := []) (rest := [.long xz246]) ⟨hx, hb, hml, hown, hts⟩ (c_X12_carts l dC dI k qO widthO manyO cellsO movedO tapeO linesO (qBr 0) (qCa 0) (qWa 0) (qFr 0) (qAc 0) isKeptO (qLn 0) (qBn 0) (qRw 0) (qMe 0) (qWh 0) (qDn 0) (qBb 0) (qBa 0) (qGb 0) (qCt 0) (qSm 0) (qCo 0) (qWb 0) (qDa 0) (qSa 0) (qLa 0) orderRowO oftenO lossOneO lossOtherO vz240 tz239 mz238 gz237 qHa hHa htz239 hmz238 hhHa) (cwV 0 hts (gk_V (wl_mem 7 rfl) (wl_mem 8 rfl) (wl_mem 9 rfl) (wl_mem 4 rfl) (fun w h => List.mem_cons_of_mem _ (List.mem_append_right _ (List.mem_append_right _ (List.mem_append_right _ (List.mem_append_right _ (List.mem_append_left _ h)))))) wkg_c_X12_carts) rfl rfl rfl (by decide +kernel) ⟨Nat.le_of_ble_eq_true rfl, Nat.le_of_ble_eq_true rfl⟩) ⟨fun a U g mk q => by obtain ⟨q0, qP, qK⟩ := q; exact ⟨q0, qP, va_K.moved (u := U) (U := U.calling g mk a) (Vm.Alike.refl U.vm) qK⟩, va_recv hK hPc (ci := 12) (q0 := 0) rfl rfl, fun U hU hW => ⟨rfl, by rw [hU]; exact hPc, va_K.moved hW.alike hK⟩⟩ rfl rfl hl.1 rfl (lv_room (Nat.le_of_ble_eq_true rfl)) dX12_share_123 ⟨Nat.le_of_ble_eq_true rfl, Nat.le_of_ble_eq_true rfl⟩)) (fun rz254 gz253 => ?_)
              clear hPc
              obtain ⟨pz255, pz256⟩ := gz253
              have pz255 : 0 ≤ rz254.toInt ∧ rz254.toInt ≤ 7 := pz255
              have pz256 : rz254.toInt = ((hHa 0) 4).toInt := pz256
              have hPc : va_P (dC, dI) vwCl (List.flatten ([] : List va_W)) H := fun k q h => by simp at h
              refine vp_callSl (va_Run.run (va_runS (As := [.int rz254]) (rest := [.long xz246]) ⟨hx, hb, hml, hown, hts⟩ (c_X12_times l dC dI k 129 rz254 (by show 1 ≤ ((129 : Nat) : Int) ∧ rz254.toInt < ((129 : Nat) : Int); omega)) (va_cwS 1 hts (gk_S (wl_mem 14 rfl) (wl_mem 15 rfl) (wl_mem 4 rfl) (fun w h => List.mem_cons_of_mem _ (List.mem_append_right _ (List.mem_append_right _ (List.mem_append_right _ (List.mem_append_right _ (List.mem_append_right _ (List.mem_append_right _ (List.mem_append_right _ (List.mem_append_left _ h))))))))) wkg_c_X12_times) rfl rfl rfl (by decide +kernel) ⟨Nat.le_of_ble_eq_true rfl, Nat.le_of_ble_eq_true rfl⟩) ⟨fun a U g mk q => by obtain ⟨q0, qP, qK⟩ := q; exact ⟨q0, qP, va_K.moved (u := U) (U := U.calling g mk a) (Vm.Alike.refl U.vm) qK⟩, fun U hU hW => ⟨rfl, by rw [hU]; exact hPc, va_K.moved hW.alike hK⟩⟩ rfl rfl hl.1 rfl (lv_room (Nat.le_of_ble_eq_true rfl)) dX12_share_126 ⟨Nat.le_of_ble_eq_true rfl, Nat.le_of_ble_eq_true rfl⟩)) (fun rz258 gz257 => ?_)
              clear hPc
              have pz259 := gz257
              have pz259 : rz254.toInt ≤ 7 → (1 ≤ rz258.toInt ∧ rz258.toInt = fct rz254.toInt) := pz259
              refine lv_iload_n hx hb dX12_share_129 rfl (lv_at hl 2 rfl) ?_
              have hPc : va_P (dC, dI) vwCl (List.flatten ([] : List va_W)) H := fun k q h => by simp at h
              refine vp_callSl (va_Run.run (va_runS (As := [.long xz246, .long rz258, .int p2]) (rest := []) ⟨hx, hb, hml, hown, hts⟩ (c_X12_part l dC dI k xz246 rz258 p2 (by show rz258.toInt ≠ 0; omega)) (va_cwS 3 hts (gk_S (wl_mem 19 rfl) (wl_mem 20 rfl) (wl_mem 4 rfl) (fun w h => List.mem_cons_of_mem _ (List.mem_append_right _ (List.mem_append_right _ (List.mem_append_right _ (List.mem_append_right _ (List.mem_append_right _ (List.mem_append_right _ (List.mem_append_right _ (List.mem_append_right _ (List.mem_append_right _ (List.mem_append_left _ h))))))))))) wkg_c_X12_part) rfl rfl rfl (by decide +kernel) ⟨Nat.le_of_ble_eq_true rfl, Nat.le_of_ble_eq_true rfl⟩) ⟨fun a U g mk q => by obtain ⟨q0, qP, qK⟩ := q; exact ⟨q0, qP, va_K.moved (u := U) (U := U.calling g mk a) (Vm.Alike.refl U.vm) qK⟩, fun U hU hW => ⟨rfl, by rw [hU]; exact hPc, va_K.moved hW.alike hK⟩⟩ rfl rfl hl.1 rfl (lv_room (Nat.le_of_ble_eq_true rfl)) dX12_share_130 ⟨Nat.le_of_ble_eq_true rfl, Nat.le_of_ble_eq_true rfl⟩)) (fun rz261 gz260 => ?_)
              clear hPc
              refine lv_l2i hx hb dX12_share_133 rfl ?_
              refine lv_topi (fun xz262 exz262 => ?_)
              rw [hQ]
              exact W.iret (v := xz262) hx hb hr (fun t ht hW => ⟨⟨xz262, (), rfl, trivial, vz240, tz239, mz238, gz237, az235, yz228, rz241, yz233, az230, az243, az229, az244, uz232, az236, az245, az227, az226, oz231, az242, az234, htz239, hmz238, hyz228, hrz241, hyz233, huz232, hoz231, by rw [ht]; exact hP⟩, hS.F ht⟩) hS.2.2 dX12_share_134
            · skip
              have bz263 := fb_rng xz247
              have zz264 : ¬ xz28.toInt < xz247.toInt := fun h9 => cz250 (zi_lt.mpr h9)
              refine lv_iload hx hb dX12_share_45 (lv_at hl 5 rfl) ?_
              refine lv_iload_n hx hb dX12_share_47 rfl (lv_at hl 1 rfl) ?_
              have hPc : va_P (dC, dI) vwCl (List.flatten ([] : List va_W)) H := fun k q h => by simp at h
              refine vp_callSi (va_Run.run (va_runS (As := [.int xz247, .int p1]) (rest := []) ⟨hx, hb, hml, hown, hts⟩ (c_X12_isBit l dC dI k xz247 p1) (va_cwS 2 hts (gk_S (wl_mem 10 rfl) (wl_mem 11 rfl) (wl_mem 4 rfl) (fun w h => List.mem_cons_of_mem _ (List.mem_append_right _ (List.mem_append_right _ (List.mem_append_right _ (List.mem_append_right _ (List.mem_append_right _ (List.mem_append_left _ h))))))) wkg_c_X12_isBit) rfl rfl rfl (by decide +kernel) ⟨Nat.le_of_ble_eq_true rfl, Nat.le_of_ble_eq_true rfl⟩) ⟨fun a U g mk q => by obtain ⟨q0, qP, qK⟩ := q; exact ⟨q0, qP, va_K.moved (u := U) (U := U.calling g mk a) (Vm.Alike.refl U.vm) qK⟩, fun U hU hW => ⟨rfl, by rw [hU]; exact hPc, va_K.moved hW.alike hK⟩⟩ rfl rfl hl.1 rfl (lv_room (Nat.le_of_ble_eq_true rfl)) dX12_share_48 ⟨Nat.le_of_ble_eq_true rfl, Nat.le_of_ble_eq_true rfl⟩)) (fun rz266 gz265 => ?_)
              clear hPc
              have pz267 := gz265
              have pz267 : rz266.toInt = 0 ∨ rz266.toInt = 1 := pz267
              have ct114_kz361 : ∀ (H : Heap) (locs : List Loc) (ls : Array Slot) (az340 : Nat → Nat → Int32) (az341 : Nat → Nat → Int32) (yz342 : Nat → Nat → Int32) (az343 : Nat → Nat → Int32) (az344 : Nat → Nat → Int32) (oz345 : Nat → Nat → Int32) (uz346 : Nat → Nat → Int32) (yz347 : Nat → Nat → Int32) (az348 : Nat → Nat → Int32) (az349 : Nat → Nat → Int32) (az350 : Nat → Nat → Int32) (gz351 : Nat → Int64) (mz352 : Nat → Int32) (tz353 : Nat → Int32) (vz354 : Nat → Int32) (rz355 : Nat → Nat → Int32) (az356 : Nat → Nat → Int32) (az357 : Nat → Nat → Int32) (az358 : Nat → Nat → Int32) (az359 : Nat → Nat → Int32) (xz360 : Int64), RgA (-1) 2 yz342 → RgA 0 7 oz345 → RuA 8 uz346 → RgA (-1) 2 yz347 → Rg (-1) 127 mz352 → Rg 0 700 tz353 → RgA 0 6 rz355 → va_P (dC, dI) vwCl (List.flatten [(wMO qO k widthO manyO cellsO movedO tapeO linesO (qHa 0) (qBr 0) (qCa 0) (qWa 0) (qFr 0) (qAc 0) isKeptO (qLn 0) (qBn 0) (qRw 0) (qMe 0) (qWh 0) (qDn 0) (qBb 0) (qBa 0) (qGb 0) (qCt 0) (qSm 0) (qCo 0) (qWb 0) (qDa 0) (qSa 0) (qLa 0) orderRowO oftenO lossOneO lossOtherO vz354 tz353 mz352 gz351), (wmLn qLn k az349), (wmBn qBn k yz342), (wmRw qRw k rz355), (wmGb qGb k yz347), (wmCt qCt k az344), (wmSm qSm k az357), (wmCo qCo k az343), (wmWb qWb k az358), (wmDn qDn k uz346), (wmMe qMe k az350), (wmWh qWh k az359), (wmBb qBb k az341), (wmBa qBa k az340), (wmDa qDa k oz345), (wmSa qSa k az356), (wmLa qLa k az348)] ++ List.flatten [(wmHa qHa k hHa), (wmFr qFr k aFr), (wmCa qCa k pCa), (wmAc qAc k iAc), (wmWa qWa k jWa), (wmBr qBr k aBr)]) H → va_D A (List.flatten [(wMO qO k widthO manyO cellsO movedO tapeO linesO (qHa 0) (qBr 0) (qCa 0) (qWa 0) (qFr 0) (qAc 0) isKeptO (qLn 0) (qBn 0) (qRw 0) (qMe 0) (qWh 0) (qDn 0) (qBb 0) (qBa 0) (qGb 0) (qCt 0) (qSm 0) (qCo 0) (qWb 0) (qDa 0) (qSa 0) (qLa 0) orderRowO oftenO lossOneO lossOtherO vz354 tz353 mz352 gz351), (wmLn qLn k az349), (wmBn qBn k yz342), (wmRw qRw k rz355), (wmGb qGb k yz347), (wmCt qCt k az344), (wmSm qSm k az357), (wmCo qCo k az343), (wmWb qWb k az358), (wmDn qDn k uz346), (wmMe qMe k az350), (wmWh qWh k az359), (wmBb qBb k az341), (wmBa qBa k az340), (wmDa qDa k oz345), (wmSa qSa k az356), (wmLa qLa k az348)] ++ List.flatten [(wmHa qHa k hHa), (wmFr qFr k aFr), (wmCa qCa k pCa), (wmAc qAc k iAc), (wmWa qWa k jWa), (wmBr qBr k aBr)]) → va_S A s.heap H locs → lv_has ls 8 [(0, .ref (qO 0)), (1, .int p1), (2, .int p2), (3, .int xz28), (4, .long xz360), (6, .int xz247)] → W p l e (headSpec wk_c_X12_share ({ frames := 131, cells := 0, slots := 0, locals := 3014 })).room s m ([.ref (qO 0), .int p1, .int p2] : List Value).toArray below meth c H locs 0 0 Q (F0 m 114 ls []) := by
                intro H locs ls az340 az341 yz342 az343 az344 oz345 uz346 yz347 az348 az349 az350 gz351 mz352 tz353 vz354 rz355 az356 az357 az358 az359 xz360 hyz342 hoz345 huz346 hyz347 hmz352 htz353 hrz355 hP hD hS hl
                obtain ⟨xz362, exz362⟩ : ∃ y : Int32, y = xz247 + Int32.ofInt (1) := ⟨_, rfl⟩
                have fxz362 : xz362.toInt = xz247.toInt + (1) := by rw [exz362]; exact fb_addI (y := Int32.ofInt (1)) (by show -2147483648 ≤ xz247.toInt + (1); omega) (by show xz247.toInt + (1) < 2147483648; omega)
                refine lv_iinc (v := xz362) (lv' := [(6, .int xz362), (0, .ref (qO 0)), (1, .int p1), (2, .int p2), (3, .int xz28), (4, .long xz360)]) hx hb dX12_share_114 hl (k := 5) rfl exz362.symm (by decide) rfl (fun ls hl => ?_)
                refine lv_goto (tgt := 39) hx hb dX12_share_117 (by decide) ?_
                exact ih39 H locs ls az340 az341 yz342 az343 az344 oz345 uz346 yz347 az348 az349 az350 gz351 mz352 tz353 vz354 rz355 az356 az357 az358 az359 xz360 xz362 (by show (2147483647 - xz362.toInt).toNat < n9_39; omega) hyz342 hoz345 huz346 hyz347 hmz352 htz353 hrz355 (by show 0 ≤ xz362.toInt; omega) hP hD hS (lv_sub hl [1, 2, 3, 4, 5, 0] rfl)
              refine lv_if_eq (tgt := 57) hx hb dX12_share_51 (by decide) (fun cz363 => ?_) (fun cz363 => ?_)
              · skip
                have zz364 : rz266.toInt = (0 : Int) := zi_eq.mp cz363
                refine lv_iload hx hb dX12_share_57 (lv_at hl 5 rfl) ?_
                have hPc : va_P (dC, dI) vwCl (List.flatten ([] : List va_W)) H := fun k q h => by simp at h
                refine vp_callSi (va_Run.run (va_runS (As := [.int xz247]) (rest := []) ⟨hx, hb, hml, hown, hts⟩ (c_X12_sizeOf l dC dI k xz247 (by show 0 ≤ xz247.toInt ∧ xz247.toInt ≤ 127; omega)) (va_cwS 1 hts (gk_S (wl_mem 12 rfl) (wl_mem 13 rfl) (wl_mem 4 rfl) (fun w h => List.mem_cons_of_mem _ (List.mem_append_right _ (List.mem_append_right _ (List.mem_append_right _ (List.mem_append_right _ (List.mem_append_right _ (List.mem_append_right _ (List.mem_append_left _ h)))))))) wkg_c_X12_sizeOf) rfl rfl rfl (by decide +kernel) ⟨Nat.le_of_ble_eq_true rfl, Nat.le_of_ble_eq_true rfl⟩) ⟨fun a U g mk q => by obtain ⟨q0, qP, qK⟩ := q; exact ⟨q0, qP, va_K.moved (u := U) (U := U.calling g mk a) (Vm.Alike.refl U.vm) qK⟩, fun U hU hW => ⟨rfl, by rw [hU]; exact hPc, va_K.moved hW.alike hK⟩⟩ rfl rfl hl.1 rfl (lv_room (Nat.le_of_ble_eq_true rfl)) dX12_share_59 ⟨Nat.le_of_ble_eq_true rfl, Nat.le_of_ble_eq_true rfl⟩)) (fun rz366 gz365 => ?_)
                clear hPc
                have pz367 := gz365
                have pz367 : 0 ≤ rz366.toInt ∧ rz366.toInt ≤ 127 := pz367
                refine lv_istore (lv' := [(7, .int rz366), (0, .ref (qO 0)), (1, .int p1), (2, .int p2), (3, .int xz28), (4, .long xz246), (6, .int xz247)]) hx hb dX12_share_62 hl (by decide) rfl (fun ls hl => ?_)
                refine lv_lload hx hb dX12_share_64 (lv_at hl 5 rfl) ?_
                refine lv_iload hx hb dX12_share_66 (lv_at hl 0 rfl) ?_
                have hPc : va_P (dC, dI) vwCl (List.flatten ([] : List va_W)) H := fun k q h => by simp at h
                refine vp_callSl (va_Run.run (va_runS (As := [.int rz366]) (rest := [.long xz246]) ⟨hx, hb, hml, hown, hts⟩ (c_X12_times l dC dI k 129 rz366 (by show 1 ≤ ((129 : Nat) : Int) ∧ rz366.toInt < ((129 : Nat) : Int); omega)) (va_cwS 1 hts (gk_S (wl_mem 14 rfl) (wl_mem 15 rfl) (wl_mem 4 rfl) (fun w h => List.mem_cons_of_mem _ (List.mem_append_right _ (List.mem_append_right _ (List.mem_append_right _ (List.mem_append_right _ (List.mem_append_right _ (List.mem_append_right _ (List.mem_append_right _ (List.mem_append_left _ h))))))))) wkg_c_X12_times) rfl rfl rfl (by decide +kernel) ⟨Nat.le_of_ble_eq_true rfl, Nat.le_of_ble_eq_true rfl⟩) ⟨fun a U g mk q => by obtain ⟨q0, qP, qK⟩ := q; exact ⟨q0, qP, va_K.moved (u := U) (U := U.calling g mk a) (Vm.Alike.refl U.vm) qK⟩, fun U hU hW => ⟨rfl, by rw [hU]; exact hPc, va_K.moved hW.alike hK⟩⟩ rfl rfl hl.1 rfl (lv_room (Nat.le_of_ble_eq_true rfl)) dX12_share_68 ⟨Nat.le_of_ble_eq_true rfl, Nat.le_of_ble_eq_true rfl⟩)) (fun rz369 gz368 => ?_)
                clear hPc
                have pz370 := gz368
                have pz370 : rz366.toInt ≤ 7 → (1 ≤ rz369.toInt ∧ rz369.toInt = fct rz366.toInt) := pz370
                refine lv_aload_n hx hb dX12_share_71 rfl (lv_at hl 1 rfl) ?_
                have hPc := hP.sub (ws' := (List.flatten [(wMO qO k widthO manyO cellsO movedO tapeO linesO (qHa 0) (qBr 0) (qCa 0) (qWa 0) (qFr 0) (qAc 0) isKeptO (qLn 0) (qBn 0) (qRw 0) (qMe 0) (qWh 0) (qDn 0) (qBb 0) (qBa 0) (qGb 0) (qCt 0) (qSm 0) (qCo 0) (qWb 0) (qDa 0) (qSa 0) (qLa 0) orderRowO oftenO lossOneO lossOtherO vz240 tz239 mz238 gz237), (wmHa qHa k hHa)])) [0, 17] rfl
                refine vp_callSi (va_Run.run (va_runV (As := []) (rest := [.long rz369, .long xz246]) ⟨hx, hb, hml, hown, hts⟩ (c_X12_carts l dC dI k qO widthO manyO cellsO movedO tapeO linesO (qBr 0) (qCa 0) (qWa 0) (qFr 0) (qAc 0) isKeptO (qLn 0) (qBn 0) (qRw 0) (qMe 0) (qWh 0) (qDn 0) (qBb 0) (qBa 0) (qGb 0) (qCt 0) (qSm 0) (qCo 0) (qWb 0) (qDa 0) (qSa 0) (qLa 0) orderRowO oftenO lossOneO lossOtherO vz240 tz239 mz238 gz237 qHa hHa htz239 hmz238 hhHa) (cwV 0 hts (gk_V (wl_mem 7 rfl) (wl_mem 8 rfl) (wl_mem 9 rfl) (wl_mem 4 rfl) (fun w h => List.mem_cons_of_mem _ (List.mem_append_right _ (List.mem_append_right _ (List.mem_append_right _ (List.mem_append_right _ (List.mem_append_left _ h)))))) wkg_c_X12_carts) rfl rfl rfl (by decide +kernel) ⟨Nat.le_of_ble_eq_true rfl, Nat.le_of_ble_eq_true rfl⟩) ⟨fun a U g mk q => by obtain ⟨q0, qP, qK⟩ := q; exact ⟨q0, qP, va_K.moved (u := U) (U := U.calling g mk a) (Vm.Alike.refl U.vm) qK⟩, va_recv hK hPc (ci := 12) (q0 := 0) rfl rfl, fun U hU hW => ⟨rfl, by rw [hU]; exact hPc, va_K.moved hW.alike hK⟩⟩ rfl rfl hl.1 rfl (lv_room (Nat.le_of_ble_eq_true rfl)) dX12_share_72 ⟨Nat.le_of_ble_eq_true rfl, Nat.le_of_ble_eq_true rfl⟩)) (fun rz372 gz371 => ?_)
                clear hPc
                obtain ⟨pz373, pz374⟩ := gz371
                have pz373 : 0 ≤ rz372.toInt ∧ rz372.toInt ≤ 7 := pz373
                have pz374 : rz372.toInt = ((hHa 0) 4).toInt := pz374
                refine lv_iload hx hb dX12_share_75 (lv_at hl 0 rfl) ?_
                refine lv_isub hx hb dX12_share_77 ?_
                refine lv_topi (fun xz375 exz375 => ?_)
                have fxz375 : xz375.toInt = rz372.toInt - rz366.toInt := by rw [exz375]; exact fb_subI (x := rz372) (y := rz366) (by show -2147483648 ≤ rz372.toInt - rz366.toInt; omega) (by show rz372.toInt - rz366.toInt < 2147483648; omega)
                refine lv_iconst (v := 1) hx hb dX12_share_78 (by decide) ?_
                refine lv_isub hx hb dX12_share_79 ?_
                refine lv_topi (fun xz376 exz376 => ?_)
                have fxz376 : xz376.toInt = xz375.toInt - (1 : Int) := by rw [exz376]; exact fb_subI (x := xz375) (y := (1 : Int32)) (by show -2147483648 ≤ xz375.toInt - (1 : Int); omega) (by show xz375.toInt - (1 : Int) < 2147483648; omega)
                have hPc : va_P (dC, dI) vwCl (List.flatten ([] : List va_W)) H := fun k q h => by simp at h
                refine vp_callSl (va_Run.run (va_runS (As := [.int xz376]) (rest := [.long rz369, .long xz246]) ⟨hx, hb, hml, hown, hts⟩ (c_X12_times l dC dI k 129 xz376 (by show 1 ≤ ((129 : Nat) : Int) ∧ xz376.toInt < ((129 : Nat) : Int); omega)) (va_cwS 1 hts (gk_S (wl_mem 14 rfl) (wl_mem 15 rfl) (wl_mem 4 rfl) (fun w h => List.mem_cons_of_mem _ (List.mem_append_right _ (List.mem_append_right _ (List.mem_append_right _ (List.mem_append_right _ (List.mem_append_right _ (List.mem_append_right _ (List.mem_append_right _ (List.mem_append_left _ h))))))))) wkg_c_X12_times) rfl rfl rfl (by decide +kernel) ⟨Nat.le_of_ble_eq_true rfl, Nat.le_of_ble_eq_true rfl⟩) ⟨fun a U g mk q => by obtain ⟨q0, qP, qK⟩ := q; exact ⟨q0, qP, va_K.moved (u := U) (U := U.calling g mk a) (Vm.Alike.refl U.vm) qK⟩, fun U hU hW => ⟨rfl, by rw [hU]; exact hPc, va_K.moved hW.alike hK⟩⟩ rfl rfl hl.1 rfl (lv_room (Nat.le_of_ble_eq_true rfl)) dX12_share_80 ⟨Nat.le_of_ble_eq_true rfl, Nat.le_of_ble_eq_true rfl⟩)) (fun rz378 gz377 => ?_)
                clear hPc
                have pz379 := gz377
                have pz379 : xz376.toInt ≤ 7 → (1 ≤ rz378.toInt ∧ rz378.toInt = fct xz376.toInt) := pz379
                refine lv_lmul hx hb dX12_share_83 ?_
                refine lv_topl (fun xz380 exz380 => ?_)
                refine lv_aload_n hx hb dX12_share_84 rfl (lv_at hl 1 rfl) ?_
                refine lv_iload_n hx hb dX12_share_85 rfl (lv_at hl 4 rfl) ?_
                refine lv_iload hx hb dX12_share_86 (lv_at hl 6 rfl) ?_
                refine lv_iconst (v := 1) hx hb dX12_share_88 (by decide) ?_
                refine lv_iload_n hx hb dX12_share_89 rfl (lv_at hl 2 rfl) ?_
                refine lv_ishl hx hb dX12_share_90 ?_
                refine lv_topi (fun xz381 exz381 => ?_)
                have bxz381 : 1 ≤ xz381.toInt ∧ xz381.toInt ≤ 128 := by rw [exz381]; exact zshl7 (by show 0 ≤ p1.toInt; omega) (by show p1.toInt ≤ 7; omega)
                refine lv_ior hx hb dX12_share_91 ?_
                refine lv_topi (fun xz382 exz382 => ?_)
                refine lv_iconst (v := (-1)) hx hb dX12_share_92 (by decide) ?_
                refine lv_ixor hx hb dX12_share_93 ?_
                refine lv_topi (fun xz383 exz383 => ?_)
                refine lv_iand hx hb dX12_share_94 ?_
                refine lv_topi (fun xz384 exz384 => ?_)
                have hPc := hP
                have hDc : va_D A (List.flatten [(wMO qO k widthO manyO cellsO movedO tapeO linesO (qHa 0) (qBr 0) (qCa 0) (qWa 0) (qFr 0) (qAc 0) isKeptO (qLn 0) (qBn 0) (qRw 0) (qMe 0) (qWh 0) (qDn 0) (qBb 0) (qBa 0) (qGb 0) (qCt 0) (qSm 0) (qCo 0) (qWb 0) (qDa 0) (qSa 0) (qLa 0) orderRowO oftenO lossOneO lossOtherO vz240 tz239 mz238 gz237), (wmLn qLn k az235), (wmBn qBn k yz228), (wmRw qRw k rz241), (wmGb qGb k yz233), (wmCt qCt k az230), (wmSm qSm k az243), (wmCo qCo k az229), (wmWb qWb k az244), (wmDn qDn k uz232), (wmMe qMe k az236), (wmWh qWh k az245), (wmBb qBb k az227), (wmBa qBa k az226), (wmDa qDa k oz231), (wmSa qSa k az242), (wmLa qLa k az234)] ++ List.flatten [(wmHa qHa k hHa), (wmFr qFr k aFr), (wmCa qCa k pCa), (wmAc qAc k iAc), (wmWa qWa k jWa), (wmBr qBr k aBr)]) := wc_subD hD [0, 1, 2, 3, 4, 5, 6, 7, 8, 9, 10, 11, 12, 13, 14, 15, 16, 17, 18, 19, 20, 21, 22] rfl rfl
                have hFc := wc_free hDc hS hA
                refine va_calli (va_runV (As := [.int xz384]) (rest := [.long xz380, .long xz246]) ⟨hx, hb, hml, hown, hts⟩ (c_X12_sagWithout l dC dI k H.size qO widthO manyO cellsO movedO tapeO linesO isKeptO orderRowO oftenO lossOneO lossOtherO vz240 tz239 mz238 gz237 qHa hHa qFr aFr qCa pCa qAc iAc qLn az235 qBn yz228 qRw rz241 qWa jWa qBr aBr qGb yz233 qCt az230 qSm az243 qCo az229 qWb az244 qDn uz232 qMe az236 qWh az245 qBb az227 qBa az226 qDa oz231 qSa az242 qLa az234 xz384 htz239 hmz238 hhHa hpCa hiAc hyz228 hrz241 hjWa hyz233 huz232 hoz231) (cwV 1 hts (gk_V (wl_mem 16 rfl) (wl_mem 17 rfl) (wl_mem 18 rfl) (wl_mem 4 rfl) (fun w h => List.mem_cons_of_mem _ (List.mem_append_right _ (List.mem_append_right _ (List.mem_append_right _ (List.mem_append_right _ (List.mem_append_right _ (List.mem_append_right _ (List.mem_append_right _ (List.mem_append_right _ (List.mem_append_left _ h)))))))))) wkg_c_X12_sagWithout) rfl rfl rfl (by decide +kernel) ⟨Nat.le_of_ble_eq_true rfl, Nat.le_of_ble_eq_true rfl⟩) ⟨fun a U g mk q => by obtain ⟨q0, q1, qP, qK, qD⟩ := q; exact ⟨q0, q1, qP, va_K.moved (u := U) (U := U.calling g mk a) (Vm.Alike.refl U.vm) qK, qD⟩, va_recv hK hPc (ci := 12) (q0 := 0) rfl rfl, fun U hU hW => ⟨rfl, by rw [hU], by rw [hU]; exact hPc, va_K.moved hW.alike hK, hDc.weaken (fun _ _ _ _ => trivial)⟩⟩ rfl rfl hl.1 rfl (lv_room (Nat.le_of_ble_eq_true rfl)) dX12_share_95 ⟨Nat.le_of_ble_eq_true rfl, Nat.le_of_ble_eq_true rfl⟩) hS (fun q _ h => hFc q h) hFc (fun rz386 u t H1 locs ht hvm gz385 hB hz1 hk1 hS => ?_)
                obtain ⟨vz387, tz388, mz389, gz390, az391, yz392, rz393, yz394, az395, az396, az397, az398, uz399, az400, az401, az402, az403, oz404, az405, az406, htz388, hmz389, hyz392, hrz393, hyz394, huz399, hoz404, hP1⟩ := hB
                rw [ht] at hP1
                obtain ⟨hP, hD⟩ := w_callR hP hD hk1 hP1 [0, 1, 2, 3, 4, 5, 6, 7, 8, 9, 10, 11, 12, 13, 14, 15, 16] rfl rfl (wk_memC [17, 18, 19, 20, 21, 22] rfl) rfl [some 0, some 1, some 2, some 3, some 4, some 5, some 6, some 7, some 8, some 9, some 10, some 11, some 12, some 13, some 14, some 15, some 16] rfl rfl
                clear hPc hDc hFc hk1 hP1
                generalize H1 = H at hP hS ⊢
                have hP : va_P (dC, dI) vwCl (List.flatten [(wMO qO k widthO manyO cellsO movedO tapeO linesO (qHa 0) (qBr 0) (qCa 0) (qWa 0) (qFr 0) (qAc 0) isKeptO (qLn 0) (qBn 0) (qRw 0) (qMe 0) (qWh 0) (qDn 0) (qBb 0) (qBa 0) (qGb 0) (qCt 0) (qSm 0) (qCo 0) (qWb 0) (qDa 0) (qSa 0) (qLa 0) orderRowO oftenO lossOneO lossOtherO vz387 tz388 mz389 gz390), (wmLn qLn k az391), (wmBn qBn k yz392), (wmRw qRw k rz393), (wmGb qGb k yz394), (wmCt qCt k az395), (wmSm qSm k az396), (wmCo qCo k az397), (wmWb qWb k az398), (wmDn qDn k uz399), (wmMe qMe k az400), (wmWh qWh k az401), (wmBb qBb k az402), (wmBa qBa k az403), (wmDa qDa k oz404), (wmSa qSa k az405), (wmLa qLa k az406)] ++ List.flatten [(wmHa qHa k hHa), (wmFr qFr k aFr), (wmCa qCa k pCa), (wmAc qAc k iAc), (wmWa qWa k jWa), (wmBr qBr k aBr)]) H := hP
                have hD : va_D A (List.flatten [(wMO qO k widthO manyO cellsO movedO tapeO linesO (qHa 0) (qBr 0) (qCa 0) (qWa 0) (qFr 0) (qAc 0) isKeptO (qLn 0) (qBn 0) (qRw 0) (qMe 0) (qWh 0) (qDn 0) (qBb 0) (qBa 0) (qGb 0) (qCt 0) (qSm 0) (qCo 0) (qWb 0) (qDa 0) (qSa 0) (qLa 0) orderRowO oftenO lossOneO lossOtherO vz387 tz388 mz389 gz390), (wmLn qLn k az391), (wmBn qBn k yz392), (wmRw qRw k rz393), (wmGb qGb k yz394), (wmCt qCt k az395), (wmSm qSm k az396), (wmCo qCo k az397), (wmWb qWb k az398), (wmDn qDn k uz399), (wmMe qMe k az400), (wmWh qWh k az401), (wmBb qBb k az402), (wmBa qBa k az403), (wmDa qDa k oz404), (wmSa qSa k az405), (wmLa qLa k az406)] ++ List.flatten [(wmHa qHa k hHa), (wmFr qFr k aFr), (wmCa qCa k pCa), (wmAc qAc k iAc), (wmWa qWa k jWa), (wmBr qBr k aBr)]) := hD
                refine W.widen (k := 0) (n := 0) (Nat.le_refl 0) (Nat.le_refl 0) ?_
                refine lv_aload_n hx hb dX12_share_98 rfl (lv_at hl 1 rfl) ?_
                refine lv_iload_n hx hb dX12_share_99 rfl (lv_at hl 4 rfl) ?_
                refine lv_iload hx hb dX12_share_100 (lv_at hl 6 rfl) ?_
                refine lv_iconst (v := (-1)) hx hb dX12_share_102 (by decide) ?_
                refine lv_ixor hx hb dX12_share_103 ?_
                refine lv_topi (fun xz407 exz407 => ?_)
                refine lv_iand hx hb dX12_share_104 ?_
                refine lv_topi (fun xz408 exz408 => ?_)
                have hPc := hP
                have hDc : va_D A (List.flatten [(wMO qO k widthO manyO cellsO movedO tapeO linesO (qHa 0) (qBr 0) (qCa 0) (qWa 0) (qFr 0) (qAc 0) isKeptO (qLn 0) (qBn 0) (qRw 0) (qMe 0) (qWh 0) (qDn 0) (qBb 0) (qBa 0) (qGb 0) (qCt 0) (qSm 0) (qCo 0) (qWb 0) (qDa 0) (qSa 0) (qLa 0) orderRowO oftenO lossOneO lossOtherO vz387 tz388 mz389 gz390), (wmLn qLn k az391), (wmBn qBn k yz392), (wmRw qRw k rz393), (wmGb qGb k yz394), (wmCt qCt k az395), (wmSm qSm k az396), (wmCo qCo k az397), (wmWb qWb k az398), (wmDn qDn k uz399), (wmMe qMe k az400), (wmWh qWh k az401), (wmBb qBb k az402), (wmBa qBa k az403), (wmDa qDa k oz404), (wmSa qSa k az405), (wmLa qLa k az406)] ++ List.flatten [(wmHa qHa k hHa), (wmFr qFr k aFr), (wmCa qCa k pCa), (wmAc qAc k iAc), (wmWa qWa k jWa), (wmBr qBr k aBr)]) := wc_subD hD [0, 1, 2, 3, 4, 5, 6, 7, 8, 9, 10, 11, 12, 13, 14, 15, 16, 17, 18, 19, 20, 21, 22] rfl rfl
                have hFc := wc_free hDc hS hA
                refine va_calli (va_runV (As := [.int xz408]) (rest := [.int rz386, .long xz380, .long xz246]) ⟨hx, hb, hml, hown, hts⟩ (c_X12_sagWithout l dC dI k H.size qO widthO manyO cellsO movedO tapeO linesO isKeptO orderRowO oftenO lossOneO lossOtherO vz387 tz388 mz389 gz390 qHa hHa qFr aFr qCa pCa qAc iAc qLn az391 qBn yz392 qRw rz393 qWa jWa qBr aBr qGb yz394 qCt az395 qSm az396 qCo az397 qWb az398 qDn uz399 qMe az400 qWh az401 qBb az402 qBa az403 qDa oz404 qSa az405 qLa az406 xz408 htz388 hmz389 hhHa hpCa hiAc hyz392 hrz393 hjWa hyz394 huz399 hoz404) (cwV 1 hts (gk_V (wl_mem 16 rfl) (wl_mem 17 rfl) (wl_mem 18 rfl) (wl_mem 4 rfl) (fun w h => List.mem_cons_of_mem _ (List.mem_append_right _ (List.mem_append_right _ (List.mem_append_right _ (List.mem_append_right _ (List.mem_append_right _ (List.mem_append_right _ (List.mem_append_right _ (List.mem_append_right _ (List.mem_append_left _ h)))))))))) wkg_c_X12_sagWithout) rfl rfl rfl (by decide +kernel) ⟨Nat.le_of_ble_eq_true rfl, Nat.le_of_ble_eq_true rfl⟩) ⟨fun a U g mk q => by obtain ⟨q0, q1, qP, qK, qD⟩ := q; exact ⟨q0, q1, qP, va_K.moved (u := U) (U := U.calling g mk a) (Vm.Alike.refl U.vm) qK, qD⟩, va_recv hK hPc (ci := 12) (q0 := 0) rfl rfl, fun U hU hW => ⟨rfl, by rw [hU], by rw [hU]; exact hPc, va_K.moved hW.alike hK, hDc.weaken (fun _ _ _ _ => trivial)⟩⟩ rfl rfl hl.1 rfl (lv_room (Nat.le_of_ble_eq_true rfl)) dX12_share_105 ⟨Nat.le_of_ble_eq_true rfl, Nat.le_of_ble_eq_true rfl⟩) hS (fun q _ h => hFc q h) hFc (fun rz410 u t H1 locs ht hvm gz409 hB hz1 hk1 hS => ?_)
                obtain ⟨vz411, tz412, mz413, gz414, az415, yz416, rz417, yz418, az419, az420, az421, az422, uz423, az424, az425, az426, az427, oz428, az429, az430, htz412, hmz413, hyz416, hrz417, hyz418, huz423, hoz428, hP1⟩ := hB
                rw [ht] at hP1
                obtain ⟨hP, hD⟩ := w_callR hP hD hk1 hP1 [0, 1, 2, 3, 4, 5, 6, 7, 8, 9, 10, 11, 12, 13, 14, 15, 16] rfl rfl (wk_memC [17, 18, 19, 20, 21, 22] rfl) rfl [some 0, some 1, some 2, some 3, some 4, some 5, some 6, some 7, some 8, some 9, some 10, some 11, some 12, some 13, some 14, some 15, some 16] rfl rfl
                clear hPc hDc hFc hk1 hP1
                generalize H1 = H at hP hS ⊢
                have hP : va_P (dC, dI) vwCl (List.flatten [(wMO qO k widthO manyO cellsO movedO tapeO linesO (qHa 0) (qBr 0) (qCa 0) (qWa 0) (qFr 0) (qAc 0) isKeptO (qLn 0) (qBn 0) (qRw 0) (qMe 0) (qWh 0) (qDn 0) (qBb 0) (qBa 0) (qGb 0) (qCt 0) (qSm 0) (qCo 0) (qWb 0) (qDa 0) (qSa 0) (qLa 0) orderRowO oftenO lossOneO lossOtherO vz411 tz412 mz413 gz414), (wmLn qLn k az415), (wmBn qBn k yz416), (wmRw qRw k rz417), (wmGb qGb k yz418), (wmCt qCt k az419), (wmSm qSm k az420), (wmCo qCo k az421), (wmWb qWb k az422), (wmDn qDn k uz423), (wmMe qMe k az424), (wmWh qWh k az425), (wmBb qBb k az426), (wmBa qBa k az427), (wmDa qDa k oz428), (wmSa qSa k az429), (wmLa qLa k az430)] ++ List.flatten [(wmHa qHa k hHa), (wmFr qFr k aFr), (wmCa qCa k pCa), (wmAc qAc k iAc), (wmWa qWa k jWa), (wmBr qBr k aBr)]) H := hP
                have hD : va_D A (List.flatten [(wMO qO k widthO manyO cellsO movedO tapeO linesO (qHa 0) (qBr 0) (qCa 0) (qWa 0) (qFr 0) (qAc 0) isKeptO (qLn 0) (qBn 0) (qRw 0) (qMe 0) (qWh 0) (qDn 0) (qBb 0) (qBa 0) (qGb 0) (qCt 0) (qSm 0) (qCo 0) (qWb 0) (qDa 0) (qSa 0) (qLa 0) orderRowO oftenO lossOneO lossOtherO vz411 tz412 mz413 gz414), (wmLn qLn k az415), (wmBn qBn k yz416), (wmRw qRw k rz417), (wmGb qGb k yz418), (wmCt qCt k az419), (wmSm qSm k az420), (wmCo qCo k az421), (wmWb qWb k az422), (wmDn qDn k uz423), (wmMe qMe k az424), (wmWh qWh k az425), (wmBb qBb k az426), (wmBa qBa k az427), (wmDa qDa k oz428), (wmSa qSa k az429), (wmLa qLa k az430)] ++ List.flatten [(wmHa qHa k hHa), (wmFr qFr k aFr), (wmCa qCa k pCa), (wmAc qAc k iAc), (wmWa qWa k jWa), (wmBr qBr k aBr)]) := hD
                refine W.widen (k := 0) (n := 0) (Nat.le_refl 0) (Nat.le_refl 0) ?_
                refine lv_isub hx hb dX12_share_108 ?_
                refine lv_topi (fun xz431 exz431 => ?_)
                refine lv_i2l hx hb dX12_share_109 rfl ?_
                refine lv_lmul hx hb dX12_share_110 ?_
                refine lv_topl (fun xz432 exz432 => ?_)
                refine lv_ladd hx hb dX12_share_111 ?_
                refine lv_topl (fun xz433 exz433 => ?_)
                refine lv_lstore (lv' := [(4, .long xz433), (7, .int rz366), (0, .ref (qO 0)), (1, .int p1), (2, .int p2), (3, .int xz28), (6, .int xz247)]) hx hb dX12_share_112 hl (by decide) rfl (fun ls hl => ?_)
                exact ct114_kz361 H locs ls az427 az426 yz416 az421 az419 oz428 uz423 yz418 az430 az415 az424 gz414 mz413 tz412 vz411 rz417 az429 az420 az422 az425 xz433  hyz416 hoz428 huz423 hyz418 hmz413 htz412 hrz417 hP hD hS (lv_sub hl [2, 3, 4, 5, 0, 6] rfl)
              · skip
                have zz434 : ¬ rz266.toInt = (0 : Int) := fun h9 => cz363 (zi_eq.mpr h9)
                refine lv_goto (tgt := 114) hx hb dX12_share_54 (by decide) ?_
                exact ct114_kz361 H locs ls az226 az227 yz228 az229 az230 oz231 uz232 yz233 az234 az235 az236 gz237 mz238 tz239 vz240 rz241 az242 az243 az244 az245 xz246  hyz228 hoz231 huz232 hyz233 hmz238 htz239 hrz241 hP hD hS (lv_sub hl [0, 1, 2, 3, 4, 5] rfl)
        exact lp39_kz248 _ H locs ls aBa aBb yBn aCo aCt oDa uDn yGb aLa aLn aMe gO mO tO (va_up vO 0 (0 : Int32)) rRw aSa aSm aWb aWh (0 : Int64) (0 : Int32) (Nat.lt_succ_self _) hyBn hoDa huDn hyGb hmO htO hrRw (by show 0 ≤ (0 : Int); omega) hP hD hS (lv_sub hl [3, 4, 5, 2, 1, 0] rfl)
      · skip
        exact absurd cz22 (by decide)
def wk_c_X12_lossOf : List Cond := .code yX12_lossOf cX12_lossOf 2 (some .int) :: ([.methodLink RX12 356 yX12_paysOf, .instanceMethod yX12_paysOf, .selects RX12 yX12_paysOf yX12_paysOf, .initialized RX12, .fieldLink RX12 80 "SagMemoryModel" "goesBy" "[I"] ++ (wk_c_X12_paysOf ++ (wsX120 ++ [])))
theorem wkg_c_X12_lossOf : wk_c_X12_lossOf.all goodWord = true := by decide +kernel
set_option maxHeartbeats 4000000 in
set_option maxRecDepth 100000 in
theorem c_X12_lossOf (l : Launch) (dC : Nat → ClassId) (dI : Nat → Nat → Nat) (k : Nat → ClassId) (qO : Nat → Nat) (widthO : Nat) (manyO : Nat) (cellsO : Nat) (movedO : Nat) (tapeO : Nat) (linesO : Nat) (hasO : Nat) (cartO : Nat) (wardO : Nat) (frostAtO : Nat) (actO : Nat) (isKeptO : Nat) (loadNowO : Nat) (byNowO : Nat) (rowO : Nat) (memoryO : Nat) (whoseO : Nat) (deepNowO : Nat) (brokenByO : Nat) (brokenAtO : Nat) (comesToO : Nat) (creakOfO : Nat) (wipedByO : Nat) (deepAtO : Nat) (sagAtO : Nat) (loadAtO : Nat) (orderRowO : Nat) (oftenO : Nat) (lossOneO : Nat) (lossOtherO : Nat) (vO : Nat → Int32) (tO : Nat → Int32) (mO : Nat → Int32) (gO : Nat → Int64) (qGb : Nat → Nat) (yGb : Nat → Nat → Int32) (qSm : Nat → Nat) (aSm : Nat → Nat → Int32) (qBr : Nat → Nat) (aBr : Nat → Nat → Int32) (p1 : Int32) (htO : Rg 0 700 tO) (hmO : Rg (-1) 127 mO) (hyGb : RgA (-1) 2 yGb) (hp0 : 0 ≤ p1.toInt ∧ p1.toInt ≤ 6) : Met l yX12_lossOf wk_c_X12_lossOf ({ frames := 1, cells := 0, slots := 0, locals := 21 }) (va_Pc [.ref (qO 0), .int p1] (fun U => va_P (dC, dI) vwCl (List.flatten [(wMO qO k widthO manyO cellsO movedO tapeO linesO hasO (qBr 0) cartO wardO frostAtO actO isKeptO loadNowO byNowO rowO memoryO whoseO deepNowO brokenByO brokenAtO (qGb 0) comesToO (qSm 0) creakOfO wipedByO deepAtO sagAtO loadAtO orderRowO oftenO lossOneO lossOtherO vO tO mO gO), (wmGb qGb k yGb), (wmSm qSm k aSm), (wmBr qBr k aBr)]) U.heap ∧ va_K (dC, dI) vwCl (tK k) U)) (vp_Si (fun r : Int32 => True)) 0 0 (fun _ => False) := by
  refine Met.ofW (cc := cX12_lossOf) (maxL := 2) (ret := (some .int)) (by decide) rfl ?_
  intro p e s m args below meth c s₁ B hml hv
  obtain ⟨rfl, hP, hK⟩ := hv
  have hx := B.exec
  have hb := B.bytes
  have hr := B.returns
  have hts := atoms_spec (ws := wk_c_X12_lossOf) B.pre
  have hown : s.vm.findClass RX12 = some m.cls := findClass_of_methodNamed B.named
  have hlocks := B.notSynchronized
  have hP : va_P (dC, dI) vwCl (List.flatten [(wMO qO k widthO manyO cellsO movedO tapeO linesO hasO (qBr 0) cartO wardO frostAtO actO isKeptO loadNowO byNowO rowO memoryO whoseO deepNowO brokenByO brokenAtO (qGb 0) comesToO (qSm 0) creakOfO wipedByO deepAtO sagAtO loadAtO orderRowO oftenO lossOneO lossOtherO vO tO mO gO), (wmGb qGb k yGb), (wmSm qSm k aSm), (wmBr qBr k aBr)]) s.heap := hP
  have hl := lv_entry ([.ref (qO 0), .int p1]) (n := 2) (Nat.le_of_ble_eq_true rfl)
  rw [lg_entry_eq]
  generalize (lg_sl ([.ref (qO 0), .int p1]) ++ List.replicate (2 - (lg_sl ([.ref (qO 0), .int p1])).length) Slot.unset).toArray = ls at hl ⊢
  have hl : lv_has ls 2 [(0, .ref (qO 0)), (1, .int p1)] := hl
  refine w_gen (fun Q hQ => ?_)
  refine lv_aload_n hx hb dX12_lossOf_0 rfl (lv_at hl 0 rfl) ?_
  refine lv_iload_n hx hb dX12_lossOf_1 rfl (lv_at hl 1 rfl) ?_
  have hPc := hP
  refine vp_callSi (va_Run.run (va_runV (As := [.int p1]) (rest := []) ⟨hx, hb, hml, hown, hts⟩ (c_X12_paysOf l dC dI k qO widthO manyO cellsO movedO tapeO linesO hasO cartO wardO frostAtO actO isKeptO loadNowO byNowO rowO memoryO whoseO deepNowO brokenByO brokenAtO comesToO creakOfO wipedByO deepAtO sagAtO loadAtO orderRowO oftenO lossOneO lossOtherO vO tO mO gO qGb yGb qSm aSm qBr aBr p1 htO hmO hyGb (by show 0 ≤ p1.toInt ∧ p1.toInt ≤ 6; omega)) (cwV 1 hts (gk_V (wl_mem 0 rfl) (wl_mem 1 rfl) (wl_mem 2 rfl) (wl_mem 3 rfl) (fun w h => List.mem_cons_of_mem _ (List.mem_append_right _ (List.mem_append_left _ h))) wkg_c_X12_paysOf) rfl rfl rfl (by decide +kernel) ⟨Nat.le_of_ble_eq_true rfl, Nat.le_of_ble_eq_true rfl⟩) ⟨fun a U g mk q => by obtain ⟨q0, qP, qK⟩ := q; exact ⟨q0, qP, va_K.moved (u := U) (U := U.calling g mk a) (Vm.Alike.refl U.vm) qK⟩, va_recv hK hPc (ci := 12) (q0 := 0) rfl rfl, fun U hU hW => ⟨rfl, by rw [hU]; exact hPc, va_K.moved hW.alike hK⟩⟩ rfl rfl hl.1 rfl (lv_room (Nat.le_of_ble_eq_true rfl)) dX12_lossOf_2 ⟨Nat.le_of_ble_eq_true rfl, Nat.le_of_ble_eq_true rfl⟩)) (fun rz2 gz1 => ?_)
  clear hPc
  refine lv_aload_n hx hb dX12_lossOf_5 rfl (lv_at hl 0 rfl) ?_
  refine va_get (D := (dC, dI)) (ci := 12) (v := .ref (qGb 0)) (C := RX12) (T := TX12) (N := 59) hx hb hts (fun w h => List.mem_cons_of_mem _ (List.mem_append_right _ (List.mem_append_right _ (List.mem_append_left _ h)))) hown hK hP 0 rfl rfl 35 (by decide) (hts (.fieldLink RX12 80 "SagMemoryModel" "goesBy" "[I") (wl_mem 4 rfl)) (fun _ h9 => h9) rfl dX12_lossOf_6 ?_
  refine lv_iload_n hx hb dX12_lossOf_9 rfl (lv_at hl 1 rfl) ?_
  refine va_iald hx hb hK hP 1 0 rfl rfl (vp_in_iff.mpr ⟨by omega, by omega⟩) dX12_lossOf_10 ?_
  refine lv_topi (fun xz3 exz3 => ?_)
  have bxz3 : (-1) ≤ xz3.toInt ∧ xz3.toInt ≤ 2 := by rw [exz3]; exact (hyGb 0) _
  refine lv_iconst (v := (-1)) hx hb dX12_lossOf_11 (by decide) ?_
  refine lv_icmp_ne (tgt := 20) hx hb dX12_lossOf_12 (by decide) (fun cz4 => ?_) (fun cz4 => ?_)
  · skip
    have zz5 : ¬ xz3.toInt = (-1 : Int) := fun h9 => cz4 (zi_eq.mpr h9)
    refine lv_iconst (v := 0) hx hb dX12_lossOf_20 (by decide) ?_
    refine lv_iadd hx hb dX12_lossOf_21 ?_
    have bz6 := fb_rng rz2
    refine lv_topi (fun xz7 exz7 => ?_)
    have fxz7 : xz7.toInt = rz2.toInt + (0 : Int) := by rw [exz7]; exact fb_addI (x := rz2) (y := (0 : Int32)) (by show -2147483648 ≤ rz2.toInt + (0 : Int); omega) (by show rz2.toInt + (0 : Int) < 2147483648; omega)
    rw [hQ]
    exact W.iret (v := xz7) hx hb hr (fun t ht hW => ⟨xz7, rfl, trivial, ht⟩) (fun _ h => absurd h List.not_mem_nil) dX12_lossOf_22
  · skip
    have zz8 : xz3.toInt = (-1 : Int) := zi_eq.mp cz4
    refine lv_bipush (v := 9) hx hb dX12_lossOf_15 (by decide) ?_
    refine lv_goto (tgt := 21) hx hb dX12_lossOf_17 (by decide) ?_
    refine lv_iadd hx hb dX12_lossOf_21 ?_
    refine lv_topi (fun xz9 exz9 => ?_)
    rw [hQ]
    exact W.iret (v := xz9) hx hb hr (fun t ht hW => ⟨xz9, rfl, trivial, ht⟩) (fun _ h => absurd h List.not_mem_nil) dX12_lossOf_22
def wk_c_X12_laysGame : List Cond := .code yX12_laysGame cX12_laysGame 5 none :: ([.methodLink RX12 330 yX12_lays, .instanceMethod yX12_lays, .selects RX12 yX12_lays yX12_lays, .initialized RX12, .methodLink RX12 283 yX12_bridges, .instanceMethod yX12_bridges, .selects RX12 yX12_bridges yX12_bridges, .fieldLink RX12 59 "SagMemoryModel" "byNow" "[I", .methodLink RX12 333 yX12_runs, .instanceMethod yX12_runs, .selects RX12 yX12_runs yX12_runs, .fieldLink RX12 110 "SagMemoryModel" "lossOne" "[I", .methodLink RX12 460 yX12_lossOf, .instanceMethod yX12_lossOf, .selects RX12 yX12_lossOf yX12_lossOf, .fieldLink RX12 113 "SagMemoryModel" "lossOther" "[I"] ++ (wk_c_X12_lays ++ (wk_c_X12_bridges ++ (wsX120 ++ (wk_c_X12_runs ++ (wk_c_X12_lossOf ++ []))))))
theorem wkg_c_X12_laysGame : wk_c_X12_laysGame.all goodWord = true := by decide +kernel
set_option maxHeartbeats 4000000 in
set_option maxRecDepth 100000 in
theorem c_X12_laysGame (l : Launch) (dC : Nat → ClassId) (dI : Nat → Nat → Nat) (k : Nat → ClassId) (sz : Nat) (qO : Nat → Nat) (widthO : Nat) (manyO : Nat) (cellsO : Nat) (movedO : Nat) (tapeO : Nat) (linesO : Nat) (isKeptO : Nat) (orderRowO : Nat) (oftenO : Nat) (vO : Nat → Int32) (tO : Nat → Int32) (mO : Nat → Int32) (gO : Nat → Int64) (qHa : Nat → Nat) (hHa : Nat → Nat → Int32) (qFr : Nat → Nat) (aFr : Nat → Nat → Int32) (qCa : Nat → Nat) (pCa : Nat → Nat → Int32) (qAc : Nat → Nat) (iAc : Nat → Nat → Int32) (qLn : Nat → Nat) (aLn : Nat → Nat → Int32) (qBn : Nat → Nat) (yBn : Nat → Nat → Int32) (qRw : Nat → Nat) (rRw : Nat → Nat → Int32) (qWa : Nat → Nat) (jWa : Nat → Nat → Int32) (qBr : Nat → Nat) (aBr : Nat → Nat → Int32) (qGb : Nat → Nat) (yGb : Nat → Nat → Int32) (qCt : Nat → Nat) (aCt : Nat → Nat → Int32) (qSm : Nat → Nat) (aSm : Nat → Nat → Int32) (qCo : Nat → Nat) (aCo : Nat → Nat → Int32) (qWb : Nat → Nat) (aWb : Nat → Nat → Int32) (qDn : Nat → Nat) (uDn : Nat → Nat → Int32) (qMe : Nat → Nat) (aMe : Nat → Nat → Int32) (qWh : Nat → Nat) (aWh : Nat → Nat → Int32) (qBb : Nat → Nat) (aBb : Nat → Nat → Int32) (qBa : Nat → Nat) (aBa : Nat → Nat → Int32) (qDa : Nat → Nat) (oDa : Nat → Nat → Int32) (qSa : Nat → Nat) (aSa : Nat → Nat → Int32) (qLa : Nat → Nat) (aLa : Nat → Nat → Int32) (qLo : Nat → Nat) (aLo : Nat → Nat → Int32) (qLt : Nat → Nat) (aLt : Nat → Nat → Int32) (p1 : Int32) (p2 : Int32) (htO : Rg 0 700 tO) (hmO : Rg (-1) 127 mO) (hhHa : Pa_h hHa) (hpCa : Pa_p pCa) (hiAc : Pa_i iAc) (hyBn : RgA (-1) 2 yBn) (hrRw : RgA 0 6 rRw) (hjWa : Pa_j jWa) (hyGb : RgA (-1) 2 yGb) (huDn : RuA 8 uDn) (hoDa : RgA 0 7 oDa) (hp0 : 0 ≤ p1.toInt ∧ p1.toInt ≤ 6) (hp1 : 0 ≤ p2.toInt ∧ p2.toInt ≤ 6) : Met l yX12_laysGame wk_c_X12_laysGame ({ frames := 4, cells := 0, slots := 0, locals := 94 }) (va_Pc [.ref (qO 0), .int p1, .int p2] (fun U => U.heap.size = sz ∧ va_P (dC, dI) vwCl (List.flatten [(wMO qO k widthO manyO cellsO movedO tapeO linesO (qHa 0) (qBr 0) (qCa 0) (qWa 0) (qFr 0) (qAc 0) isKeptO (qLn 0) (qBn 0) (qRw 0) (qMe 0) (qWh 0) (qDn 0) (qBb 0) (qBa 0) (qGb 0) (qCt 0) (qSm 0) (qCo 0) (qWb 0) (qDa 0) (qSa 0) (qLa 0) orderRowO oftenO (qLo 0) (qLt 0) vO tO mO gO), (wmLn qLn k aLn), (wmBn qBn k yBn), (wmRw qRw k rRw), (wmGb qGb k yGb), (wmCt qCt k aCt), (wmSm qSm k aSm), (wmCo qCo k aCo), (wmWb qWb k aWb), (wmDn qDn k uDn), (wmMe qMe k aMe), (wmWh qWh k aWh), (wmBb qBb k aBb), (wmBa qBa k aBa), (wmDa qDa k oDa), (wmSa qSa k aSa), (wmLa qLa k aLa), (wmLo qLo k aLo), (wmLt qLt k aLt)] ++ List.flatten [(wmHa qHa k hHa), (wmFr qFr k aFr), (wmCa qCa k pCa), (wmAc qAc k iAc), (wmWa qWa k jWa), (wmBr qBr k aBr)]) U.heap ∧ va_K (dC, dI) vwCl (tK k) U ∧ va_D (fun _ => True) (List.flatten [(wMO qO k widthO manyO cellsO movedO tapeO linesO (qHa 0) (qBr 0) (qCa 0) (qWa 0) (qFr 0) (qAc 0) isKeptO (qLn 0) (qBn 0) (qRw 0) (qMe 0) (qWh 0) (qDn 0) (qBb 0) (qBa 0) (qGb 0) (qCt 0) (qSm 0) (qCo 0) (qWb 0) (qDa 0) (qSa 0) (qLa 0) orderRowO oftenO (qLo 0) (qLt 0) vO tO mO gO), (wmLn qLn k aLn), (wmBn qBn k yBn), (wmRw qRw k rRw), (wmGb qGb k yGb), (wmCt qCt k aCt), (wmSm qSm k aSm), (wmCo qCo k aCo), (wmWb qWb k aWb), (wmDn qDn k uDn), (wmMe qMe k aMe), (wmWh qWh k aWh), (wmBb qBb k aBb), (wmBa qBa k aBa), (wmDa qDa k oDa), (wmSa qSa k aSa), (wmLa qLa k aLa), (wmLo qLo k aLo), (wmLt qLt k aLt)] ++ List.flatten [(wmHa qHa k hHa), (wmFr qFr k aFr), (wmCa qCa k pCa), (wmAc qAc k iAc), (wmWa qWa k jWa), (wmBr qBr k aBr)]))) (va_Qv (fun _ : Unit => True) (fun (_ : Unit) (t : State) => ∃ (vO' : Nat → Int32) (tO' : Nat → Int32) (mO' : Nat → Int32) (gO' : Nat → Int64) (aLn' : Nat → Nat → Int32) (yBn' : Nat → Nat → Int32) (rRw' : Nat → Nat → Int32) (yGb' : Nat → Nat → Int32) (aCt' : Nat → Nat → Int32) (aSm' : Nat → Nat → Int32) (aCo' : Nat → Nat → Int32) (aWb' : Nat → Nat → Int32) (uDn' : Nat → Nat → Int32) (aMe' : Nat → Nat → Int32) (aWh' : Nat → Nat → Int32) (aBb' : Nat → Nat → Int32) (aBa' : Nat → Nat → Int32) (oDa' : Nat → Nat → Int32) (aSa' : Nat → Nat → Int32) (aLa' : Nat → Nat → Int32) (aLo' : Nat → Nat → Int32) (aLt' : Nat → Nat → Int32), Rg 0 700 tO' ∧ Rg (-1) 127 mO' ∧ RgA (-1) 2 yBn' ∧ RgA 0 6 rRw' ∧ RgA (-1) 2 yGb' ∧ RuA 8 uDn' ∧ RgA 0 7 oDa' ∧ va_P (dC, dI) vwCl (List.flatten [(wMO qO k widthO manyO cellsO movedO tapeO linesO (qHa 0) (qBr 0) (qCa 0) (qWa 0) (qFr 0) (qAc 0) isKeptO (qLn 0) (qBn 0) (qRw 0) (qMe 0) (qWh 0) (qDn 0) (qBb 0) (qBa 0) (qGb 0) (qCt 0) (qSm 0) (qCo 0) (qWb 0) (qDa 0) (qSa 0) (qLa 0) orderRowO oftenO (qLo 0) (qLt 0) vO' tO' mO' gO'), (wmLn qLn k aLn'), (wmBn qBn k yBn'), (wmRw qRw k rRw'), (wmGb qGb k yGb'), (wmCt qCt k aCt'), (wmSm qSm k aSm'), (wmCo qCo k aCo'), (wmWb qWb k aWb'), (wmDn qDn k uDn'), (wmMe qMe k aMe'), (wmWh qWh k aWh'), (wmBb qBb k aBb'), (wmBa qBa k aBa'), (wmDa qDa k oDa'), (wmSa qSa k aSa'), (wmLa qLa k aLa'), (wmLo qLo k aLo'), (wmLt qLt k aLt')] ++ List.flatten [(wmHa qHa k hHa), (wmFr qFr k aFr), (wmCa qCa k pCa), (wmAc qAc k iAc), (wmWa qWa k jWa), (wmBr qBr k aBr)]) t.heap) (va_A (List.flatten [(wMO qO k widthO manyO cellsO movedO tapeO linesO (qHa 0) (qBr 0) (qCa 0) (qWa 0) (qFr 0) (qAc 0) isKeptO (qLn 0) (qBn 0) (qRw 0) (qMe 0) (qWh 0) (qDn 0) (qBb 0) (qBa 0) (qGb 0) (qCt 0) (qSm 0) (qCo 0) (qWb 0) (qDa 0) (qSa 0) (qLa 0) orderRowO oftenO (qLo 0) (qLt 0) vO tO mO gO), (wmLn qLn k aLn), (wmBn qBn k yBn), (wmRw qRw k rRw), (wmGb qGb k yGb), (wmCt qCt k aCt), (wmSm qSm k aSm), (wmCo qCo k aCo), (wmWb qWb k aWb), (wmDn qDn k uDn), (wmMe qMe k aMe), (wmWh qWh k aWh), (wmBb qBb k aBb), (wmBa qBa k aBa), (wmDa qDa k oDa), (wmSa qSa k aSa), (wmLa qLa k aLa), (wmLo qLo k aLo), (wmLt qLt k aLt)] ++ List.flatten [(wmHa qHa k hHa), (wmFr qFr k aFr), (wmCa qCa k pCa), (wmAc qAc k iAc), (wmWa qWa k jWa), (wmBr qBr k aBr)]) sz)) 0 0 (va_A (List.flatten [(wMO qO k widthO manyO cellsO movedO tapeO linesO (qHa 0) (qBr 0) (qCa 0) (qWa 0) (qFr 0) (qAc 0) isKeptO (qLn 0) (qBn 0) (qRw 0) (qMe 0) (qWh 0) (qDn 0) (qBb 0) (qBa 0) (qGb 0) (qCt 0) (qSm 0) (qCo 0) (qWb 0) (qDa 0) (qSa 0) (qLa 0) orderRowO oftenO (qLo 0) (qLt 0) vO tO mO gO), (wmLn qLn k aLn), (wmBn qBn k yBn), (wmRw qRw k rRw), (wmGb qGb k yGb), (wmCt qCt k aCt), (wmSm qSm k aSm), (wmCo qCo k aCo), (wmWb qWb k aWb), (wmDn qDn k uDn), (wmMe qMe k aMe), (wmWh qWh k aWh), (wmBb qBb k aBb), (wmBa qBa k aBa), (wmDa qDa k oDa), (wmSa qSa k aSa), (wmLa qLa k aLa), (wmLo qLo k aLo), (wmLt qLt k aLt)] ++ List.flatten [(wmHa qHa k hHa), (wmFr qFr k aFr), (wmCa qCa k pCa), (wmAc qAc k iAc), (wmWa qWa k jWa), (wmBr qBr k aBr)]) sz) := by
  refine Met.ofW (cc := cX12_laysGame) (maxL := 5) (ret := none) (by decide) rfl ?_
  intro p e s m args below meth c s₁ B hml hv
  obtain ⟨rfl, hsz, hP, hK, hD0⟩ := hv
  have hx := B.exec
  have hb := B.bytes
  have hr := B.returns
  have hts := atoms_spec (ws := wk_c_X12_laysGame) B.pre
  have hown : s.vm.findClass RX12 = some m.cls := findClass_of_methodNamed B.named
  have hlocks := B.notSynchronized
  subst hsz
  have hD := hD0.self (sz := s.heap.size)
  generalize hAe : va_A (List.flatten [(wMO qO k widthO manyO cellsO movedO tapeO linesO (qHa 0) (qBr 0) (qCa 0) (qWa 0) (qFr 0) (qAc 0) isKeptO (qLn 0) (qBn 0) (qRw 0) (qMe 0) (qWh 0) (qDn 0) (qBb 0) (qBa 0) (qGb 0) (qCt 0) (qSm 0) (qCo 0) (qWb 0) (qDa 0) (qSa 0) (qLa 0) orderRowO oftenO (qLo 0) (qLt 0) vO tO mO gO), (wmLn qLn k aLn), (wmBn qBn k yBn), (wmRw qRw k rRw), (wmGb qGb k yGb), (wmCt qCt k aCt), (wmSm qSm k aSm), (wmCo qCo k aCo), (wmWb qWb k aWb), (wmDn qDn k uDn), (wmMe qMe k aMe), (wmWh qWh k aWh), (wmBb qBb k aBb), (wmBa qBa k aBa), (wmDa qDa k oDa), (wmSa qSa k aSa), (wmLa qLa k aLa), (wmLo qLo k aLo), (wmLt qLt k aLt)] ++ List.flatten [(wmHa qHa k hHa), (wmFr qFr k aFr), (wmCa qCa k pCa), (wmAc qAc k iAc), (wmWa qWa k jWa), (wmBr qBr k aBr)]) s.heap.size = A at hD ⊢
  have hA : ∀ q : Nat, s.heap.size ≤ q → A q := fun q h => by rw [← hAe]; exact Or.inr h
  have hS : va_S A s.heap s.heap [] := va_S.rf
  have hP : va_P (dC, dI) vwCl (List.flatten [(wMO qO k widthO manyO cellsO movedO tapeO linesO (qHa 0) (qBr 0) (qCa 0) (qWa 0) (qFr 0) (qAc 0) isKeptO (qLn 0) (qBn 0) (qRw 0) (qMe 0) (qWh 0) (qDn 0) (qBb 0) (qBa 0) (qGb 0) (qCt 0) (qSm 0) (qCo 0) (qWb 0) (qDa 0) (qSa 0) (qLa 0) orderRowO oftenO (qLo 0) (qLt 0) vO tO mO gO), (wmLn qLn k aLn), (wmBn qBn k yBn), (wmRw qRw k rRw), (wmGb qGb k yGb), (wmCt qCt k aCt), (wmSm qSm k aSm), (wmCo qCo k aCo), (wmWb qWb k aWb), (wmDn qDn k uDn), (wmMe qMe k aMe), (wmWh qWh k aWh), (wmBb qBb k aBb), (wmBa qBa k aBa), (wmDa qDa k oDa), (wmSa qSa k aSa), (wmLa qLa k aLa), (wmLo qLo k aLo), (wmLt qLt k aLt)] ++ List.flatten [(wmHa qHa k hHa), (wmFr qFr k aFr), (wmCa qCa k pCa), (wmAc qAc k iAc), (wmWa qWa k jWa), (wmBr qBr k aBr)]) s.heap := hP
  have hl := lv_entry ([.ref (qO 0), .int p1, .int p2]) (n := 5) (Nat.le_of_ble_eq_true rfl)
  rw [lg_entry_eq]
  generalize (lg_sl ([.ref (qO 0), .int p1, .int p2]) ++ List.replicate (5 - (lg_sl ([.ref (qO 0), .int p1, .int p2])).length) Slot.unset).toArray = ls at hl ⊢
  have hl : lv_has ls 5 [(0, .ref (qO 0)), (1, .int p1), (2, .int p2)] := hl
  refine w_gen (fun Q hQ => ?_)
  refine lv_aload_n hx hb dX12_laysGame_0 rfl (lv_at hl 0 rfl) ?_
  have hPc := hP.sub (ws' := (List.flatten [(wMO qO k widthO manyO cellsO movedO tapeO linesO (qHa 0) (qBr 0) (qCa 0) (qWa 0) (qFr 0) (qAc 0) isKeptO (qLn 0) (qBn 0) (qRw 0) (qMe 0) (qWh 0) (qDn 0) (qBb 0) (qBa 0) (qGb 0) (qCt 0) (qSm 0) (qCo 0) (qWb 0) (qDa 0) (qSa 0) (qLa 0) orderRowO oftenO (qLo 0) (qLt 0) vO tO mO gO), (wmLn qLn k aLn), (wmBn qBn k yBn), (wmRw qRw k rRw)] ++ List.flatten [(wmHa qHa k hHa), (wmFr qFr k aFr), (wmCa qCa k pCa), (wmAc qAc k iAc)])) [0, 1, 2, 3, 19, 20, 21, 22] rfl
  have hC : [0, 1, 2, 3, 19, 20, 21, 22].map (fun i => (List.flatten [(wMO qO k widthO manyO cellsO movedO tapeO linesO (qHa 0) (qBr 0) (qCa 0) (qWa 0) (qFr 0) (qAc 0) isKeptO (qLn 0) (qBn 0) (qRw 0) (qMe 0) (qWh 0) (qDn 0) (qBb 0) (qBa 0) (qGb 0) (qCt 0) (qSm 0) (qCo 0) (qWb 0) (qDa 0) (qSa 0) (qLa 0) orderRowO oftenO (qLo 0) (qLt 0) vO tO mO gO), (wmLn qLn k aLn), (wmBn qBn k yBn), (wmRw qRw k rRw), (wmGb qGb k yGb), (wmCt qCt k aCt), (wmSm qSm k aSm), (wmCo qCo k aCo), (wmWb qWb k aWb), (wmDn qDn k uDn), (wmMe qMe k aMe), (wmWh qWh k aWh), (wmBb qBb k aBb), (wmBa qBa k aBa), (wmDa qDa k oDa), (wmSa qSa k aSa), (wmLa qLa k aLa), (wmLo qLo k aLo), (wmLt qLt k aLt)] ++ List.flatten [(wmHa qHa k hHa), (wmFr qFr k aFr), (wmCa qCa k pCa), (wmAc qAc k iAc), (wmWa qWa k jWa), (wmBr qBr k aBr)])[i]?) = (List.flatten [(wMO qO k widthO manyO cellsO movedO tapeO linesO (qHa 0) (qBr 0) (qCa 0) (qWa 0) (qFr 0) (qAc 0) isKeptO (qLn 0) (qBn 0) (qRw 0) (qMe 0) (qWh 0) (qDn 0) (qBb 0) (qBa 0) (qGb 0) (qCt 0) (qSm 0) (qCo 0) (qWb 0) (qDa 0) (qSa 0) (qLa 0) orderRowO oftenO (qLo 0) (qLt 0) vO tO mO gO), (wmLn qLn k aLn), (wmBn qBn k yBn), (wmRw qRw k rRw)] ++ List.flatten [(wmHa qHa k hHa), (wmFr qFr k aFr), (wmCa qCa k pCa), (wmAc qAc k iAc)]).map some := rfl
  have hDc := hD.sub [0, 1, 2, 3, 19, 20, 21, 22] (by decide) hC
  have hFc := va_free hD hS hA [0, 1, 2, 3, 19, 20, 21, 22] hC
  refine va_callv (va_runV (As := []) (rest := []) ⟨hx, hb, hml, hown, hts⟩ (c_X12_lays l dC dI k s.heap.size qO widthO manyO cellsO movedO tapeO linesO (qBr 0) (qWa 0) isKeptO (qMe 0) (qWh 0) (qDn 0) (qBb 0) (qBa 0) (qGb 0) (qCt 0) (qSm 0) (qCo 0) (qWb 0) (qDa 0) (qSa 0) (qLa 0) orderRowO oftenO (qLo 0) (qLt 0) vO tO mO gO qHa hHa qFr aFr qCa pCa qAc iAc qLn aLn qBn yBn qRw rRw htO hmO hhHa hpCa hiAc hyBn hrRw) (cwV 0 hts (gk_V (wl_mem 0 rfl) (wl_mem 1 rfl) (wl_mem 2 rfl) (wl_mem 3 rfl) (fun w h => List.mem_cons_of_mem _ (List.mem_append_right _ (List.mem_append_left _ h))) wkg_c_X12_lays) rfl rfl rfl (by decide +kernel) ⟨Nat.le_of_ble_eq_true rfl, Nat.le_of_ble_eq_true rfl⟩) ⟨fun a U g mk q => by obtain ⟨q0, q1, qP, qK, qD⟩ := q; exact ⟨q0, q1, qP, va_K.moved (u := U) (U := U.calling g mk a) (Vm.Alike.refl U.vm) qK, qD⟩, va_recv hK hPc (ci := 12) (q0 := 0) rfl rfl, fun U hU hW => ⟨rfl, by rw [hU], by rw [hU]; exact hPc, va_K.moved hW.alike hK, hDc.weaken (fun _ _ _ _ => trivial)⟩⟩ rfl rfl hl.1 rfl (lv_room (Nat.le_of_ble_eq_true rfl)) dX12_laysGame_1 ⟨Nat.le_of_ble_eq_true rfl, Nat.le_of_ble_eq_true rfl⟩) hS (fun q _ h => hFc q h) hFc (fun u t H1 locs ht hvm gz1 hB hz1 hk1 hS => ?_)
  obtain ⟨vz3, tz4, mz5, gz6, az7, yz8, rz9, htz4, hmz5, hyz8, hrz9, hP1⟩ := hB
  rw [ht] at hP1
  obtain ⟨hP, hD⟩ := w_callR hP hD hk1 hP1 [0, 1, 2, 3] rfl rfl (wk_memC [19, 20, 21, 22] rfl) rfl [some 0, some 1, some 2, some 3, none, none, none, none, none, none, none, none, none, none, none, none, none, none, none] rfl rfl
  clear hPc hC hDc hFc hk1 hP1
  generalize H1 = H at hP hS ⊢
  have hP : va_P (dC, dI) vwCl (List.flatten [(wMO qO k widthO manyO cellsO movedO tapeO linesO (qHa 0) (qBr 0) (qCa 0) (qWa 0) (qFr 0) (qAc 0) isKeptO (qLn 0) (qBn 0) (qRw 0) (qMe 0) (qWh 0) (qDn 0) (qBb 0) (qBa 0) (qGb 0) (qCt 0) (qSm 0) (qCo 0) (qWb 0) (qDa 0) (qSa 0) (qLa 0) orderRowO oftenO (qLo 0) (qLt 0) vz3 tz4 mz5 gz6), (wmLn qLn k az7), (wmBn qBn k yz8), (wmRw qRw k rz9), (wmGb qGb k yGb), (wmCt qCt k aCt), (wmSm qSm k aSm), (wmCo qCo k aCo), (wmWb qWb k aWb), (wmDn qDn k uDn), (wmMe qMe k aMe), (wmWh qWh k aWh), (wmBb qBb k aBb), (wmBa qBa k aBa), (wmDa qDa k oDa), (wmSa qSa k aSa), (wmLa qLa k aLa), (wmLo qLo k aLo), (wmLt qLt k aLt)] ++ List.flatten [(wmHa qHa k hHa), (wmFr qFr k aFr), (wmCa qCa k pCa), (wmAc qAc k iAc), (wmWa qWa k jWa), (wmBr qBr k aBr)]) H := hP
  have hD : va_D A (List.flatten [(wMO qO k widthO manyO cellsO movedO tapeO linesO (qHa 0) (qBr 0) (qCa 0) (qWa 0) (qFr 0) (qAc 0) isKeptO (qLn 0) (qBn 0) (qRw 0) (qMe 0) (qWh 0) (qDn 0) (qBb 0) (qBa 0) (qGb 0) (qCt 0) (qSm 0) (qCo 0) (qWb 0) (qDa 0) (qSa 0) (qLa 0) orderRowO oftenO (qLo 0) (qLt 0) vz3 tz4 mz5 gz6), (wmLn qLn k az7), (wmBn qBn k yz8), (wmRw qRw k rz9), (wmGb qGb k yGb), (wmCt qCt k aCt), (wmSm qSm k aSm), (wmCo qCo k aCo), (wmWb qWb k aWb), (wmDn qDn k uDn), (wmMe qMe k aMe), (wmWh qWh k aWh), (wmBb qBb k aBb), (wmBa qBa k aBa), (wmDa qDa k oDa), (wmSa qSa k aSa), (wmLa qLa k aLa), (wmLo qLo k aLo), (wmLt qLt k aLt)] ++ List.flatten [(wmHa qHa k hHa), (wmFr qFr k aFr), (wmCa qCa k pCa), (wmAc qAc k iAc), (wmWa qWa k jWa), (wmBr qBr k aBr)]) := hD
  refine W.widen (k := 0) (n := 0) (Nat.le_refl 0) (Nat.le_refl 0) ?_
  refine lv_iconst (v := 0) hx hb dX12_laysGame_4 (by decide) ?_
  refine lv_istore_n (lv' := [(3, .int 0), (0, .ref (qO 0)), (1, .int p1), (2, .int p2)]) hx hb dX12_laysGame_5 rfl hl (by decide) rfl (fun ls hl => ?_)
  have lp6_kz173 : ∀ (n9_6 : Nat) (H : Heap) (locs : List Loc) (ls : Array Slot) (az156 : Nat → Nat → Int32) (az157 : Nat → Nat → Int32) (yz158 : Nat → Nat → Int32) (az159 : Nat → Nat → Int32) (az160 : Nat → Nat → Int32) (oz161 : Nat → Nat → Int32) (uz162 : Nat → Nat → Int32) (yz163 : Nat → Nat → Int32) (az164 : Nat → Nat → Int32) (az165 : Nat → Nat → Int32) (az166 : Nat → Nat → Int32) (az167 : Nat → Nat → Int32) (az168 : Nat → Nat → Int32) (az169 : Nat → Nat → Int32) (az170 : Nat → Nat → Int32) (az171 : Nat → Nat → Int32) (xz172 : Int32), (2147483647 - xz172.toInt).toNat < n9_6 → RgA (-1) 2 yz158 → RgA 0 7 oz161 → RuA 8 uz162 → RgA (-1) 2 yz163 → 0 ≤ xz172.toInt → va_P (dC, dI) vwCl (List.flatten [(wMO qO k widthO manyO cellsO movedO tapeO linesO (qHa 0) (qBr 0) (qCa 0) (qWa 0) (qFr 0) (qAc 0) isKeptO (qLn 0) (qBn 0) (qRw 0) (qMe 0) (qWh 0) (qDn 0) (qBb 0) (qBa 0) (qGb 0) (qCt 0) (qSm 0) (qCo 0) (qWb 0) (qDa 0) (qSa 0) (qLa 0) orderRowO oftenO (qLo 0) (qLt 0) vz3 tz4 mz5 gz6), (wmLn qLn k az7), (wmBn qBn k yz158), (wmRw qRw k rz9), (wmGb qGb k yz163), (wmCt qCt k az160), (wmSm qSm k az169), (wmCo qCo k az159), (wmWb qWb k az170), (wmDn qDn k uz162), (wmMe qMe k az167), (wmWh qWh k az171), (wmBb qBb k az157), (wmBa qBa k az156), (wmDa qDa k oz161), (wmSa qSa k az168), (wmLa qLa k az164), (wmLo qLo k az165), (wmLt qLt k az166)] ++ List.flatten [(wmHa qHa k hHa), (wmFr qFr k aFr), (wmCa qCa k pCa), (wmAc qAc k iAc), (wmWa qWa k jWa), (wmBr qBr k aBr)]) H → va_D A (List.flatten [(wMO qO k widthO manyO cellsO movedO tapeO linesO (qHa 0) (qBr 0) (qCa 0) (qWa 0) (qFr 0) (qAc 0) isKeptO (qLn 0) (qBn 0) (qRw 0) (qMe 0) (qWh 0) (qDn 0) (qBb 0) (qBa 0) (qGb 0) (qCt 0) (qSm 0) (qCo 0) (qWb 0) (qDa 0) (qSa 0) (qLa 0) orderRowO oftenO (qLo 0) (qLt 0) vz3 tz4 mz5 gz6), (wmLn qLn k az7), (wmBn qBn k yz158), (wmRw qRw k rz9), (wmGb qGb k yz163), (wmCt qCt k az160), (wmSm qSm k az169), (wmCo qCo k az159), (wmWb qWb k az170), (wmDn qDn k uz162), (wmMe qMe k az167), (wmWh qWh k az171), (wmBb qBb k az157), (wmBa qBa k az156), (wmDa qDa k oz161), (wmSa qSa k az168), (wmLa qLa k az164), (wmLo qLo k az165), (wmLt qLt k az166)] ++ List.flatten [(wmHa qHa k hHa), (wmFr qFr k aFr), (wmCa qCa k pCa), (wmAc qAc k iAc), (wmWa qWa k jWa), (wmBr qBr k aBr)]) → va_S A s.heap H locs → lv_has ls 5 [(0, .ref (qO 0)), (1, .int p1), (2, .int p2), (3, .int xz172)] → W p l e (headSpec wk_c_X12_laysGame ({ frames := 4, cells := 0, slots := 0, locals := 94 })).room s m ([.ref (qO 0), .int p1, .int p2] : List Value).toArray below meth c H locs 0 0 Q (F0 m 6 ls []) := by
    intro n9_6
    induction n9_6 with
    | zero => intro H locs ls az156 az157 yz158 az159 az160 oz161 uz162 yz163 az164 az165 az166 az167 az168 az169 az170 az171 xz172 hm; exact absurd hm (Nat.not_lt_zero _)
    | succ n9_6 ih6 =>
      intro H locs ls az156 az157 yz158 az159 az160 oz161 uz162 yz163 az164 az165 az166 az167 az168 az169 az170 az171 xz172 hm6 hyz158 hoz161 huz162 hyz163 jz174 hP hD hS hl
      refine lv_iload_n hx hb dX12_laysGame_6 rfl (lv_at hl 3 rfl) ?_
      refine lv_aload_n hx hb dX12_laysGame_7 rfl (lv_at hl 0 rfl) ?_
      have hPc := hP.sub (ws' := (List.flatten [(wMO qO k widthO manyO cellsO movedO tapeO linesO (qHa 0) (qBr 0) (qCa 0) (qWa 0) (qFr 0) (qAc 0) isKeptO (qLn 0) (qBn 0) (qRw 0) (qMe 0) (qWh 0) (qDn 0) (qBb 0) (qBa 0) (qGb 0) (qCt 0) (qSm 0) (qCo 0) (qWb 0) (qDa 0) (qSa 0) (qLa 0) orderRowO oftenO (qLo 0) (qLt 0) vz3 tz4 mz5 gz6), (wmHa qHa k hHa)])) [0, 19] rfl
      refine vp_callSi (va_Run.run (va_runV (As := []) (rest := [.int xz172]) ⟨hx, hb, hml, hown, hts⟩ (c_X12_bridges l dC dI k qO widthO manyO cellsO movedO tapeO linesO (qBr 0) (qCa 0) (qWa 0) (qFr 0) (qAc 0) isKeptO (qLn 0) (qBn 0) (qRw 0) (qMe 0) (qWh 0) (qDn 0) (qBb 0) (qBa 0) (qGb 0) (qCt 0) (qSm 0) (qCo 0) (qWb 0) (qDa 0) (qSa 0) (qLa 0) orderRowO oftenO (qLo 0) (qLt 0) vz3 tz4 mz5 gz6 qHa hHa htz4 hmz5 hhHa) (cwV 0 hts (gk_V (wl_mem 4 rfl) (wl_mem 5 rfl) (wl_mem 6 rfl) (wl_mem 3 rfl) (fun w h => List.mem_cons_of_mem _ (List.mem_append_right _ (List.mem_append_right _ (List.mem_append_left _ h)))) wkg_c_X12_bridges) rfl rfl rfl (by decide +kernel) ⟨Nat.le_of_ble_eq_true rfl, Nat.le_of_ble_eq_true rfl⟩) ⟨fun a U g mk q => by obtain ⟨q0, qP, qK⟩ := q; exact ⟨q0, qP, va_K.moved (u := U) (U := U.calling g mk a) (Vm.Alike.refl U.vm) qK⟩, va_recv hK hPc (ci := 12) (q0 := 0) rfl rfl, fun U hU hW => ⟨rfl, by rw [hU]; exact hPc, va_K.moved hW.alike hK⟩⟩ rfl rfl hl.1 rfl (lv_room (Nat.le_of_ble_eq_true rfl)) dX12_laysGame_8 ⟨Nat.le_of_ble_eq_true rfl, Nat.le_of_ble_eq_true rfl⟩)) (fun rz176 gz175 => ?_)
      clear hPc
      have pz177 := gz175
      have pz177 : 0 ≤ rz176.toInt ∧ rz176.toInt ≤ 3 := pz177
      refine lv_icmp_ge (tgt := 89) hx hb dX12_laysGame_11 (by decide) (fun cz178 => ?_) (fun cz178 => ?_)
      · skip
        have bz179 := fb_rng xz172
        have zz180 : rz176.toInt ≤ xz172.toInt := zi_le.mp cz178
        rw [hQ]
        exact W.vret hx hb hr (fun t ht hW => ⟨⟨(), rfl, trivial, vz3, tz4, mz5, gz6, az7, yz158, rz9, yz163, az160, az169, az159, az170, uz162, az167, az171, az157, az156, oz161, az168, az164, az165, az166, htz4, hmz5, hyz158, hrz9, hyz163, huz162, hoz161, by rw [ht]; exact hP⟩, hS.F ht⟩) hS.2.2 dX12_laysGame_89
      · skip
        have bz181 := fb_rng xz172
        have zz182 : ¬ rz176.toInt ≤ xz172.toInt := fun h9 => cz178 (zi_le.mpr h9)
        refine lv_iconst (v := 0) hx hb dX12_laysGame_14 (by decide) ?_
        refine lv_istore (lv' := [(4, .int 0), (0, .ref (qO 0)), (1, .int p1), (2, .int p2), (3, .int xz172)]) hx hb dX12_laysGame_15 hl (by decide) rfl (fun ls hl => ?_)
        have lp17_kz259 : ∀ (n9_17 : Nat) (H : Heap) (locs : List Loc) (ls : Array Slot) (az242 : Nat → Nat → Int32) (az243 : Nat → Nat → Int32) (yz244 : Nat → Nat → Int32) (az245 : Nat → Nat → Int32) (az246 : Nat → Nat → Int32) (oz247 : Nat → Nat → Int32) (uz248 : Nat → Nat → Int32) (yz249 : Nat → Nat → Int32) (az250 : Nat → Nat → Int32) (az251 : Nat → Nat → Int32) (az252 : Nat → Nat → Int32) (az253 : Nat → Nat → Int32) (az254 : Nat → Nat → Int32) (az255 : Nat → Nat → Int32) (az256 : Nat → Nat → Int32) (az257 : Nat → Nat → Int32) (xz258 : Int32), (2147483647 - xz258.toInt).toNat < n9_17 → RgA (-1) 2 yz244 → RgA 0 7 oz247 → RuA 8 uz248 → RgA (-1) 2 yz249 → 0 ≤ xz258.toInt → va_P (dC, dI) vwCl (List.flatten [(wMO qO k widthO manyO cellsO movedO tapeO linesO (qHa 0) (qBr 0) (qCa 0) (qWa 0) (qFr 0) (qAc 0) isKeptO (qLn 0) (qBn 0) (qRw 0) (qMe 0) (qWh 0) (qDn 0) (qBb 0) (qBa 0) (qGb 0) (qCt 0) (qSm 0) (qCo 0) (qWb 0) (qDa 0) (qSa 0) (qLa 0) orderRowO oftenO (qLo 0) (qLt 0) vz3 tz4 mz5 gz6), (wmLn qLn k az7), (wmBn qBn k yz244), (wmRw qRw k rz9), (wmGb qGb k yz249), (wmCt qCt k az246), (wmSm qSm k az255), (wmCo qCo k az245), (wmWb qWb k az256), (wmDn qDn k uz248), (wmMe qMe k az253), (wmWh qWh k az257), (wmBb qBb k az243), (wmBa qBa k az242), (wmDa qDa k oz247), (wmSa qSa k az254), (wmLa qLa k az250), (wmLo qLo k az251), (wmLt qLt k az252)] ++ List.flatten [(wmHa qHa k hHa), (wmFr qFr k aFr), (wmCa qCa k pCa), (wmAc qAc k iAc), (wmWa qWa k jWa), (wmBr qBr k aBr)]) H → va_D A (List.flatten [(wMO qO k widthO manyO cellsO movedO tapeO linesO (qHa 0) (qBr 0) (qCa 0) (qWa 0) (qFr 0) (qAc 0) isKeptO (qLn 0) (qBn 0) (qRw 0) (qMe 0) (qWh 0) (qDn 0) (qBb 0) (qBa 0) (qGb 0) (qCt 0) (qSm 0) (qCo 0) (qWb 0) (qDa 0) (qSa 0) (qLa 0) orderRowO oftenO (qLo 0) (qLt 0) vz3 tz4 mz5 gz6), (wmLn qLn k az7), (wmBn qBn k yz244), (wmRw qRw k rz9), (wmGb qGb k yz249), (wmCt qCt k az246), (wmSm qSm k az255), (wmCo qCo k az245), (wmWb qWb k az256), (wmDn qDn k uz248), (wmMe qMe k az253), (wmWh qWh k az257), (wmBb qBb k az243), (wmBa qBa k az242), (wmDa qDa k oz247), (wmSa qSa k az254), (wmLa qLa k az250), (wmLo qLo k az251), (wmLt qLt k az252)] ++ List.flatten [(wmHa qHa k hHa), (wmFr qFr k aFr), (wmCa qCa k pCa), (wmAc qAc k iAc), (wmWa qWa k jWa), (wmBr qBr k aBr)]) → va_S A s.heap H locs → lv_has ls 5 [(0, .ref (qO 0)), (1, .int p1), (2, .int p2), (3, .int xz172), (4, .int xz258)] → W p l e (headSpec wk_c_X12_laysGame ({ frames := 4, cells := 0, slots := 0, locals := 94 })).room s m ([.ref (qO 0), .int p1, .int p2] : List Value).toArray below meth c H locs 0 0 Q (F0 m 17 ls []) := by
          intro n9_17
          induction n9_17 with
          | zero => intro H locs ls az242 az243 yz244 az245 az246 oz247 uz248 yz249 az250 az251 az252 az253 az254 az255 az256 az257 xz258 hm; exact absurd hm (Nat.not_lt_zero _)
          | succ n9_17 ih17 =>
            intro H locs ls az242 az243 yz244 az245 az246 oz247 uz248 yz249 az250 az251 az252 az253 az254 az255 az256 az257 xz258 hm17 hyz244 hoz247 huz248 hyz249 jz260 hP hD hS hl
            refine lv_iload hx hb dX12_laysGame_17 (lv_at hl 4 rfl) ?_
            refine lv_aload_n hx hb dX12_laysGame_19 rfl (lv_at hl 0 rfl) ?_
            have hPc := hP.sub (ws' := (List.flatten [(wMO qO k widthO manyO cellsO movedO tapeO linesO (qHa 0) (qBr 0) (qCa 0) (qWa 0) (qFr 0) (qAc 0) isKeptO (qLn 0) (qBn 0) (qRw 0) (qMe 0) (qWh 0) (qDn 0) (qBb 0) (qBa 0) (qGb 0) (qCt 0) (qSm 0) (qCo 0) (qWb 0) (qDa 0) (qSa 0) (qLa 0) orderRowO oftenO (qLo 0) (qLt 0) vz3 tz4 mz5 gz6), (wmHa qHa k hHa)])) [0, 19] rfl
            refine vp_callSi (va_Run.run (va_runV (As := []) (rest := [.int xz258]) ⟨hx, hb, hml, hown, hts⟩ (c_X12_bridges l dC dI k qO widthO manyO cellsO movedO tapeO linesO (qBr 0) (qCa 0) (qWa 0) (qFr 0) (qAc 0) isKeptO (qLn 0) (qBn 0) (qRw 0) (qMe 0) (qWh 0) (qDn 0) (qBb 0) (qBa 0) (qGb 0) (qCt 0) (qSm 0) (qCo 0) (qWb 0) (qDa 0) (qSa 0) (qLa 0) orderRowO oftenO (qLo 0) (qLt 0) vz3 tz4 mz5 gz6 qHa hHa htz4 hmz5 hhHa) (cwV 0 hts (gk_V (wl_mem 4 rfl) (wl_mem 5 rfl) (wl_mem 6 rfl) (wl_mem 3 rfl) (fun w h => List.mem_cons_of_mem _ (List.mem_append_right _ (List.mem_append_right _ (List.mem_append_left _ h)))) wkg_c_X12_bridges) rfl rfl rfl (by decide +kernel) ⟨Nat.le_of_ble_eq_true rfl, Nat.le_of_ble_eq_true rfl⟩) ⟨fun a U g mk q => by obtain ⟨q0, qP, qK⟩ := q; exact ⟨q0, qP, va_K.moved (u := U) (U := U.calling g mk a) (Vm.Alike.refl U.vm) qK⟩, va_recv hK hPc (ci := 12) (q0 := 0) rfl rfl, fun U hU hW => ⟨rfl, by rw [hU]; exact hPc, va_K.moved hW.alike hK⟩⟩ rfl rfl hl.1 rfl (lv_room (Nat.le_of_ble_eq_true rfl)) dX12_laysGame_20 ⟨Nat.le_of_ble_eq_true rfl, Nat.le_of_ble_eq_true rfl⟩)) (fun rz262 gz261 => ?_)
            clear hPc
            have pz263 := gz261
            have pz263 : 0 ≤ rz262.toInt ∧ rz262.toInt ≤ 3 := pz263
            refine lv_icmp_ge (tgt := 83) hx hb dX12_laysGame_23 (by decide) (fun cz264 => ?_) (fun cz264 => ?_)
            · skip
              have bz265 := fb_rng xz258
              have zz266 : rz262.toInt ≤ xz258.toInt := zi_le.mp cz264
              obtain ⟨xz267, exz267⟩ : ∃ y : Int32, y = xz172 + Int32.ofInt (1) := ⟨_, rfl⟩
              have fxz267 : xz267.toInt = xz172.toInt + (1) := by rw [exz267]; exact fb_addI (y := Int32.ofInt (1)) (by show -2147483648 ≤ xz172.toInt + (1); omega) (by show xz172.toInt + (1) < 2147483648; omega)
              refine lv_iinc (v := xz267) (lv' := [(3, .int xz267), (0, .ref (qO 0)), (1, .int p1), (2, .int p2), (4, .int xz258)]) hx hb dX12_laysGame_83 hl (k := 3) rfl exz267.symm (by decide) rfl (fun ls hl => ?_)
              refine lv_goto (tgt := 6) hx hb dX12_laysGame_86 (by decide) ?_
              exact ih6 H locs ls az242 az243 yz244 az245 az246 oz247 uz248 yz249 az250 az251 az252 az253 az254 az255 az256 az257 xz267 (by show (2147483647 - xz267.toInt).toNat < n9_6; omega) hyz244 hoz247 huz248 hyz249 (by show 0 ≤ xz267.toInt; omega) hP hD hS (lv_sub hl [1, 2, 3, 0] rfl)
            · skip
              have bz268 := fb_rng xz258
              have zz269 : ¬ rz262.toInt ≤ xz258.toInt := fun h9 => cz264 (zi_le.mpr h9)
              refine lv_aload_n hx hb dX12_laysGame_26 rfl (lv_at hl 0 rfl) ?_
              refine va_get (D := (dC, dI)) (ci := 12) (v := .ref (qBn 0)) (C := RX12) (T := TX12) (N := 59) hx hb hts (fun w h => List.mem_cons_of_mem _ (List.mem_append_right _ (List.mem_append_right _ (List.mem_append_right _ (List.mem_append_left _ h))))) hown hK hP 0 rfl rfl 28 (by decide) (hts (.fieldLink RX12 59 "SagMemoryModel" "byNow" "[I") (wl_mem 7 rfl)) (fun _ h9 => h9) rfl dX12_laysGame_27 ?_
              refine lv_iload_n hx hb dX12_laysGame_30 rfl (lv_at hl 1 rfl) ?_
              refine lv_iload_n hx hb dX12_laysGame_31 rfl (lv_at hl 3 rfl) ?_
              refine va_iast hx hb hK hP hD hS 2 0 rfl rfl (vp_in_iff.mpr ⟨by omega, by omega⟩) dX12_laysGame_32 (fun H locs hP hD hS => ?_)
              obtain ⟨fz270, efz270, hP, hD⟩ : ∃ fz270 : Nat → Int32, fz270 = upd (yz244 0) p1.toNatClampNeg xz172 ∧ va_P (dC, dI) vwCl (List.flatten [(wMO qO k widthO manyO cellsO movedO tapeO linesO (qHa 0) (qBr 0) (qCa 0) (qWa 0) (qFr 0) (qAc 0) isKeptO (qLn 0) (qBn 0) (qRw 0) (qMe 0) (qWh 0) (qDn 0) (qBb 0) (qBa 0) (qGb 0) (qCt 0) (qSm 0) (qCo 0) (qWb 0) (qDa 0) (qSa 0) (qLa 0) orderRowO oftenO (qLo 0) (qLt 0) vz3 tz4 mz5 gz6), (wmLn qLn k az7), (wmBn qBn k (va_up yz244 0 fz270)), (wmRw qRw k rz9), (wmGb qGb k yz249), (wmCt qCt k az246), (wmSm qSm k az255), (wmCo qCo k az245), (wmWb qWb k az256), (wmDn qDn k uz248), (wmMe qMe k az253), (wmWh qWh k az257), (wmBb qBb k az243), (wmBa qBa k az242), (wmDa qDa k oz247), (wmSa qSa k az254), (wmLa qLa k az250), (wmLo qLo k az251), (wmLt qLt k az252)] ++ List.flatten [(wmHa qHa k hHa), (wmFr qFr k aFr), (wmCa qCa k pCa), (wmAc qAc k iAc), (wmWa qWa k jWa), (wmBr qBr k aBr)]) H ∧ va_D A (List.flatten [(wMO qO k widthO manyO cellsO movedO tapeO linesO (qHa 0) (qBr 0) (qCa 0) (qWa 0) (qFr 0) (qAc 0) isKeptO (qLn 0) (qBn 0) (qRw 0) (qMe 0) (qWh 0) (qDn 0) (qBb 0) (qBa 0) (qGb 0) (qCt 0) (qSm 0) (qCo 0) (qWb 0) (qDa 0) (qSa 0) (qLa 0) orderRowO oftenO (qLo 0) (qLt 0) vz3 tz4 mz5 gz6), (wmLn qLn k az7), (wmBn qBn k (va_up yz244 0 fz270)), (wmRw qRw k rz9), (wmGb qGb k yz249), (wmCt qCt k az246), (wmSm qSm k az255), (wmCo qCo k az245), (wmWb qWb k az256), (wmDn qDn k uz248), (wmMe qMe k az253), (wmWh qWh k az257), (wmBb qBb k az243), (wmBa qBa k az242), (wmDa qDa k oz247), (wmSa qSa k az254), (wmLa qLa k az250), (wmLo qLo k az251), (wmLt qLt k az252)] ++ List.flatten [(wmHa qHa k hHa), (wmFr qFr k aFr), (wmCa qCa k pCa), (wmAc qAc k iAc), (wmWa qWa k jWa), (wmBr qBr k aBr)]) := ⟨_, rfl, hP, hD⟩
              have hfz270 : Rg (-1) 2 fz270 := by rw [efz270]; exact rg_upd (hyz244 0) (by show (-1) ≤ xz172.toInt ∧ xz172.toInt ≤ 2; omega)
              have kfz270 : fz270 p1.toNatClampNeg = xz172 := by rw [efz270]; exact pk_us
              refine lv_aload_n hx hb dX12_laysGame_33 rfl (lv_at hl 0 rfl) ?_
              refine va_get (D := (dC, dI)) (ci := 12) (v := .ref (qBn 0)) (C := RX12) (T := TX12) (N := 59) hx hb hts (fun w h => List.mem_cons_of_mem _ (List.mem_append_right _ (List.mem_append_right _ (List.mem_append_right _ (List.mem_append_left _ h))))) hown hK hP 0 rfl rfl 28 (by decide) (hts (.fieldLink RX12 59 "SagMemoryModel" "byNow" "[I") (wl_mem 7 rfl)) (fun _ h9 => h9) rfl dX12_laysGame_34 ?_
              refine lv_iload_n hx hb dX12_laysGame_37 rfl (lv_at hl 2 rfl) ?_
              refine lv_iload hx hb dX12_laysGame_38 (lv_at hl 4 rfl) ?_
              refine va_iast hx hb hK hP hD hS 2 0 rfl rfl (vp_in_iff.mpr ⟨by omega, by omega⟩) dX12_laysGame_40 (fun H locs hP hD hS => ?_)
              obtain ⟨fz271, efz271, hP, hD⟩ : ∃ fz271 : Nat → Int32, fz271 = upd fz270 p2.toNatClampNeg xz258 ∧ va_P (dC, dI) vwCl (List.flatten [(wMO qO k widthO manyO cellsO movedO tapeO linesO (qHa 0) (qBr 0) (qCa 0) (qWa 0) (qFr 0) (qAc 0) isKeptO (qLn 0) (qBn 0) (qRw 0) (qMe 0) (qWh 0) (qDn 0) (qBb 0) (qBa 0) (qGb 0) (qCt 0) (qSm 0) (qCo 0) (qWb 0) (qDa 0) (qSa 0) (qLa 0) orderRowO oftenO (qLo 0) (qLt 0) vz3 tz4 mz5 gz6), (wmLn qLn k az7), (wmBn qBn k (va_up yz244 0 fz271)), (wmRw qRw k rz9), (wmGb qGb k yz249), (wmCt qCt k az246), (wmSm qSm k az255), (wmCo qCo k az245), (wmWb qWb k az256), (wmDn qDn k uz248), (wmMe qMe k az253), (wmWh qWh k az257), (wmBb qBb k az243), (wmBa qBa k az242), (wmDa qDa k oz247), (wmSa qSa k az254), (wmLa qLa k az250), (wmLo qLo k az251), (wmLt qLt k az252)] ++ List.flatten [(wmHa qHa k hHa), (wmFr qFr k aFr), (wmCa qCa k pCa), (wmAc qAc k iAc), (wmWa qWa k jWa), (wmBr qBr k aBr)]) H ∧ va_D A (List.flatten [(wMO qO k widthO manyO cellsO movedO tapeO linesO (qHa 0) (qBr 0) (qCa 0) (qWa 0) (qFr 0) (qAc 0) isKeptO (qLn 0) (qBn 0) (qRw 0) (qMe 0) (qWh 0) (qDn 0) (qBb 0) (qBa 0) (qGb 0) (qCt 0) (qSm 0) (qCo 0) (qWb 0) (qDa 0) (qSa 0) (qLa 0) orderRowO oftenO (qLo 0) (qLt 0) vz3 tz4 mz5 gz6), (wmLn qLn k az7), (wmBn qBn k (va_up yz244 0 fz271)), (wmRw qRw k rz9), (wmGb qGb k yz249), (wmCt qCt k az246), (wmSm qSm k az255), (wmCo qCo k az245), (wmWb qWb k az256), (wmDn qDn k uz248), (wmMe qMe k az253), (wmWh qWh k az257), (wmBb qBb k az243), (wmBa qBa k az242), (wmDa qDa k oz247), (wmSa qSa k az254), (wmLa qLa k az250), (wmLo qLo k az251), (wmLt qLt k az252)] ++ List.flatten [(wmHa qHa k hHa), (wmFr qFr k aFr), (wmCa qCa k pCa), (wmAc qAc k iAc), (wmWa qWa k jWa), (wmBr qBr k aBr)]) := ⟨_, rfl, hP, hD⟩
              have hfz271 : Rg (-1) 2 fz271 := by rw [efz271]; exact rg_upd hfz270 (by show (-1) ≤ xz258.toInt ∧ xz258.toInt ≤ 2; omega)
              have kfz271 : fz271 p2.toNatClampNeg = xz258 := by rw [efz271]; exact pk_us
              refine lv_aload_n hx hb dX12_laysGame_41 rfl (lv_at hl 0 rfl) ?_
              have hPc := hP.sub (ws' := (List.flatten [(wmGb qGb k yz249), (wmCt qCt k az246), (wmSm qSm k az255), (wmCo qCo k az245), (wmWb qWb k az256), (wmDn qDn k uz248), (wmMe qMe k az253), (wmWh qWh k az257), (wmBb qBb k az243), (wmBa qBa k az242), (wmDa qDa k oz247), (wmSa qSa k az254), (wmLa qLa k az250)] ++ List.flatten [(wMO qO k widthO manyO cellsO movedO tapeO linesO (qHa 0) (qBr 0) (qCa 0) (qWa 0) (qFr 0) (qAc 0) isKeptO (qLn 0) (qBn 0) (qRw 0) (qMe 0) (qWh 0) (qDn 0) (qBb 0) (qBa 0) (qGb 0) (qCt 0) (qSm 0) (qCo 0) (qWb 0) (qDa 0) (qSa 0) (qLa 0) orderRowO oftenO (qLo 0) (qLt 0) vz3 tz4 mz5 gz6), (wmHa qHa k hHa), (wmWa qWa k jWa), (wmBn qBn k (va_up yz244 0 fz271)), (wmLn qLn k az7), (wmBr qBr k aBr), (wmRw qRw k rz9)])) [4, 5, 6, 7, 8, 9, 10, 11, 12, 13, 14, 15, 16, 0, 19, 23, 2, 1, 24, 3] rfl
              have hC : [4, 5, 6, 7, 8, 9, 10, 11, 12, 13, 14, 15, 16, 0, 19, 23, 2, 1, 24, 3].map (fun i => (List.flatten [(wMO qO k widthO manyO cellsO movedO tapeO linesO (qHa 0) (qBr 0) (qCa 0) (qWa 0) (qFr 0) (qAc 0) isKeptO (qLn 0) (qBn 0) (qRw 0) (qMe 0) (qWh 0) (qDn 0) (qBb 0) (qBa 0) (qGb 0) (qCt 0) (qSm 0) (qCo 0) (qWb 0) (qDa 0) (qSa 0) (qLa 0) orderRowO oftenO (qLo 0) (qLt 0) vz3 tz4 mz5 gz6), (wmLn qLn k az7), (wmBn qBn k (va_up yz244 0 fz271)), (wmRw qRw k rz9), (wmGb qGb k yz249), (wmCt qCt k az246), (wmSm qSm k az255), (wmCo qCo k az245), (wmWb qWb k az256), (wmDn qDn k uz248), (wmMe qMe k az253), (wmWh qWh k az257), (wmBb qBb k az243), (wmBa qBa k az242), (wmDa qDa k oz247), (wmSa qSa k az254), (wmLa qLa k az250), (wmLo qLo k az251), (wmLt qLt k az252)] ++ List.flatten [(wmHa qHa k hHa), (wmFr qFr k aFr), (wmCa qCa k pCa), (wmAc qAc k iAc), (wmWa qWa k jWa), (wmBr qBr k aBr)])[i]?) = (List.flatten [(wmGb qGb k yz249), (wmCt qCt k az246), (wmSm qSm k az255), (wmCo qCo k az245), (wmWb qWb k az256), (wmDn qDn k uz248), (wmMe qMe k az253), (wmWh qWh k az257), (wmBb qBb k az243), (wmBa qBa k az242), (wmDa qDa k oz247), (wmSa qSa k az254), (wmLa qLa k az250)] ++ List.flatten [(wMO qO k widthO manyO cellsO movedO tapeO linesO (qHa 0) (qBr 0) (qCa 0) (qWa 0) (qFr 0) (qAc 0) isKeptO (qLn 0) (qBn 0) (qRw 0) (qMe 0) (qWh 0) (qDn 0) (qBb 0) (qBa 0) (qGb 0) (qCt 0) (qSm 0) (qCo 0) (qWb 0) (qDa 0) (qSa 0) (qLa 0) orderRowO oftenO (qLo 0) (qLt 0) vz3 tz4 mz5 gz6), (wmHa qHa k hHa), (wmWa qWa k jWa), (wmBn qBn k (va_up yz244 0 fz271)), (wmLn qLn k az7), (wmBr qBr k aBr), (wmRw qRw k rz9)]).map some := rfl
              have hDc := hD.sub [4, 5, 6, 7, 8, 9, 10, 11, 12, 13, 14, 15, 16, 0, 19, 23, 2, 1, 24, 3] (by decide) hC
              have hFc := va_free hD hS hA [4, 5, 6, 7, 8, 9, 10, 11, 12, 13, 14, 15, 16, 0, 19, 23, 2, 1, 24, 3] hC
              refine va_callv (va_runV (As := []) (rest := []) ⟨hx, hb, hml, hown, hts⟩ (c_X12_runs l dC dI k H.size qO widthO manyO cellsO movedO tapeO linesO (qCa 0) (qFr 0) (qAc 0) isKeptO orderRowO oftenO (qLo 0) (qLt 0) vz3 tz4 mz5 gz6 qHa hHa qWa jWa qBn (va_up yz244 0 fz271) qLn az7 qBr aBr qRw rz9 qGb yz249 qCt az246 qSm az255 qCo az245 qWb az256 qDn uz248 qMe az253 qWh az257 qBb az243 qBa az242 qDa oz247 qSa az254 qLa az250 htz4 hmz5 hhHa hjWa (rga_up hyz244 hfz271) hrz9 hyz249 huz248 hoz247) (cwV 0 hts (gk_V (wl_mem 8 rfl) (wl_mem 9 rfl) (wl_mem 10 rfl) (wl_mem 3 rfl) (fun w h => List.mem_cons_of_mem _ (List.mem_append_right _ (List.mem_append_right _ (List.mem_append_right _ (List.mem_append_right _ (List.mem_append_left _ h)))))) wkg_c_X12_runs) rfl rfl rfl (by decide +kernel) ⟨Nat.le_of_ble_eq_true rfl, Nat.le_of_ble_eq_true rfl⟩) ⟨fun a U g mk q => by obtain ⟨q0, q1, qP, qK, qD⟩ := q; exact ⟨q0, q1, qP, va_K.moved (u := U) (U := U.calling g mk a) (Vm.Alike.refl U.vm) qK, qD⟩, va_recv hK hPc (ci := 12) (q0 := 13) rfl rfl, fun U hU hW => ⟨rfl, by rw [hU], by rw [hU]; exact hPc, va_K.moved hW.alike hK, hDc.weaken (fun _ _ _ _ => trivial)⟩⟩ rfl rfl hl.1 rfl (lv_room (Nat.le_of_ble_eq_true rfl)) dX12_laysGame_42 ⟨Nat.le_of_ble_eq_true rfl, Nat.le_of_ble_eq_true rfl⟩) hS (fun q _ h => hFc q h) hFc (fun u t H1 locs ht hvm gz272 hB hz1 hk1 hS => ?_)
              obtain ⟨yz274, az275, az276, az277, az278, uz279, az280, az281, az282, az283, oz284, az285, az286, hyz274, huz279, hoz284, hP1⟩ := hB
              rw [ht] at hP1
              obtain ⟨hP, hD⟩ := w_callR hP hD hk1 hP1 [4, 5, 6, 7, 8, 9, 10, 11, 12, 13, 14, 15, 16] rfl rfl (wk_memC [0, 19, 23, 2, 1, 24, 3] rfl) rfl [none, none, none, none, some 0, some 1, some 2, some 3, some 4, some 5, some 6, some 7, some 8, some 9, some 10, some 11, some 12, none, none] rfl rfl
              clear hPc hC hDc hFc hk1 hP1
              generalize H1 = H at hP hS ⊢
              have hP : va_P (dC, dI) vwCl (List.flatten [(wMO qO k widthO manyO cellsO movedO tapeO linesO (qHa 0) (qBr 0) (qCa 0) (qWa 0) (qFr 0) (qAc 0) isKeptO (qLn 0) (qBn 0) (qRw 0) (qMe 0) (qWh 0) (qDn 0) (qBb 0) (qBa 0) (qGb 0) (qCt 0) (qSm 0) (qCo 0) (qWb 0) (qDa 0) (qSa 0) (qLa 0) orderRowO oftenO (qLo 0) (qLt 0) vz3 tz4 mz5 gz6), (wmLn qLn k az7), (wmBn qBn k (va_up yz244 0 fz271)), (wmRw qRw k rz9), (wmGb qGb k yz274), (wmCt qCt k az275), (wmSm qSm k az276), (wmCo qCo k az277), (wmWb qWb k az278), (wmDn qDn k uz279), (wmMe qMe k az280), (wmWh qWh k az281), (wmBb qBb k az282), (wmBa qBa k az283), (wmDa qDa k oz284), (wmSa qSa k az285), (wmLa qLa k az286), (wmLo qLo k az251), (wmLt qLt k az252)] ++ List.flatten [(wmHa qHa k hHa), (wmFr qFr k aFr), (wmCa qCa k pCa), (wmAc qAc k iAc), (wmWa qWa k jWa), (wmBr qBr k aBr)]) H := hP
              have hD : va_D A (List.flatten [(wMO qO k widthO manyO cellsO movedO tapeO linesO (qHa 0) (qBr 0) (qCa 0) (qWa 0) (qFr 0) (qAc 0) isKeptO (qLn 0) (qBn 0) (qRw 0) (qMe 0) (qWh 0) (qDn 0) (qBb 0) (qBa 0) (qGb 0) (qCt 0) (qSm 0) (qCo 0) (qWb 0) (qDa 0) (qSa 0) (qLa 0) orderRowO oftenO (qLo 0) (qLt 0) vz3 tz4 mz5 gz6), (wmLn qLn k az7), (wmBn qBn k (va_up yz244 0 fz271)), (wmRw qRw k rz9), (wmGb qGb k yz274), (wmCt qCt k az275), (wmSm qSm k az276), (wmCo qCo k az277), (wmWb qWb k az278), (wmDn qDn k uz279), (wmMe qMe k az280), (wmWh qWh k az281), (wmBb qBb k az282), (wmBa qBa k az283), (wmDa qDa k oz284), (wmSa qSa k az285), (wmLa qLa k az286), (wmLo qLo k az251), (wmLt qLt k az252)] ++ List.flatten [(wmHa qHa k hHa), (wmFr qFr k aFr), (wmCa qCa k pCa), (wmAc qAc k iAc), (wmWa qWa k jWa), (wmBr qBr k aBr)]) := hD
              refine W.widen (k := 0) (n := 0) (Nat.le_refl 0) (Nat.le_refl 0) ?_
              refine lv_aload_n hx hb dX12_laysGame_45 rfl (lv_at hl 0 rfl) ?_
              refine va_get (D := (dC, dI)) (ci := 12) (v := .ref (qLo 0)) (C := RX12) (T := TX12) (N := 59) hx hb hts (fun w h => List.mem_cons_of_mem _ (List.mem_append_right _ (List.mem_append_right _ (List.mem_append_right _ (List.mem_append_left _ h))))) hown hK hP 0 rfl rfl 57 (by decide) (hts (.fieldLink RX12 110 "SagMemoryModel" "lossOne" "[I") (wl_mem 11 rfl)) (fun _ h9 => h9) rfl dX12_laysGame_46 ?_
              refine lv_iconst (v := 3) hx hb dX12_laysGame_49 (by decide) ?_
              refine lv_iload_n hx hb dX12_laysGame_50 rfl (lv_at hl 3 rfl) ?_
              refine lv_imul hx hb dX12_laysGame_51 ?_
              refine lv_topi (fun xz287 exz287 => ?_)
              have fxz287 : xz287.toInt = (3 : Int) * xz172.toInt := by rw [exz287]; exact fb_mulI (x := (3 : Int32)) (y := xz172) (by show -2147483648 ≤ (3 : Int) * xz172.toInt; omega) (by show (3 : Int) * xz172.toInt < 2147483648; omega)
              refine lv_iload hx hb dX12_laysGame_52 (lv_at hl 4 rfl) ?_
              refine lv_iadd hx hb dX12_laysGame_54 ?_
              refine lv_topi (fun xz288 exz288 => ?_)
              have fxz288 : xz288.toInt = xz287.toInt + xz258.toInt := by rw [exz288]; exact fb_addI (x := xz287) (y := xz258) (by show -2147483648 ≤ xz287.toInt + xz258.toInt; omega) (by show xz287.toInt + xz258.toInt < 2147483648; omega)
              refine lv_aload_n hx hb dX12_laysGame_55 rfl (lv_at hl 0 rfl) ?_
              refine lv_iload_n hx hb dX12_laysGame_56 rfl (lv_at hl 1 rfl) ?_
              have hPc := hP.sub (ws' := (List.flatten [(wMO qO k widthO manyO cellsO movedO tapeO linesO (qHa 0) (qBr 0) (qCa 0) (qWa 0) (qFr 0) (qAc 0) isKeptO (qLn 0) (qBn 0) (qRw 0) (qMe 0) (qWh 0) (qDn 0) (qBb 0) (qBa 0) (qGb 0) (qCt 0) (qSm 0) (qCo 0) (qWb 0) (qDa 0) (qSa 0) (qLa 0) orderRowO oftenO (qLo 0) (qLt 0) vz3 tz4 mz5 gz6), (wmGb qGb k yz274), (wmSm qSm k az276), (wmBr qBr k aBr)])) [0, 4, 6, 24] rfl
              refine vp_callSi (va_Run.run (va_runV (As := [.int p1]) (rest := [.int xz288, .ref (qLo 0)]) ⟨hx, hb, hml, hown, hts⟩ (c_X12_lossOf l dC dI k qO widthO manyO cellsO movedO tapeO linesO (qHa 0) (qCa 0) (qWa 0) (qFr 0) (qAc 0) isKeptO (qLn 0) (qBn 0) (qRw 0) (qMe 0) (qWh 0) (qDn 0) (qBb 0) (qBa 0) (qCt 0) (qCo 0) (qWb 0) (qDa 0) (qSa 0) (qLa 0) orderRowO oftenO (qLo 0) (qLt 0) vz3 tz4 mz5 gz6 qGb yz274 qSm az276 qBr aBr p1 htz4 hmz5 hyz274 (by show 0 ≤ p1.toInt ∧ p1.toInt ≤ 6; omega)) (cwV 1 hts (gk_V (wl_mem 12 rfl) (wl_mem 13 rfl) (wl_mem 14 rfl) (wl_mem 3 rfl) (fun w h => List.mem_cons_of_mem _ (List.mem_append_right _ (List.mem_append_right _ (List.mem_append_right _ (List.mem_append_right _ (List.mem_append_right _ (List.mem_append_left _ h))))))) wkg_c_X12_lossOf) rfl rfl rfl (by decide +kernel) ⟨Nat.le_of_ble_eq_true rfl, Nat.le_of_ble_eq_true rfl⟩) ⟨fun a U g mk q => by obtain ⟨q0, qP, qK⟩ := q; exact ⟨q0, qP, va_K.moved (u := U) (U := U.calling g mk a) (Vm.Alike.refl U.vm) qK⟩, va_recv hK hPc (ci := 12) (q0 := 0) rfl rfl, fun U hU hW => ⟨rfl, by rw [hU]; exact hPc, va_K.moved hW.alike hK⟩⟩ rfl rfl hl.1 rfl (lv_room (Nat.le_of_ble_eq_true rfl)) dX12_laysGame_57 ⟨Nat.le_of_ble_eq_true rfl, Nat.le_of_ble_eq_true rfl⟩)) (fun rz290 gz289 => ?_)
              clear hPc
              refine va_iast hx hb hK hP hD hS 17 0 rfl rfl (vp_in_iff.mpr ⟨by omega, by omega⟩) dX12_laysGame_60 (fun H locs hP hD hS => ?_)
              obtain ⟨fz291, efz291, hP, hD⟩ : ∃ fz291 : Nat → Int32, fz291 = upd (az251 0) xz288.toNatClampNeg rz290 ∧ va_P (dC, dI) vwCl (List.flatten [(wMO qO k widthO manyO cellsO movedO tapeO linesO (qHa 0) (qBr 0) (qCa 0) (qWa 0) (qFr 0) (qAc 0) isKeptO (qLn 0) (qBn 0) (qRw 0) (qMe 0) (qWh 0) (qDn 0) (qBb 0) (qBa 0) (qGb 0) (qCt 0) (qSm 0) (qCo 0) (qWb 0) (qDa 0) (qSa 0) (qLa 0) orderRowO oftenO (qLo 0) (qLt 0) vz3 tz4 mz5 gz6), (wmLn qLn k az7), (wmBn qBn k (va_up yz244 0 fz271)), (wmRw qRw k rz9), (wmGb qGb k yz274), (wmCt qCt k az275), (wmSm qSm k az276), (wmCo qCo k az277), (wmWb qWb k az278), (wmDn qDn k uz279), (wmMe qMe k az280), (wmWh qWh k az281), (wmBb qBb k az282), (wmBa qBa k az283), (wmDa qDa k oz284), (wmSa qSa k az285), (wmLa qLa k az286), (wmLo qLo k (va_up az251 0 fz291)), (wmLt qLt k az252)] ++ List.flatten [(wmHa qHa k hHa), (wmFr qFr k aFr), (wmCa qCa k pCa), (wmAc qAc k iAc), (wmWa qWa k jWa), (wmBr qBr k aBr)]) H ∧ va_D A (List.flatten [(wMO qO k widthO manyO cellsO movedO tapeO linesO (qHa 0) (qBr 0) (qCa 0) (qWa 0) (qFr 0) (qAc 0) isKeptO (qLn 0) (qBn 0) (qRw 0) (qMe 0) (qWh 0) (qDn 0) (qBb 0) (qBa 0) (qGb 0) (qCt 0) (qSm 0) (qCo 0) (qWb 0) (qDa 0) (qSa 0) (qLa 0) orderRowO oftenO (qLo 0) (qLt 0) vz3 tz4 mz5 gz6), (wmLn qLn k az7), (wmBn qBn k (va_up yz244 0 fz271)), (wmRw qRw k rz9), (wmGb qGb k yz274), (wmCt qCt k az275), (wmSm qSm k az276), (wmCo qCo k az277), (wmWb qWb k az278), (wmDn qDn k uz279), (wmMe qMe k az280), (wmWh qWh k az281), (wmBb qBb k az282), (wmBa qBa k az283), (wmDa qDa k oz284), (wmSa qSa k az285), (wmLa qLa k az286), (wmLo qLo k (va_up az251 0 fz291)), (wmLt qLt k az252)] ++ List.flatten [(wmHa qHa k hHa), (wmFr qFr k aFr), (wmCa qCa k pCa), (wmAc qAc k iAc), (wmWa qWa k jWa), (wmBr qBr k aBr)]) := ⟨_, rfl, hP, hD⟩
              have kfz291 : fz291 xz288.toNatClampNeg = rz290 := by rw [efz291]; exact pk_us
              refine lv_aload_n hx hb dX12_laysGame_61 rfl (lv_at hl 0 rfl) ?_
              refine va_get (D := (dC, dI)) (ci := 12) (v := .ref (qLt 0)) (C := RX12) (T := TX12) (N := 59) hx hb hts (fun w h => List.mem_cons_of_mem _ (List.mem_append_right _ (List.mem_append_right _ (List.mem_append_right _ (List.mem_append_left _ h))))) hown hK hP 0 rfl rfl 58 (by decide) (hts (.fieldLink RX12 113 "SagMemoryModel" "lossOther" "[I") (wl_mem 15 rfl)) (fun _ h9 => h9) rfl dX12_laysGame_62 ?_
              refine lv_iconst (v := 3) hx hb dX12_laysGame_65 (by decide) ?_
              refine lv_iload_n hx hb dX12_laysGame_66 rfl (lv_at hl 3 rfl) ?_
              refine lv_imul hx hb dX12_laysGame_67 ?_
              refine lv_topi (fun xz292 exz292 => ?_)
              have fxz292 : xz292.toInt = (3 : Int) * xz172.toInt := by rw [exz292]; exact fb_mulI (x := (3 : Int32)) (y := xz172) (by show -2147483648 ≤ (3 : Int) * xz172.toInt; omega) (by show (3 : Int) * xz172.toInt < 2147483648; omega)
              refine lv_iload hx hb dX12_laysGame_68 (lv_at hl 4 rfl) ?_
              refine lv_iadd hx hb dX12_laysGame_70 ?_
              refine lv_topi (fun xz293 exz293 => ?_)
              have fxz293 : xz293.toInt = xz292.toInt + xz258.toInt := by rw [exz293]; exact fb_addI (x := xz292) (y := xz258) (by show -2147483648 ≤ xz292.toInt + xz258.toInt; omega) (by show xz292.toInt + xz258.toInt < 2147483648; omega)
              refine lv_aload_n hx hb dX12_laysGame_71 rfl (lv_at hl 0 rfl) ?_
              refine lv_iload_n hx hb dX12_laysGame_72 rfl (lv_at hl 2 rfl) ?_
              have hPc := hP.sub (ws' := (List.flatten [(wMO qO k widthO manyO cellsO movedO tapeO linesO (qHa 0) (qBr 0) (qCa 0) (qWa 0) (qFr 0) (qAc 0) isKeptO (qLn 0) (qBn 0) (qRw 0) (qMe 0) (qWh 0) (qDn 0) (qBb 0) (qBa 0) (qGb 0) (qCt 0) (qSm 0) (qCo 0) (qWb 0) (qDa 0) (qSa 0) (qLa 0) orderRowO oftenO (qLo 0) (qLt 0) vz3 tz4 mz5 gz6), (wmGb qGb k yz274), (wmSm qSm k az276), (wmBr qBr k aBr)])) [0, 4, 6, 24] rfl
              refine vp_callSi (va_Run.run (va_runV (As := [.int p2]) (rest := [.int xz293, .ref (qLt 0)]) ⟨hx, hb, hml, hown, hts⟩ (c_X12_lossOf l dC dI k qO widthO manyO cellsO movedO tapeO linesO (qHa 0) (qCa 0) (qWa 0) (qFr 0) (qAc 0) isKeptO (qLn 0) (qBn 0) (qRw 0) (qMe 0) (qWh 0) (qDn 0) (qBb 0) (qBa 0) (qCt 0) (qCo 0) (qWb 0) (qDa 0) (qSa 0) (qLa 0) orderRowO oftenO (qLo 0) (qLt 0) vz3 tz4 mz5 gz6 qGb yz274 qSm az276 qBr aBr p2 htz4 hmz5 hyz274 (by show 0 ≤ p2.toInt ∧ p2.toInt ≤ 6; omega)) (cwV 1 hts (gk_V (wl_mem 12 rfl) (wl_mem 13 rfl) (wl_mem 14 rfl) (wl_mem 3 rfl) (fun w h => List.mem_cons_of_mem _ (List.mem_append_right _ (List.mem_append_right _ (List.mem_append_right _ (List.mem_append_right _ (List.mem_append_right _ (List.mem_append_left _ h))))))) wkg_c_X12_lossOf) rfl rfl rfl (by decide +kernel) ⟨Nat.le_of_ble_eq_true rfl, Nat.le_of_ble_eq_true rfl⟩) ⟨fun a U g mk q => by obtain ⟨q0, qP, qK⟩ := q; exact ⟨q0, qP, va_K.moved (u := U) (U := U.calling g mk a) (Vm.Alike.refl U.vm) qK⟩, va_recv hK hPc (ci := 12) (q0 := 0) rfl rfl, fun U hU hW => ⟨rfl, by rw [hU]; exact hPc, va_K.moved hW.alike hK⟩⟩ rfl rfl hl.1 rfl (lv_room (Nat.le_of_ble_eq_true rfl)) dX12_laysGame_73 ⟨Nat.le_of_ble_eq_true rfl, Nat.le_of_ble_eq_true rfl⟩)) (fun rz295 gz294 => ?_)
              clear hPc
              refine va_iast hx hb hK hP hD hS 18 0 rfl rfl (vp_in_iff.mpr ⟨by omega, by omega⟩) dX12_laysGame_76 (fun H locs hP hD hS => ?_)
              obtain ⟨fz296, efz296, hP, hD⟩ : ∃ fz296 : Nat → Int32, fz296 = upd (az252 0) xz293.toNatClampNeg rz295 ∧ va_P (dC, dI) vwCl (List.flatten [(wMO qO k widthO manyO cellsO movedO tapeO linesO (qHa 0) (qBr 0) (qCa 0) (qWa 0) (qFr 0) (qAc 0) isKeptO (qLn 0) (qBn 0) (qRw 0) (qMe 0) (qWh 0) (qDn 0) (qBb 0) (qBa 0) (qGb 0) (qCt 0) (qSm 0) (qCo 0) (qWb 0) (qDa 0) (qSa 0) (qLa 0) orderRowO oftenO (qLo 0) (qLt 0) vz3 tz4 mz5 gz6), (wmLn qLn k az7), (wmBn qBn k (va_up yz244 0 fz271)), (wmRw qRw k rz9), (wmGb qGb k yz274), (wmCt qCt k az275), (wmSm qSm k az276), (wmCo qCo k az277), (wmWb qWb k az278), (wmDn qDn k uz279), (wmMe qMe k az280), (wmWh qWh k az281), (wmBb qBb k az282), (wmBa qBa k az283), (wmDa qDa k oz284), (wmSa qSa k az285), (wmLa qLa k az286), (wmLo qLo k (va_up az251 0 fz291)), (wmLt qLt k (va_up az252 0 fz296))] ++ List.flatten [(wmHa qHa k hHa), (wmFr qFr k aFr), (wmCa qCa k pCa), (wmAc qAc k iAc), (wmWa qWa k jWa), (wmBr qBr k aBr)]) H ∧ va_D A (List.flatten [(wMO qO k widthO manyO cellsO movedO tapeO linesO (qHa 0) (qBr 0) (qCa 0) (qWa 0) (qFr 0) (qAc 0) isKeptO (qLn 0) (qBn 0) (qRw 0) (qMe 0) (qWh 0) (qDn 0) (qBb 0) (qBa 0) (qGb 0) (qCt 0) (qSm 0) (qCo 0) (qWb 0) (qDa 0) (qSa 0) (qLa 0) orderRowO oftenO (qLo 0) (qLt 0) vz3 tz4 mz5 gz6), (wmLn qLn k az7), (wmBn qBn k (va_up yz244 0 fz271)), (wmRw qRw k rz9), (wmGb qGb k yz274), (wmCt qCt k az275), (wmSm qSm k az276), (wmCo qCo k az277), (wmWb qWb k az278), (wmDn qDn k uz279), (wmMe qMe k az280), (wmWh qWh k az281), (wmBb qBb k az282), (wmBa qBa k az283), (wmDa qDa k oz284), (wmSa qSa k az285), (wmLa qLa k az286), (wmLo qLo k (va_up az251 0 fz291)), (wmLt qLt k (va_up az252 0 fz296))] ++ List.flatten [(wmHa qHa k hHa), (wmFr qFr k aFr), (wmCa qCa k pCa), (wmAc qAc k iAc), (wmWa qWa k jWa), (wmBr qBr k aBr)]) := ⟨_, rfl, hP, hD⟩
              have kfz296 : fz296 xz293.toNatClampNeg = rz295 := by rw [efz296]; exact pk_us
              obtain ⟨xz297, exz297⟩ : ∃ y : Int32, y = xz258 + Int32.ofInt (1) := ⟨_, rfl⟩
              have fxz297 : xz297.toInt = xz258.toInt + (1) := by rw [exz297]; exact fb_addI (y := Int32.ofInt (1)) (by show -2147483648 ≤ xz258.toInt + (1); omega) (by show xz258.toInt + (1) < 2147483648; omega)
              refine lv_iinc (v := xz297) (lv' := [(4, .int xz297), (0, .ref (qO 0)), (1, .int p1), (2, .int p2), (3, .int xz172)]) hx hb dX12_laysGame_77 hl (k := 4) rfl exz297.symm (by decide) rfl (fun ls hl => ?_)
              refine lv_goto (tgt := 17) hx hb dX12_laysGame_80 (by decide) ?_
              exact ih17 H locs ls az283 az282 (va_up yz244 0 fz271) az277 az275 oz284 uz279 yz274 az286 (va_up az251 0 fz291) (va_up az252 0 fz296) az280 az285 az276 az278 az281 xz297 (by show (2147483647 - xz297.toInt).toNat < n9_17; omega) (rga_up hyz244 hfz271) hoz284 huz279 hyz274 (by show 0 ≤ xz297.toInt; omega) hP hD hS (lv_sub hl [1, 2, 3, 4, 0] rfl)
        exact lp17_kz259 _ H locs ls az156 az157 yz158 az159 az160 oz161 uz162 yz163 az164 az165 az166 az167 az168 az169 az170 az171 (0 : Int32) (Nat.lt_succ_self _) hyz158 hoz161 huz162 hyz163 (by show 0 ≤ (0 : Int); omega) hP hD hS (lv_sub hl [1, 2, 3, 4, 0] rfl)
  exact lp6_kz173 _ H locs ls aBa aBb yz8 aCo aCt oDa uDn yGb aLa aLo aLt aMe aSa aSm aWb aWh (0 : Int32) (Nat.lt_succ_self _) hyz8 hoDa huDn hyGb (by show 0 ≤ (0 : Int); omega) hP hD hS (lv_sub hl [1, 2, 3, 0] rfl)
def wk_c_X12_isRest : List Cond := .code yX12_isRest cX12_isRest 4 (some .boolean) :: ([.methodLink RX12 283 yX12_bridges, .instanceMethod yX12_bridges, .selects RX12 yX12_bridges yX12_bridges, .initialized RX12, .fieldLink RX12 110 "SagMemoryModel" "lossOne" "[I", .fieldLink RX12 113 "SagMemoryModel" "lossOther" "[I"] ++ (wk_c_X12_bridges ++ (wsX120 ++ [])))
theorem wkg_c_X12_isRest : wk_c_X12_isRest.all goodWord = true := by decide +kernel
set_option maxHeartbeats 4000000 in
set_option maxRecDepth 100000 in
theorem c_X12_isRest (l : Launch) (dC : Nat → ClassId) (dI : Nat → Nat → Nat) (k : Nat → ClassId) (qO : Nat → Nat) (widthO : Nat) (manyO : Nat) (cellsO : Nat) (movedO : Nat) (tapeO : Nat) (linesO : Nat) (bridgeO : Nat) (cartO : Nat) (wardO : Nat) (frostAtO : Nat) (actO : Nat) (isKeptO : Nat) (loadNowO : Nat) (byNowO : Nat) (rowO : Nat) (memoryO : Nat) (whoseO : Nat) (deepNowO : Nat) (brokenByO : Nat) (brokenAtO : Nat) (goesByO : Nat) (comesToO : Nat) (sagMoreO : Nat) (creakOfO : Nat) (wipedByO : Nat) (deepAtO : Nat) (sagAtO : Nat) (loadAtO : Nat) (orderRowO : Nat) (oftenO : Nat) (vO : Nat → Int32) (tO : Nat → Int32) (mO : Nat → Int32) (gO : Nat → Int64) (qHa : Nat → Nat) (hHa : Nat → Nat → Int32) (qLo : Nat → Nat) (aLo : Nat → Nat → Int32) (qLt : Nat → Nat) (aLt : Nat → Nat → Int32) (p1 : Int32) (p2 : Int32) (htO : Rg 0 700 tO) (hmO : Rg (-1) 127 mO) (hhHa : Pa_h hHa) (hp0 : 0 ≤ p1.toInt ∧ p1.toInt ≤ 2) (hp1 : 0 ≤ p2.toInt ∧ p2.toInt ≤ 2) : Met l yX12_isRest wk_c_X12_isRest ({ frames := 1, cells := 0, slots := 0, locals := 20 }) (va_Pc [.ref (qO 0), .int p1, .int p2] (fun U => va_P (dC, dI) vwCl (List.flatten [(wMO qO k widthO manyO cellsO movedO tapeO linesO (qHa 0) bridgeO cartO wardO frostAtO actO isKeptO loadNowO byNowO rowO memoryO whoseO deepNowO brokenByO brokenAtO goesByO comesToO sagMoreO creakOfO wipedByO deepAtO sagAtO loadAtO orderRowO oftenO (qLo 0) (qLt 0) vO tO mO gO), (wmHa qHa k hHa), (wmLo qLo k aLo), (wmLt qLt k aLt)]) U.heap ∧ va_K (dC, dI) vwCl (tK k) U)) (vp_Si (fun r : Int32 => (r.toInt = 0 ∨ r.toInt = 1))) 0 0 (fun _ => False) := by
  refine Met.ofW (cc := cX12_isRest) (maxL := 4) (ret := (some .boolean)) (by decide) rfl ?_
  intro p e s m args below meth c s₁ B hml hv
  obtain ⟨rfl, hP, hK⟩ := hv
  have hx := B.exec
  have hb := B.bytes
  have hr := B.returns
  have hts := atoms_spec (ws := wk_c_X12_isRest) B.pre
  have hown : s.vm.findClass RX12 = some m.cls := findClass_of_methodNamed B.named
  have hlocks := B.notSynchronized
  have hP : va_P (dC, dI) vwCl (List.flatten [(wMO qO k widthO manyO cellsO movedO tapeO linesO (qHa 0) bridgeO cartO wardO frostAtO actO isKeptO loadNowO byNowO rowO memoryO whoseO deepNowO brokenByO brokenAtO goesByO comesToO sagMoreO creakOfO wipedByO deepAtO sagAtO loadAtO orderRowO oftenO (qLo 0) (qLt 0) vO tO mO gO), (wmHa qHa k hHa), (wmLo qLo k aLo), (wmLt qLt k aLt)]) s.heap := hP
  have hl := lv_entry ([.ref (qO 0), .int p1, .int p2]) (n := 4) (Nat.le_of_ble_eq_true rfl)
  rw [lg_entry_eq]
  generalize (lg_sl ([.ref (qO 0), .int p1, .int p2]) ++ List.replicate (4 - (lg_sl ([.ref (qO 0), .int p1, .int p2])).length) Slot.unset).toArray = ls at hl ⊢
  have hl : lv_has ls 4 [(0, .ref (qO 0)), (1, .int p1), (2, .int p2)] := hl
  refine w_gen (fun Q hQ => ?_)
  refine lv_iconst (v := 0) hx hb dX12_isRest_0 (by decide) ?_
  refine lv_istore_n (lv' := [(3, .int 0), (0, .ref (qO 0)), (1, .int p1), (2, .int p2)]) hx hb dX12_isRest_1 rfl hl (by decide) rfl (fun ls hl => ?_)
  have lp2_kz38 : ∀ (n9_2 : Nat) (ls : Array Slot) (xz37 : Int32), (2147483647 - xz37.toInt).toNat < n9_2 → 0 ≤ xz37.toInt → lv_has ls 4 [(0, .ref (qO 0)), (1, .int p1), (2, .int p2), (3, .int xz37)] → W p l e (headSpec wk_c_X12_isRest ({ frames := 1, cells := 0, slots := 0, locals := 20 })).room s m ([.ref (qO 0), .int p1, .int p2] : List Value).toArray below meth c s.heap [] 0 0 Q (F0 m 2 ls []) := by
    intro n9_2
    induction n9_2 with
    | zero => intro ls xz37 hm; exact absurd hm (Nat.not_lt_zero _)
    | succ n9_2 ih2 =>
      intro ls xz37 hm2 jz39 hl
      refine lv_iload_n hx hb dX12_isRest_2 rfl (lv_at hl 3 rfl) ?_
      refine lv_aload_n hx hb dX12_isRest_3 rfl (lv_at hl 0 rfl) ?_
      have hPc := hP.sub (ws' := (List.flatten [(wMO qO k widthO manyO cellsO movedO tapeO linesO (qHa 0) bridgeO cartO wardO frostAtO actO isKeptO loadNowO byNowO rowO memoryO whoseO deepNowO brokenByO brokenAtO goesByO comesToO sagMoreO creakOfO wipedByO deepAtO sagAtO loadAtO orderRowO oftenO (qLo 0) (qLt 0) vO tO mO gO), (wmHa qHa k hHa)])) [0, 1] rfl
      refine vp_callSi (va_Run.run (va_runV (As := []) (rest := [.int xz37]) ⟨hx, hb, hml, hown, hts⟩ (c_X12_bridges l dC dI k qO widthO manyO cellsO movedO tapeO linesO bridgeO cartO wardO frostAtO actO isKeptO loadNowO byNowO rowO memoryO whoseO deepNowO brokenByO brokenAtO goesByO comesToO sagMoreO creakOfO wipedByO deepAtO sagAtO loadAtO orderRowO oftenO (qLo 0) (qLt 0) vO tO mO gO qHa hHa htO hmO hhHa) (cwV 0 hts (gk_V (wl_mem 0 rfl) (wl_mem 1 rfl) (wl_mem 2 rfl) (wl_mem 3 rfl) (fun w h => List.mem_cons_of_mem _ (List.mem_append_right _ (List.mem_append_left _ h))) wkg_c_X12_bridges) rfl rfl rfl (by decide +kernel) ⟨Nat.le_of_ble_eq_true rfl, Nat.le_of_ble_eq_true rfl⟩) ⟨fun a U g mk q => by obtain ⟨q0, qP, qK⟩ := q; exact ⟨q0, qP, va_K.moved (u := U) (U := U.calling g mk a) (Vm.Alike.refl U.vm) qK⟩, va_recv hK hPc (ci := 12) (q0 := 0) rfl rfl, fun U hU hW => ⟨rfl, by rw [hU]; exact hPc, va_K.moved hW.alike hK⟩⟩ rfl rfl hl.1 rfl (lv_room (Nat.le_of_ble_eq_true rfl)) dX12_isRest_4 ⟨Nat.le_of_ble_eq_true rfl, Nat.le_of_ble_eq_true rfl⟩)) (fun rz41 gz40 => ?_)
      clear hPc
      have pz42 := gz40
      have pz42 : 0 ≤ rz41.toInt ∧ rz41.toInt ≤ 3 := pz42
      refine lv_icmp_ge (tgt := 64) hx hb dX12_isRest_7 (by decide) (fun cz43 => ?_) (fun cz43 => ?_)
      · skip
        have bz44 := fb_rng xz37
        have zz45 : rz41.toInt ≤ xz37.toInt := zi_le.mp cz43
        refine lv_iconst (v := 1) hx hb dX12_isRest_64 (by decide) ?_
        rw [hQ]
        exact W.zret (v := (1 : Int32)) hx hb hr rfl (fun t ht hW => ⟨(1 : Int32), rfl, (by show (1 : Int) = 0 ∨ (1 : Int) = 1; omega), ht⟩) (fun _ h => absurd h List.not_mem_nil) dX12_isRest_65
      · skip
        have bz46 := fb_rng xz37
        have zz47 : ¬ rz41.toInt ≤ xz37.toInt := fun h9 => cz43 (zi_le.mpr h9)
        refine lv_aload_n hx hb dX12_isRest_10 rfl (lv_at hl 0 rfl) ?_
        refine va_get (D := (dC, dI)) (ci := 12) (v := .ref (qLo 0)) (C := RX12) (T := TX12) (N := 59) hx hb hts (fun w h => List.mem_cons_of_mem _ (List.mem_append_right _ (List.mem_append_right _ (List.mem_append_left _ h)))) hown hK hP 0 rfl rfl 57 (by decide) (hts (.fieldLink RX12 110 "SagMemoryModel" "lossOne" "[I") (wl_mem 4 rfl)) (fun _ h9 => h9) rfl dX12_isRest_11 ?_
        refine lv_iconst (v := 3) hx hb dX12_isRest_14 (by decide) ?_
        refine lv_iload_n hx hb dX12_isRest_15 rfl (lv_at hl 3 rfl) ?_
        refine lv_imul hx hb dX12_isRest_16 ?_
        refine lv_topi (fun xz48 exz48 => ?_)
        have fxz48 : xz48.toInt = (3 : Int) * xz37.toInt := by rw [exz48]; exact fb_mulI (x := (3 : Int32)) (y := xz37) (by show -2147483648 ≤ (3 : Int) * xz37.toInt; omega) (by show (3 : Int) * xz37.toInt < 2147483648; omega)
        refine lv_iload_n hx hb dX12_isRest_17 rfl (lv_at hl 2 rfl) ?_
        refine lv_iadd hx hb dX12_isRest_18 ?_
        refine lv_topi (fun xz49 exz49 => ?_)
        have fxz49 : xz49.toInt = xz48.toInt + p2.toInt := by rw [exz49]; exact fb_addI (x := xz48) (y := p2) (by show -2147483648 ≤ xz48.toInt + p2.toInt; omega) (by show xz48.toInt + p2.toInt < 2147483648; omega)
        refine va_iald hx hb hK hP 2 0 rfl rfl (vp_in_iff.mpr ⟨by omega, by omega⟩) dX12_isRest_19 ?_
        refine lv_topi (fun xz50 exz50 => ?_)
        refine lv_aload_n hx hb dX12_isRest_20 rfl (lv_at hl 0 rfl) ?_
        refine va_get (D := (dC, dI)) (ci := 12) (v := .ref (qLo 0)) (C := RX12) (T := TX12) (N := 59) hx hb hts (fun w h => List.mem_cons_of_mem _ (List.mem_append_right _ (List.mem_append_right _ (List.mem_append_left _ h)))) hown hK hP 0 rfl rfl 57 (by decide) (hts (.fieldLink RX12 110 "SagMemoryModel" "lossOne" "[I") (wl_mem 4 rfl)) (fun _ h9 => h9) rfl dX12_isRest_21 ?_
        refine lv_iconst (v := 3) hx hb dX12_isRest_24 (by decide) ?_
        refine lv_iload_n hx hb dX12_isRest_25 rfl (lv_at hl 1 rfl) ?_
        refine lv_imul hx hb dX12_isRest_26 ?_
        refine lv_topi (fun xz51 exz51 => ?_)
        have fxz51 : xz51.toInt = (3 : Int) * p1.toInt := by rw [exz51]; exact fb_mulI (x := (3 : Int32)) (y := p1) (by show -2147483648 ≤ (3 : Int) * p1.toInt; omega) (by show (3 : Int) * p1.toInt < 2147483648; omega)
        refine lv_iload_n hx hb dX12_isRest_27 rfl (lv_at hl 2 rfl) ?_
        refine lv_iadd hx hb dX12_isRest_28 ?_
        refine lv_topi (fun xz52 exz52 => ?_)
        have fxz52 : xz52.toInt = xz51.toInt + p2.toInt := by rw [exz52]; exact fb_addI (x := xz51) (y := p2) (by show -2147483648 ≤ xz51.toInt + p2.toInt; omega) (by show xz51.toInt + p2.toInt < 2147483648; omega)
        refine va_iald hx hb hK hP 2 0 rfl rfl (vp_in_iff.mpr ⟨by omega, by omega⟩) dX12_isRest_29 ?_
        refine lv_topi (fun xz53 exz53 => ?_)
        refine lv_icmp_lt (tgt := 56) hx hb dX12_isRest_30 (by decide) (fun cz54 => ?_) (fun cz54 => ?_)
        · skip
          have bz55 := fb_rng xz50
          have bz56 := fb_rng xz53
          have zz57 : xz50.toInt < xz53.toInt := zi_lt.mp cz54
          refine lv_iconst (v := 0) hx hb dX12_isRest_56 (by decide) ?_
          rw [hQ]
          exact W.zret (v := (0 : Int32)) hx hb hr rfl (fun t ht hW => ⟨(0 : Int32), rfl, (by show (0 : Int) = 0 ∨ (0 : Int) = 1; omega), ht⟩) (fun _ h => absurd h List.not_mem_nil) dX12_isRest_57
        · skip
          have bz58 := fb_rng xz50
          have bz59 := fb_rng xz53
          have zz60 : ¬ xz50.toInt < xz53.toInt := fun h9 => cz54 (zi_lt.mpr h9)
          refine lv_aload_n hx hb dX12_isRest_33 rfl (lv_at hl 0 rfl) ?_
          refine va_get (D := (dC, dI)) (ci := 12) (v := .ref (qLt 0)) (C := RX12) (T := TX12) (N := 59) hx hb hts (fun w h => List.mem_cons_of_mem _ (List.mem_append_right _ (List.mem_append_right _ (List.mem_append_left _ h)))) hown hK hP 0 rfl rfl 58 (by decide) (hts (.fieldLink RX12 113 "SagMemoryModel" "lossOther" "[I") (wl_mem 5 rfl)) (fun _ h9 => h9) rfl dX12_isRest_34 ?_
          refine lv_iconst (v := 3) hx hb dX12_isRest_37 (by decide) ?_
          refine lv_iload_n hx hb dX12_isRest_38 rfl (lv_at hl 1 rfl) ?_
          refine lv_imul hx hb dX12_isRest_39 ?_
          refine lv_topi (fun xz61 exz61 => ?_)
          have fxz61 : xz61.toInt = (3 : Int) * p1.toInt := by rw [exz61]; exact fb_mulI (x := (3 : Int32)) (y := p1) (by show -2147483648 ≤ (3 : Int) * p1.toInt; omega) (by show (3 : Int) * p1.toInt < 2147483648; omega)
          refine lv_iload_n hx hb dX12_isRest_40 rfl (lv_at hl 3 rfl) ?_
          refine lv_iadd hx hb dX12_isRest_41 ?_
          refine lv_topi (fun xz62 exz62 => ?_)
          have fxz62 : xz62.toInt = xz61.toInt + xz37.toInt := by rw [exz62]; exact fb_addI (x := xz61) (y := xz37) (by show -2147483648 ≤ xz61.toInt + xz37.toInt; omega) (by show xz61.toInt + xz37.toInt < 2147483648; omega)
          refine va_iald hx hb hK hP 3 0 rfl rfl (vp_in_iff.mpr ⟨by omega, by omega⟩) dX12_isRest_42 ?_
          refine lv_topi (fun xz63 exz63 => ?_)
          refine lv_aload_n hx hb dX12_isRest_43 rfl (lv_at hl 0 rfl) ?_
          refine va_get (D := (dC, dI)) (ci := 12) (v := .ref (qLt 0)) (C := RX12) (T := TX12) (N := 59) hx hb hts (fun w h => List.mem_cons_of_mem _ (List.mem_append_right _ (List.mem_append_right _ (List.mem_append_left _ h)))) hown hK hP 0 rfl rfl 58 (by decide) (hts (.fieldLink RX12 113 "SagMemoryModel" "lossOther" "[I") (wl_mem 5 rfl)) (fun _ h9 => h9) rfl dX12_isRest_44 ?_
          refine lv_iconst (v := 3) hx hb dX12_isRest_47 (by decide) ?_
          refine lv_iload_n hx hb dX12_isRest_48 rfl (lv_at hl 1 rfl) ?_
          refine lv_imul hx hb dX12_isRest_49 ?_
          refine lv_topi (fun xz64 exz64 => ?_)
          have fxz64 : xz64.toInt = (3 : Int) * p1.toInt := by rw [exz64]; exact fb_mulI (x := (3 : Int32)) (y := p1) (by show -2147483648 ≤ (3 : Int) * p1.toInt; omega) (by show (3 : Int) * p1.toInt < 2147483648; omega)
          refine lv_iload_n hx hb dX12_isRest_50 rfl (lv_at hl 2 rfl) ?_
          refine lv_iadd hx hb dX12_isRest_51 ?_
          refine lv_topi (fun xz65 exz65 => ?_)
          have fxz65 : xz65.toInt = xz64.toInt + p2.toInt := by rw [exz65]; exact fb_addI (x := xz64) (y := p2) (by show -2147483648 ≤ xz64.toInt + p2.toInt; omega) (by show xz64.toInt + p2.toInt < 2147483648; omega)
          refine va_iald hx hb hK hP 3 0 rfl rfl (vp_in_iff.mpr ⟨by omega, by omega⟩) dX12_isRest_52 ?_
          refine lv_topi (fun xz66 exz66 => ?_)
          refine lv_icmp_ge (tgt := 58) hx hb dX12_isRest_53 (by decide) (fun cz67 => ?_) (fun cz67 => ?_)
          · skip
            have bz68 := fb_rng xz66
            have bz69 := fb_rng xz63
            have zz70 : xz66.toInt ≤ xz63.toInt := zi_le.mp cz67
            obtain ⟨xz71, exz71⟩ : ∃ y : Int32, y = xz37 + Int32.ofInt (1) := ⟨_, rfl⟩
            have fxz71 : xz71.toInt = xz37.toInt + (1) := by rw [exz71]; exact fb_addI (y := Int32.ofInt (1)) (by show -2147483648 ≤ xz37.toInt + (1); omega) (by show xz37.toInt + (1) < 2147483648; omega)
            refine lv_iinc (v := xz71) (lv' := [(3, .int xz71), (0, .ref (qO 0)), (1, .int p1), (2, .int p2)]) hx hb dX12_isRest_58 hl (k := 3) rfl exz71.symm (by decide) rfl (fun ls hl => ?_)
            refine lv_goto (tgt := 2) hx hb dX12_isRest_61 (by decide) ?_
            exact ih2 ls xz71 (by show (2147483647 - xz71.toInt).toNat < n9_2; omega) (by show 0 ≤ xz71.toInt; omega) (lv_sub hl [1, 2, 3, 0] rfl)
          · skip
            have bz72 := fb_rng xz66
            have bz73 := fb_rng xz63
            have zz74 : ¬ xz66.toInt ≤ xz63.toInt := fun h9 => cz67 (zi_le.mpr h9)
            refine lv_iconst (v := 0) hx hb dX12_isRest_56 (by decide) ?_
            rw [hQ]
            exact W.zret (v := (0 : Int32)) hx hb hr rfl (fun t ht hW => ⟨(0 : Int32), rfl, (by show (0 : Int) = 0 ∨ (0 : Int) = 1; omega), ht⟩) (fun _ h => absurd h List.not_mem_nil) dX12_isRest_57
  exact lp2_kz38 _ ls (0 : Int32) (Nat.lt_succ_self _) (by show 0 ≤ (0 : Int); omega) (lv_sub hl [1, 2, 3, 0] rfl)
def wk_c_X12_rests : List Cond := .code yX12_rests cX12_rests 6 (some .int) :: ([.fieldLink RX12 116 "SagMemoryModel" "thrown" "I", .methodLink RX12 463 yX12_areTwo, .instanceMethod yX12_areTwo, .selects RX12 yX12_areTwo yX12_areTwo, .initialized RX12, .methodLink RX12 466 yX12_laysGame, .instanceMethod yX12_laysGame, .selects RX12 yX12_laysGame yX12_laysGame, .methodLink RX12 283 yX12_bridges, .instanceMethod yX12_bridges, .selects RX12 yX12_bridges yX12_bridges, .methodLink RX12 469 yX12_isRest, .instanceMethod yX12_isRest, .selects RX12 yX12_isRest yX12_isRest] ++ (wsX120 ++ (wk_c_X12_areTwo ++ (wk_c_X12_laysGame ++ (wk_c_X12_bridges ++ (wk_c_X12_isRest ++ []))))))
theorem wkg_c_X12_rests : wk_c_X12_rests.all goodWord = true := by decide +kernel
set_option maxHeartbeats 4000000 in
set_option maxRecDepth 100000 in
theorem c_X12_rests (l : Launch) (dC : Nat → ClassId) (dI : Nat → Nat → Nat) (k : Nat → ClassId) (sz : Nat) (qO : Nat → Nat) (widthO : Nat) (manyO : Nat) (cellsO : Nat) (movedO : Nat) (tapeO : Nat) (linesO : Nat) (isKeptO : Nat) (orderRowO : Nat) (oftenO : Nat) (vO : Nat → Int32) (tO : Nat → Int32) (mO : Nat → Int32) (gO : Nat → Int64) (qHa : Nat → Nat) (hHa : Nat → Nat → Int32) (qFr : Nat → Nat) (aFr : Nat → Nat → Int32) (qCa : Nat → Nat) (pCa : Nat → Nat → Int32) (qAc : Nat → Nat) (iAc : Nat → Nat → Int32) (qLn : Nat → Nat) (aLn : Nat → Nat → Int32) (qBn : Nat → Nat) (yBn : Nat → Nat → Int32) (qRw : Nat → Nat) (rRw : Nat → Nat → Int32) (qWa : Nat → Nat) (jWa : Nat → Nat → Int32) (qBr : Nat → Nat) (aBr : Nat → Nat → Int32) (qGb : Nat → Nat) (yGb : Nat → Nat → Int32) (qCt : Nat → Nat) (aCt : Nat → Nat → Int32) (qSm : Nat → Nat) (aSm : Nat → Nat → Int32) (qCo : Nat → Nat) (aCo : Nat → Nat → Int32) (qWb : Nat → Nat) (aWb : Nat → Nat → Int32) (qDn : Nat → Nat) (uDn : Nat → Nat → Int32) (qMe : Nat → Nat) (aMe : Nat → Nat → Int32) (qWh : Nat → Nat) (aWh : Nat → Nat → Int32) (qBb : Nat → Nat) (aBb : Nat → Nat → Int32) (qBa : Nat → Nat) (aBa : Nat → Nat → Int32) (qDa : Nat → Nat) (oDa : Nat → Nat → Int32) (qSa : Nat → Nat) (aSa : Nat → Nat → Int32) (qLa : Nat → Nat) (aLa : Nat → Nat → Int32) (qLo : Nat → Nat) (aLo : Nat → Nat → Int32) (qLt : Nat → Nat) (aLt : Nat → Nat → Int32) (p1 : Int32) (p2 : Int32) (htO : Rg 0 700 tO) (hmO : Rg (-1) 127 mO) (hhHa : Pa_h hHa) (hpCa : Pa_p pCa) (hiAc : Pa_i iAc) (hyBn : RgA (-1) 2 yBn) (hrRw : RgA 0 6 rRw) (hjWa : Pa_j jWa) (hyGb : RgA (-1) 2 yGb) (huDn : RuA 8 uDn) (hoDa : RgA 0 7 oDa) : Met l yX12_rests wk_c_X12_rests ({ frames := 5, cells := 0, slots := 0, locals := 118 }) (va_Pc [.ref (qO 0), .int p1, .int p2] (fun U => U.heap.size = sz ∧ va_P (dC, dI) vwCl (List.flatten [(wMO qO k widthO manyO cellsO movedO tapeO linesO (qHa 0) (qBr 0) (qCa 0) (qWa 0) (qFr 0) (qAc 0) isKeptO (qLn 0) (qBn 0) (qRw 0) (qMe 0) (qWh 0) (qDn 0) (qBb 0) (qBa 0) (qGb 0) (qCt 0) (qSm 0) (qCo 0) (qWb 0) (qDa 0) (qSa 0) (qLa 0) orderRowO oftenO (qLo 0) (qLt 0) vO tO mO gO), (wmLn qLn k aLn), (wmBn qBn k yBn), (wmRw qRw k rRw), (wmGb qGb k yGb), (wmCt qCt k aCt), (wmSm qSm k aSm), (wmCo qCo k aCo), (wmWb qWb k aWb), (wmDn qDn k uDn), (wmMe qMe k aMe), (wmWh qWh k aWh), (wmBb qBb k aBb), (wmBa qBa k aBa), (wmDa qDa k oDa), (wmSa qSa k aSa), (wmLa qLa k aLa), (wmLo qLo k aLo), (wmLt qLt k aLt)] ++ List.flatten [(wmHa qHa k hHa), (wmFr qFr k aFr), (wmCa qCa k pCa), (wmAc qAc k iAc), (wmWa qWa k jWa), (wmBr qBr k aBr)]) U.heap ∧ va_K (dC, dI) vwCl (tK k) U ∧ va_D (fun _ => True) (List.flatten [(wMO qO k widthO manyO cellsO movedO tapeO linesO (qHa 0) (qBr 0) (qCa 0) (qWa 0) (qFr 0) (qAc 0) isKeptO (qLn 0) (qBn 0) (qRw 0) (qMe 0) (qWh 0) (qDn 0) (qBb 0) (qBa 0) (qGb 0) (qCt 0) (qSm 0) (qCo 0) (qWb 0) (qDa 0) (qSa 0) (qLa 0) orderRowO oftenO (qLo 0) (qLt 0) vO tO mO gO), (wmLn qLn k aLn), (wmBn qBn k yBn), (wmRw qRw k rRw), (wmGb qGb k yGb), (wmCt qCt k aCt), (wmSm qSm k aSm), (wmCo qCo k aCo), (wmWb qWb k aWb), (wmDn qDn k uDn), (wmMe qMe k aMe), (wmWh qWh k aWh), (wmBb qBb k aBb), (wmBa qBa k aBa), (wmDa qDa k oDa), (wmSa qSa k aSa), (wmLa qLa k aLa), (wmLo qLo k aLo), (wmLt qLt k aLt)] ++ List.flatten [(wmHa qHa k hHa), (wmFr qFr k aFr), (wmCa qCa k pCa), (wmAc qAc k iAc), (wmWa qWa k jWa), (wmBr qBr k aBr)]))) (va_Qi (fun (r : Int32) (_ : Unit) => True) (fun (_ : Unit) (t : State) => ∃ (vO' : Nat → Int32) (tO' : Nat → Int32) (mO' : Nat → Int32) (gO' : Nat → Int64) (aLn' : Nat → Nat → Int32) (yBn' : Nat → Nat → Int32) (rRw' : Nat → Nat → Int32) (yGb' : Nat → Nat → Int32) (aCt' : Nat → Nat → Int32) (aSm' : Nat → Nat → Int32) (aCo' : Nat → Nat → Int32) (aWb' : Nat → Nat → Int32) (uDn' : Nat → Nat → Int32) (aMe' : Nat → Nat → Int32) (aWh' : Nat → Nat → Int32) (aBb' : Nat → Nat → Int32) (aBa' : Nat → Nat → Int32) (oDa' : Nat → Nat → Int32) (aSa' : Nat → Nat → Int32) (aLa' : Nat → Nat → Int32) (aLo' : Nat → Nat → Int32) (aLt' : Nat → Nat → Int32), Rg 0 700 tO' ∧ Rg (-1) 127 mO' ∧ RgA (-1) 2 yBn' ∧ RgA 0 6 rRw' ∧ RgA (-1) 2 yGb' ∧ RuA 8 uDn' ∧ RgA 0 7 oDa' ∧ va_P (dC, dI) vwCl (List.flatten [(wMO qO k widthO manyO cellsO movedO tapeO linesO (qHa 0) (qBr 0) (qCa 0) (qWa 0) (qFr 0) (qAc 0) isKeptO (qLn 0) (qBn 0) (qRw 0) (qMe 0) (qWh 0) (qDn 0) (qBb 0) (qBa 0) (qGb 0) (qCt 0) (qSm 0) (qCo 0) (qWb 0) (qDa 0) (qSa 0) (qLa 0) orderRowO oftenO (qLo 0) (qLt 0) vO' tO' mO' gO'), (wmLn qLn k aLn'), (wmBn qBn k yBn'), (wmRw qRw k rRw'), (wmGb qGb k yGb'), (wmCt qCt k aCt'), (wmSm qSm k aSm'), (wmCo qCo k aCo'), (wmWb qWb k aWb'), (wmDn qDn k uDn'), (wmMe qMe k aMe'), (wmWh qWh k aWh'), (wmBb qBb k aBb'), (wmBa qBa k aBa'), (wmDa qDa k oDa'), (wmSa qSa k aSa'), (wmLa qLa k aLa'), (wmLo qLo k aLo'), (wmLt qLt k aLt')] ++ List.flatten [(wmHa qHa k hHa), (wmFr qFr k aFr), (wmCa qCa k pCa), (wmAc qAc k iAc), (wmWa qWa k jWa), (wmBr qBr k aBr)]) t.heap) (va_A (List.flatten [(wMO qO k widthO manyO cellsO movedO tapeO linesO (qHa 0) (qBr 0) (qCa 0) (qWa 0) (qFr 0) (qAc 0) isKeptO (qLn 0) (qBn 0) (qRw 0) (qMe 0) (qWh 0) (qDn 0) (qBb 0) (qBa 0) (qGb 0) (qCt 0) (qSm 0) (qCo 0) (qWb 0) (qDa 0) (qSa 0) (qLa 0) orderRowO oftenO (qLo 0) (qLt 0) vO tO mO gO), (wmLn qLn k aLn), (wmBn qBn k yBn), (wmRw qRw k rRw), (wmGb qGb k yGb), (wmCt qCt k aCt), (wmSm qSm k aSm), (wmCo qCo k aCo), (wmWb qWb k aWb), (wmDn qDn k uDn), (wmMe qMe k aMe), (wmWh qWh k aWh), (wmBb qBb k aBb), (wmBa qBa k aBa), (wmDa qDa k oDa), (wmSa qSa k aSa), (wmLa qLa k aLa), (wmLo qLo k aLo), (wmLt qLt k aLt)] ++ List.flatten [(wmHa qHa k hHa), (wmFr qFr k aFr), (wmCa qCa k pCa), (wmAc qAc k iAc), (wmWa qWa k jWa), (wmBr qBr k aBr)]) sz)) 0 0 (va_A (List.flatten [(wMO qO k widthO manyO cellsO movedO tapeO linesO (qHa 0) (qBr 0) (qCa 0) (qWa 0) (qFr 0) (qAc 0) isKeptO (qLn 0) (qBn 0) (qRw 0) (qMe 0) (qWh 0) (qDn 0) (qBb 0) (qBa 0) (qGb 0) (qCt 0) (qSm 0) (qCo 0) (qWb 0) (qDa 0) (qSa 0) (qLa 0) orderRowO oftenO (qLo 0) (qLt 0) vO tO mO gO), (wmLn qLn k aLn), (wmBn qBn k yBn), (wmRw qRw k rRw), (wmGb qGb k yGb), (wmCt qCt k aCt), (wmSm qSm k aSm), (wmCo qCo k aCo), (wmWb qWb k aWb), (wmDn qDn k uDn), (wmMe qMe k aMe), (wmWh qWh k aWh), (wmBb qBb k aBb), (wmBa qBa k aBa), (wmDa qDa k oDa), (wmSa qSa k aSa), (wmLa qLa k aLa), (wmLo qLo k aLo), (wmLt qLt k aLt)] ++ List.flatten [(wmHa qHa k hHa), (wmFr qFr k aFr), (wmCa qCa k pCa), (wmAc qAc k iAc), (wmWa qWa k jWa), (wmBr qBr k aBr)]) sz) := by
  refine Met.ofW (cc := cX12_rests) (maxL := 6) (ret := (some .int)) (by decide) rfl ?_
  intro p e s m args below meth c s₁ B hml hv
  obtain ⟨rfl, hsz, hP, hK, hD0⟩ := hv
  have hx := B.exec
  have hb := B.bytes
  have hr := B.returns
  have hts := atoms_spec (ws := wk_c_X12_rests) B.pre
  have hown : s.vm.findClass RX12 = some m.cls := findClass_of_methodNamed B.named
  have hlocks := B.notSynchronized
  subst hsz
  have hD := hD0.self (sz := s.heap.size)
  generalize hAe : va_A (List.flatten [(wMO qO k widthO manyO cellsO movedO tapeO linesO (qHa 0) (qBr 0) (qCa 0) (qWa 0) (qFr 0) (qAc 0) isKeptO (qLn 0) (qBn 0) (qRw 0) (qMe 0) (qWh 0) (qDn 0) (qBb 0) (qBa 0) (qGb 0) (qCt 0) (qSm 0) (qCo 0) (qWb 0) (qDa 0) (qSa 0) (qLa 0) orderRowO oftenO (qLo 0) (qLt 0) vO tO mO gO), (wmLn qLn k aLn), (wmBn qBn k yBn), (wmRw qRw k rRw), (wmGb qGb k yGb), (wmCt qCt k aCt), (wmSm qSm k aSm), (wmCo qCo k aCo), (wmWb qWb k aWb), (wmDn qDn k uDn), (wmMe qMe k aMe), (wmWh qWh k aWh), (wmBb qBb k aBb), (wmBa qBa k aBa), (wmDa qDa k oDa), (wmSa qSa k aSa), (wmLa qLa k aLa), (wmLo qLo k aLo), (wmLt qLt k aLt)] ++ List.flatten [(wmHa qHa k hHa), (wmFr qFr k aFr), (wmCa qCa k pCa), (wmAc qAc k iAc), (wmWa qWa k jWa), (wmBr qBr k aBr)]) s.heap.size = A at hD ⊢
  have hA : ∀ q : Nat, s.heap.size ≤ q → A q := fun q h => by rw [← hAe]; exact Or.inr h
  have hS : va_S A s.heap s.heap [] := va_S.rf
  have hP : va_P (dC, dI) vwCl (List.flatten [(wMO qO k widthO manyO cellsO movedO tapeO linesO (qHa 0) (qBr 0) (qCa 0) (qWa 0) (qFr 0) (qAc 0) isKeptO (qLn 0) (qBn 0) (qRw 0) (qMe 0) (qWh 0) (qDn 0) (qBb 0) (qBa 0) (qGb 0) (qCt 0) (qSm 0) (qCo 0) (qWb 0) (qDa 0) (qSa 0) (qLa 0) orderRowO oftenO (qLo 0) (qLt 0) vO tO mO gO), (wmLn qLn k aLn), (wmBn qBn k yBn), (wmRw qRw k rRw), (wmGb qGb k yGb), (wmCt qCt k aCt), (wmSm qSm k aSm), (wmCo qCo k aCo), (wmWb qWb k aWb), (wmDn qDn k uDn), (wmMe qMe k aMe), (wmWh qWh k aWh), (wmBb qBb k aBb), (wmBa qBa k aBa), (wmDa qDa k oDa), (wmSa qSa k aSa), (wmLa qLa k aLa), (wmLo qLo k aLo), (wmLt qLt k aLt)] ++ List.flatten [(wmHa qHa k hHa), (wmFr qFr k aFr), (wmCa qCa k pCa), (wmAc qAc k iAc), (wmWa qWa k jWa), (wmBr qBr k aBr)]) s.heap := hP
  have hl := lv_entry ([.ref (qO 0), .int p1, .int p2]) (n := 6) (Nat.le_of_ble_eq_true rfl)
  rw [lg_entry_eq]
  generalize (lg_sl ([.ref (qO 0), .int p1, .int p2]) ++ List.replicate (6 - (lg_sl ([.ref (qO 0), .int p1, .int p2])).length) Slot.unset).toArray = ls at hl ⊢
  have hl : lv_has ls 6 [(0, .ref (qO 0)), (1, .int p1), (2, .int p2)] := hl
  refine w_gen (fun Q hQ => ?_)
  refine lv_aload_n hx hb dX12_rests_0 rfl (lv_at hl 0 rfl) ?_
  refine lv_iconst (v := 0) hx hb dX12_rests_1 (by decide) ?_
  refine va_put (D := (dC, dI)) (ci := 12) (v := .int 0) (ty := .int) (C := RX12) (T := TX12) (N := 59) hx hb hts (fun w h => List.mem_cons_of_mem _ (List.mem_append_right _ (List.mem_append_left _ h))) tyX12 tyX12_ok nmX12 hown hK hP hD hS 0 rfl rfl 0 (by decide) (hts (.fieldLink RX12 116 "SagMemoryModel" "thrown" "I") (wl_mem 0 rfl)) (fun _ h9 => h9) rfl (by decide +kernel) rfl rfl (Nat.le_of_ble_eq_true rfl) dX12_rests_2 (fun H locs hP hD hS => ?_)
  have hP : va_P (dC, dI) vwCl (List.flatten [(wMO qO k widthO manyO cellsO movedO tapeO linesO (qHa 0) (qBr 0) (qCa 0) (qWa 0) (qFr 0) (qAc 0) isKeptO (qLn 0) (qBn 0) (qRw 0) (qMe 0) (qWh 0) (qDn 0) (qBb 0) (qBa 0) (qGb 0) (qCt 0) (qSm 0) (qCo 0) (qWb 0) (qDa 0) (qSa 0) (qLa 0) orderRowO oftenO (qLo 0) (qLt 0) (va_up vO 0 (0 : Int32)) tO mO gO), (wmLn qLn k aLn), (wmBn qBn k yBn), (wmRw qRw k rRw), (wmGb qGb k yGb), (wmCt qCt k aCt), (wmSm qSm k aSm), (wmCo qCo k aCo), (wmWb qWb k aWb), (wmDn qDn k uDn), (wmMe qMe k aMe), (wmWh qWh k aWh), (wmBb qBb k aBb), (wmBa qBa k aBa), (wmDa qDa k oDa), (wmSa qSa k aSa), (wmLa qLa k aLa), (wmLo qLo k aLo), (wmLt qLt k aLt)] ++ List.flatten [(wmHa qHa k hHa), (wmFr qFr k aFr), (wmCa qCa k pCa), (wmAc qAc k iAc), (wmWa qWa k jWa), (wmBr qBr k aBr)]) H := hP
  have hD : va_D A (List.flatten [(wMO qO k widthO manyO cellsO movedO tapeO linesO (qHa 0) (qBr 0) (qCa 0) (qWa 0) (qFr 0) (qAc 0) isKeptO (qLn 0) (qBn 0) (qRw 0) (qMe 0) (qWh 0) (qDn 0) (qBb 0) (qBa 0) (qGb 0) (qCt 0) (qSm 0) (qCo 0) (qWb 0) (qDa 0) (qSa 0) (qLa 0) orderRowO oftenO (qLo 0) (qLt 0) (va_up vO 0 (0 : Int32)) tO mO gO), (wmLn qLn k aLn), (wmBn qBn k yBn), (wmRw qRw k rRw), (wmGb qGb k yGb), (wmCt qCt k aCt), (wmSm qSm k aSm), (wmCo qCo k aCo), (wmWb qWb k aWb), (wmDn qDn k uDn), (wmMe qMe k aMe), (wmWh qWh k aWh), (wmBb qBb k aBb), (wmBa qBa k aBa), (wmDa qDa k oDa), (wmSa qSa k aSa), (wmLa qLa k aLa), (wmLo qLo k aLo), (wmLt qLt k aLt)] ++ List.flatten [(wmHa qHa k hHa), (wmFr qFr k aFr), (wmCa qCa k pCa), (wmAc qAc k iAc), (wmWa qWa k jWa), (wmBr qBr k aBr)]) := hD
  refine lv_aload_n hx hb dX12_rests_5 rfl (lv_at hl 0 rfl) ?_
  refine lv_iload_n hx hb dX12_rests_6 rfl (lv_at hl 1 rfl) ?_
  refine lv_iload_n hx hb dX12_rests_7 rfl (lv_at hl 2 rfl) ?_
  have hPc := hP.sub (ws' := (List.flatten [(wMO qO k widthO manyO cellsO movedO tapeO linesO (qHa 0) (qBr 0) (qCa 0) (qWa 0) (qFr 0) (qAc 0) isKeptO (qLn 0) (qBn 0) (qRw 0) (qMe 0) (qWh 0) (qDn 0) (qBb 0) (qBa 0) (qGb 0) (qCt 0) (qSm 0) (qCo 0) (qWb 0) (qDa 0) (qSa 0) (qLa 0) orderRowO oftenO (qLo 0) (qLt 0) (va_up vO 0 (0 : Int32)) tO mO gO), (wmHa qHa k hHa)])) [0, 19] rfl
  refine vp_callSi (va_Run.run (va_runV (As := [.int p1, .int p2]) (rest := []) ⟨hx, hb, hml, hown, hts⟩ (c_X12_areTwo l dC dI k qO widthO manyO cellsO movedO tapeO linesO (qBr 0) (qCa 0) (qWa 0) (qFr 0) (qAc 0) isKeptO (qLn 0) (qBn 0) (qRw 0) (qMe 0) (qWh 0) (qDn 0) (qBb 0) (qBa 0) (qGb 0) (qCt 0) (qSm 0) (qCo 0) (qWb 0) (qDa 0) (qSa 0) (qLa 0) orderRowO oftenO (qLo 0) (qLt 0) (va_up vO 0 (0 : Int32)) tO mO gO qHa hHa p1 p2 htO hmO hhHa) (cwV 2 hts (gk_V (wl_mem 1 rfl) (wl_mem 2 rfl) (wl_mem 3 rfl) (wl_mem 4 rfl) (fun w h => List.mem_cons_of_mem _ (List.mem_append_right _ (List.mem_append_right _ (List.mem_append_left _ h)))) wkg_c_X12_areTwo) rfl rfl rfl (by decide +kernel) ⟨Nat.le_of_ble_eq_true rfl, Nat.le_of_ble_eq_true rfl⟩) ⟨fun a U g mk q => by obtain ⟨q0, qP, qK⟩ := q; exact ⟨q0, qP, va_K.moved (u := U) (U := U.calling g mk a) (Vm.Alike.refl U.vm) qK⟩, va_recv hK hPc (ci := 12) (q0 := 0) rfl rfl, fun U hU hW => ⟨rfl, by rw [hU]; exact hPc, va_K.moved hW.alike hK⟩⟩ rfl rfl hl.1 rfl (lv_room (Nat.le_of_ble_eq_true rfl)) dX12_rests_8 ⟨Nat.le_of_ble_eq_true rfl, Nat.le_of_ble_eq_true rfl⟩)) (fun rz2 gz1 => ?_)
  clear hPc
  obtain ⟨pz3, pz4⟩ := gz1
  have pz3 : rz2.toInt = 0 ∨ rz2.toInt = 1 := pz3
  have pz4 : rz2.toInt = 0 ∨ (0 ≤ p1.toInt ∧ p1.toInt ≤ 6 ∧ 0 ≤ p2.toInt ∧ p2.toInt ≤ 6) := pz4
  refine lv_if_ne (tgt := 17) hx hb dX12_rests_11 (by decide) (fun cz5 => ?_) (fun cz5 => ?_)
  · skip
    have zz6 : ¬ rz2.toInt = (0 : Int) := fun h9 => cz5 (zi_eq.mpr h9)
    refine lv_aload_n hx hb dX12_rests_17 rfl (lv_at hl 0 rfl) ?_
    refine lv_iload_n hx hb dX12_rests_18 rfl (lv_at hl 1 rfl) ?_
    refine lv_iload_n hx hb dX12_rests_19 rfl (lv_at hl 2 rfl) ?_
    have hPc := hP
    have hDc : va_D A (List.flatten [(wMO qO k widthO manyO cellsO movedO tapeO linesO (qHa 0) (qBr 0) (qCa 0) (qWa 0) (qFr 0) (qAc 0) isKeptO (qLn 0) (qBn 0) (qRw 0) (qMe 0) (qWh 0) (qDn 0) (qBb 0) (qBa 0) (qGb 0) (qCt 0) (qSm 0) (qCo 0) (qWb 0) (qDa 0) (qSa 0) (qLa 0) orderRowO oftenO (qLo 0) (qLt 0) (va_up vO 0 (0 : Int32)) tO mO gO), (wmLn qLn k aLn), (wmBn qBn k yBn), (wmRw qRw k rRw), (wmGb qGb k yGb), (wmCt qCt k aCt), (wmSm qSm k aSm), (wmCo qCo k aCo), (wmWb qWb k aWb), (wmDn qDn k uDn), (wmMe qMe k aMe), (wmWh qWh k aWh), (wmBb qBb k aBb), (wmBa qBa k aBa), (wmDa qDa k oDa), (wmSa qSa k aSa), (wmLa qLa k aLa), (wmLo qLo k aLo), (wmLt qLt k aLt)] ++ List.flatten [(wmHa qHa k hHa), (wmFr qFr k aFr), (wmCa qCa k pCa), (wmAc qAc k iAc), (wmWa qWa k jWa), (wmBr qBr k aBr)]) := wc_subD hD [0, 1, 2, 3, 4, 5, 6, 7, 8, 9, 10, 11, 12, 13, 14, 15, 16, 17, 18, 19, 20, 21, 22, 23, 24] rfl rfl
    have hFc := wc_free hDc hS hA
    refine va_callv (va_runV (As := [.int p1, .int p2]) (rest := []) ⟨hx, hb, hml, hown, hts⟩ (c_X12_laysGame l dC dI k H.size qO widthO manyO cellsO movedO tapeO linesO isKeptO orderRowO oftenO (va_up vO 0 (0 : Int32)) tO mO gO qHa hHa qFr aFr qCa pCa qAc iAc qLn aLn qBn yBn qRw rRw qWa jWa qBr aBr qGb yGb qCt aCt qSm aSm qCo aCo qWb aWb qDn uDn qMe aMe qWh aWh qBb aBb qBa aBa qDa oDa qSa aSa qLa aLa qLo aLo qLt aLt p1 p2 htO hmO hhHa hpCa hiAc hyBn hrRw hjWa hyGb huDn hoDa (by show 0 ≤ p1.toInt ∧ p1.toInt ≤ 6; omega) (by show 0 ≤ p2.toInt ∧ p2.toInt ≤ 6; omega)) (cwV 2 hts (gk_V (wl_mem 5 rfl) (wl_mem 6 rfl) (wl_mem 7 rfl) (wl_mem 4 rfl) (fun w h => List.mem_cons_of_mem _ (List.mem_append_right _ (List.mem_append_right _ (List.mem_append_right _ (List.mem_append_left _ h))))) wkg_c_X12_laysGame) rfl rfl rfl (by decide +kernel) ⟨Nat.le_of_ble_eq_true rfl, Nat.le_of_ble_eq_true rfl⟩) ⟨fun a U g mk q => by obtain ⟨q0, q1, qP, qK, qD⟩ := q; exact ⟨q0, q1, qP, va_K.moved (u := U) (U := U.calling g mk a) (Vm.Alike.refl U.vm) qK, qD⟩, va_recv hK hPc (ci := 12) (q0 := 0) rfl rfl, fun U hU hW => ⟨rfl, by rw [hU], by rw [hU]; exact hPc, va_K.moved hW.alike hK, hDc.weaken (fun _ _ _ _ => trivial)⟩⟩ rfl rfl hl.1 rfl (lv_room (Nat.le_of_ble_eq_true rfl)) dX12_rests_20 ⟨Nat.le_of_ble_eq_true rfl, Nat.le_of_ble_eq_true rfl⟩) hS (fun q _ h => hFc q h) hFc (fun u t H1 locs ht hvm gz7 hB hz1 hk1 hS => ?_)
    obtain ⟨vz9, tz10, mz11, gz12, az13, yz14, rz15, yz16, az17, az18, az19, az20, uz21, az22, az23, az24, az25, oz26, az27, az28, az29, az30, htz10, hmz11, hyz14, hrz15, hyz16, huz21, hoz26, hP1⟩ := hB
    rw [ht] at hP1
    obtain ⟨hP, hD⟩ := w_callR hP hD hk1 hP1 [0, 1, 2, 3, 4, 5, 6, 7, 8, 9, 10, 11, 12, 13, 14, 15, 16, 17, 18] rfl rfl (wk_memC [19, 20, 21, 22, 23, 24] rfl) rfl [some 0, some 1, some 2, some 3, some 4, some 5, some 6, some 7, some 8, some 9, some 10, some 11, some 12, some 13, some 14, some 15, some 16, some 17, some 18] rfl rfl
    clear hPc hDc hFc hk1 hP1
    generalize H1 = H at hP hS ⊢
    have hP : va_P (dC, dI) vwCl (List.flatten [(wMO qO k widthO manyO cellsO movedO tapeO linesO (qHa 0) (qBr 0) (qCa 0) (qWa 0) (qFr 0) (qAc 0) isKeptO (qLn 0) (qBn 0) (qRw 0) (qMe 0) (qWh 0) (qDn 0) (qBb 0) (qBa 0) (qGb 0) (qCt 0) (qSm 0) (qCo 0) (qWb 0) (qDa 0) (qSa 0) (qLa 0) orderRowO oftenO (qLo 0) (qLt 0) vz9 tz10 mz11 gz12), (wmLn qLn k az13), (wmBn qBn k yz14), (wmRw qRw k rz15), (wmGb qGb k yz16), (wmCt qCt k az17), (wmSm qSm k az18), (wmCo qCo k az19), (wmWb qWb k az20), (wmDn qDn k uz21), (wmMe qMe k az22), (wmWh qWh k az23), (wmBb qBb k az24), (wmBa qBa k az25), (wmDa qDa k oz26), (wmSa qSa k az27), (wmLa qLa k az28), (wmLo qLo k az29), (wmLt qLt k az30)] ++ List.flatten [(wmHa qHa k hHa), (wmFr qFr k aFr), (wmCa qCa k pCa), (wmAc qAc k iAc), (wmWa qWa k jWa), (wmBr qBr k aBr)]) H := hP
    have hD : va_D A (List.flatten [(wMO qO k widthO manyO cellsO movedO tapeO linesO (qHa 0) (qBr 0) (qCa 0) (qWa 0) (qFr 0) (qAc 0) isKeptO (qLn 0) (qBn 0) (qRw 0) (qMe 0) (qWh 0) (qDn 0) (qBb 0) (qBa 0) (qGb 0) (qCt 0) (qSm 0) (qCo 0) (qWb 0) (qDa 0) (qSa 0) (qLa 0) orderRowO oftenO (qLo 0) (qLt 0) vz9 tz10 mz11 gz12), (wmLn qLn k az13), (wmBn qBn k yz14), (wmRw qRw k rz15), (wmGb qGb k yz16), (wmCt qCt k az17), (wmSm qSm k az18), (wmCo qCo k az19), (wmWb qWb k az20), (wmDn qDn k uz21), (wmMe qMe k az22), (wmWh qWh k az23), (wmBb qBb k az24), (wmBa qBa k az25), (wmDa qDa k oz26), (wmSa qSa k az27), (wmLa qLa k az28), (wmLo qLo k az29), (wmLt qLt k az30)] ++ List.flatten [(wmHa qHa k hHa), (wmFr qFr k aFr), (wmCa qCa k pCa), (wmAc qAc k iAc), (wmWa qWa k jWa), (wmBr qBr k aBr)]) := hD
    refine W.widen (k := 0) (n := 0) (Nat.le_refl 0) (Nat.le_refl 0) ?_
    refine lv_iconst (v := 0) hx hb dX12_rests_23 (by decide) ?_
    refine lv_istore_n (lv' := [(3, .int 0), (0, .ref (qO 0)), (1, .int p1), (2, .int p2)]) hx hb dX12_rests_24 rfl hl (by decide) rfl (fun ls hl => ?_)
    refine lv_iconst (v := 0) hx hb dX12_rests_25 (by decide) ?_
    refine lv_istore (lv' := [(4, .int 0), (3, .int 0), (0, .ref (qO 0)), (1, .int p1), (2, .int p2)]) hx hb dX12_rests_26 hl (by decide) rfl (fun ls hl => ?_)
    have lp28_kz148 : ∀ (n9_28 : Nat) (H : Heap) (locs : List Loc) (ls : Array Slot) (xz146 : Int32) (xz147 : Int32), (2147483647 - xz147.toInt).toNat < n9_28 → 0 ≤ xz147.toInt → va_P (dC, dI) vwCl (List.flatten [(wMO qO k widthO manyO cellsO movedO tapeO linesO (qHa 0) (qBr 0) (qCa 0) (qWa 0) (qFr 0) (qAc 0) isKeptO (qLn 0) (qBn 0) (qRw 0) (qMe 0) (qWh 0) (qDn 0) (qBb 0) (qBa 0) (qGb 0) (qCt 0) (qSm 0) (qCo 0) (qWb 0) (qDa 0) (qSa 0) (qLa 0) orderRowO oftenO (qLo 0) (qLt 0) vz9 tz10 mz11 gz12), (wmLn qLn k az13), (wmBn qBn k yz14), (wmRw qRw k rz15), (wmGb qGb k yz16), (wmCt qCt k az17), (wmSm qSm k az18), (wmCo qCo k az19), (wmWb qWb k az20), (wmDn qDn k uz21), (wmMe qMe k az22), (wmWh qWh k az23), (wmBb qBb k az24), (wmBa qBa k az25), (wmDa qDa k oz26), (wmSa qSa k az27), (wmLa qLa k az28), (wmLo qLo k az29), (wmLt qLt k az30)] ++ List.flatten [(wmHa qHa k hHa), (wmFr qFr k aFr), (wmCa qCa k pCa), (wmAc qAc k iAc), (wmWa qWa k jWa), (wmBr qBr k aBr)]) H → va_D A (List.flatten [(wMO qO k widthO manyO cellsO movedO tapeO linesO (qHa 0) (qBr 0) (qCa 0) (qWa 0) (qFr 0) (qAc 0) isKeptO (qLn 0) (qBn 0) (qRw 0) (qMe 0) (qWh 0) (qDn 0) (qBb 0) (qBa 0) (qGb 0) (qCt 0) (qSm 0) (qCo 0) (qWb 0) (qDa 0) (qSa 0) (qLa 0) orderRowO oftenO (qLo 0) (qLt 0) vz9 tz10 mz11 gz12), (wmLn qLn k az13), (wmBn qBn k yz14), (wmRw qRw k rz15), (wmGb qGb k yz16), (wmCt qCt k az17), (wmSm qSm k az18), (wmCo qCo k az19), (wmWb qWb k az20), (wmDn qDn k uz21), (wmMe qMe k az22), (wmWh qWh k az23), (wmBb qBb k az24), (wmBa qBa k az25), (wmDa qDa k oz26), (wmSa qSa k az27), (wmLa qLa k az28), (wmLo qLo k az29), (wmLt qLt k az30)] ++ List.flatten [(wmHa qHa k hHa), (wmFr qFr k aFr), (wmCa qCa k pCa), (wmAc qAc k iAc), (wmWa qWa k jWa), (wmBr qBr k aBr)]) → va_S A s.heap H locs → lv_has ls 6 [(0, .ref (qO 0)), (3, .int xz146), (4, .int xz147)] → W p l e (headSpec wk_c_X12_rests ({ frames := 5, cells := 0, slots := 0, locals := 118 })).room s m ([.ref (qO 0), .int p1, .int p2] : List Value).toArray below meth c H locs 0 0 Q (F0 m 28 ls []) := by
      intro n9_28
      induction n9_28 with
      | zero => intro H locs ls xz146 xz147 hm; exact absurd hm (Nat.not_lt_zero _)
      | succ n9_28 ih28 =>
        intro H locs ls xz146 xz147 hm28 jz149 hP hD hS hl
        refine lv_iload hx hb dX12_rests_28 (lv_at hl 2 rfl) ?_
        refine lv_aload_n hx hb dX12_rests_30 rfl (lv_at hl 0 rfl) ?_
        have hPc := hP.sub (ws' := (List.flatten [(wMO qO k widthO manyO cellsO movedO tapeO linesO (qHa 0) (qBr 0) (qCa 0) (qWa 0) (qFr 0) (qAc 0) isKeptO (qLn 0) (qBn 0) (qRw 0) (qMe 0) (qWh 0) (qDn 0) (qBb 0) (qBa 0) (qGb 0) (qCt 0) (qSm 0) (qCo 0) (qWb 0) (qDa 0) (qSa 0) (qLa 0) orderRowO oftenO (qLo 0) (qLt 0) vz9 tz10 mz11 gz12), (wmHa qHa k hHa)])) [0, 19] rfl
        refine vp_callSi (va_Run.run (va_runV (As := []) (rest := [.int xz147]) ⟨hx, hb, hml, hown, hts⟩ (c_X12_bridges l dC dI k qO widthO manyO cellsO movedO tapeO linesO (qBr 0) (qCa 0) (qWa 0) (qFr 0) (qAc 0) isKeptO (qLn 0) (qBn 0) (qRw 0) (qMe 0) (qWh 0) (qDn 0) (qBb 0) (qBa 0) (qGb 0) (qCt 0) (qSm 0) (qCo 0) (qWb 0) (qDa 0) (qSa 0) (qLa 0) orderRowO oftenO (qLo 0) (qLt 0) vz9 tz10 mz11 gz12 qHa hHa htz10 hmz11 hhHa) (cwV 0 hts (gk_V (wl_mem 8 rfl) (wl_mem 9 rfl) (wl_mem 10 rfl) (wl_mem 4 rfl) (fun w h => List.mem_cons_of_mem _ (List.mem_append_right _ (List.mem_append_right _ (List.mem_append_right _ (List.mem_append_right _ (List.mem_append_left _ h)))))) wkg_c_X12_bridges) rfl rfl rfl (by decide +kernel) ⟨Nat.le_of_ble_eq_true rfl, Nat.le_of_ble_eq_true rfl⟩) ⟨fun a U g mk q => by obtain ⟨q0, qP, qK⟩ := q; exact ⟨q0, qP, va_K.moved (u := U) (U := U.calling g mk a) (Vm.Alike.refl U.vm) qK⟩, va_recv hK hPc (ci := 12) (q0 := 0) rfl rfl, fun U hU hW => ⟨rfl, by rw [hU]; exact hPc, va_K.moved hW.alike hK⟩⟩ rfl rfl hl.1 rfl (lv_room (Nat.le_of_ble_eq_true rfl)) dX12_rests_31 ⟨Nat.le_of_ble_eq_true rfl, Nat.le_of_ble_eq_true rfl⟩)) (fun rz151 gz150 => ?_)
        clear hPc
        have pz152 := gz150
        have pz152 : 0 ≤ rz151.toInt ∧ rz151.toInt ≤ 3 := pz152
        refine lv_icmp_ge (tgt := 80) hx hb dX12_rests_34 (by decide) (fun cz153 => ?_) (fun cz153 => ?_)
        · skip
          have bz154 := fb_rng xz147
          have zz155 : rz151.toInt ≤ xz147.toInt := zi_le.mp cz153
          refine lv_iload_n hx hb dX12_rests_80 rfl (lv_at hl 1 rfl) ?_
          rw [hQ]
          exact W.iret (v := xz146) hx hb hr (fun t ht hW => ⟨⟨xz146, (), rfl, trivial, vz9, tz10, mz11, gz12, az13, yz14, rz15, yz16, az17, az18, az19, az20, uz21, az22, az23, az24, az25, oz26, az27, az28, az29, az30, htz10, hmz11, hyz14, hrz15, hyz16, huz21, hoz26, by rw [ht]; exact hP⟩, hS.F ht⟩) hS.2.2 dX12_rests_81
        · skip
          have bz156 := fb_rng xz147
          have zz157 : ¬ rz151.toInt ≤ xz147.toInt := fun h9 => cz153 (zi_le.mpr h9)
          refine lv_iconst (v := 0) hx hb dX12_rests_37 (by decide) ?_
          refine lv_istore (lv' := [(5, .int 0), (0, .ref (qO 0)), (3, .int xz146), (4, .int xz147)]) hx hb dX12_rests_38 hl (by decide) rfl (fun ls hl => ?_)
          have lp40_kz211 : ∀ (n9_40 : Nat) (H : Heap) (locs : List Loc) (ls : Array Slot) (xz209 : Int32) (xz210 : Int32), (2147483647 - xz210.toInt).toNat < n9_40 → 0 ≤ xz210.toInt → va_P (dC, dI) vwCl (List.flatten [(wMO qO k widthO manyO cellsO movedO tapeO linesO (qHa 0) (qBr 0) (qCa 0) (qWa 0) (qFr 0) (qAc 0) isKeptO (qLn 0) (qBn 0) (qRw 0) (qMe 0) (qWh 0) (qDn 0) (qBb 0) (qBa 0) (qGb 0) (qCt 0) (qSm 0) (qCo 0) (qWb 0) (qDa 0) (qSa 0) (qLa 0) orderRowO oftenO (qLo 0) (qLt 0) vz9 tz10 mz11 gz12), (wmLn qLn k az13), (wmBn qBn k yz14), (wmRw qRw k rz15), (wmGb qGb k yz16), (wmCt qCt k az17), (wmSm qSm k az18), (wmCo qCo k az19), (wmWb qWb k az20), (wmDn qDn k uz21), (wmMe qMe k az22), (wmWh qWh k az23), (wmBb qBb k az24), (wmBa qBa k az25), (wmDa qDa k oz26), (wmSa qSa k az27), (wmLa qLa k az28), (wmLo qLo k az29), (wmLt qLt k az30)] ++ List.flatten [(wmHa qHa k hHa), (wmFr qFr k aFr), (wmCa qCa k pCa), (wmAc qAc k iAc), (wmWa qWa k jWa), (wmBr qBr k aBr)]) H → va_D A (List.flatten [(wMO qO k widthO manyO cellsO movedO tapeO linesO (qHa 0) (qBr 0) (qCa 0) (qWa 0) (qFr 0) (qAc 0) isKeptO (qLn 0) (qBn 0) (qRw 0) (qMe 0) (qWh 0) (qDn 0) (qBb 0) (qBa 0) (qGb 0) (qCt 0) (qSm 0) (qCo 0) (qWb 0) (qDa 0) (qSa 0) (qLa 0) orderRowO oftenO (qLo 0) (qLt 0) vz9 tz10 mz11 gz12), (wmLn qLn k az13), (wmBn qBn k yz14), (wmRw qRw k rz15), (wmGb qGb k yz16), (wmCt qCt k az17), (wmSm qSm k az18), (wmCo qCo k az19), (wmWb qWb k az20), (wmDn qDn k uz21), (wmMe qMe k az22), (wmWh qWh k az23), (wmBb qBb k az24), (wmBa qBa k az25), (wmDa qDa k oz26), (wmSa qSa k az27), (wmLa qLa k az28), (wmLo qLo k az29), (wmLt qLt k az30)] ++ List.flatten [(wmHa qHa k hHa), (wmFr qFr k aFr), (wmCa qCa k pCa), (wmAc qAc k iAc), (wmWa qWa k jWa), (wmBr qBr k aBr)]) → va_S A s.heap H locs → lv_has ls 6 [(0, .ref (qO 0)), (3, .int xz209), (4, .int xz147), (5, .int xz210)] → W p l e (headSpec wk_c_X12_rests ({ frames := 5, cells := 0, slots := 0, locals := 118 })).room s m ([.ref (qO 0), .int p1, .int p2] : List Value).toArray below meth c H locs 0 0 Q (F0 m 40 ls []) := by
            intro n9_40
            induction n9_40 with
            | zero => intro H locs ls xz209 xz210 hm; exact absurd hm (Nat.not_lt_zero _)
            | succ n9_40 ih40 =>
              intro H locs ls xz209 xz210 hm40 jz212 hP hD hS hl
              refine lv_iload hx hb dX12_rests_40 (lv_at hl 3 rfl) ?_
              refine lv_aload_n hx hb dX12_rests_42 rfl (lv_at hl 0 rfl) ?_
              have hPc := hP.sub (ws' := (List.flatten [(wMO qO k widthO manyO cellsO movedO tapeO linesO (qHa 0) (qBr 0) (qCa 0) (qWa 0) (qFr 0) (qAc 0) isKeptO (qLn 0) (qBn 0) (qRw 0) (qMe 0) (qWh 0) (qDn 0) (qBb 0) (qBa 0) (qGb 0) (qCt 0) (qSm 0) (qCo 0) (qWb 0) (qDa 0) (qSa 0) (qLa 0) orderRowO oftenO (qLo 0) (qLt 0) vz9 tz10 mz11 gz12), (wmHa qHa k hHa)])) [0, 19] rfl
              refine vp_callSi (va_Run.run (va_runV (As := []) (rest := [.int xz210]) ⟨hx, hb, hml, hown, hts⟩ (c_X12_bridges l dC dI k qO widthO manyO cellsO movedO tapeO linesO (qBr 0) (qCa 0) (qWa 0) (qFr 0) (qAc 0) isKeptO (qLn 0) (qBn 0) (qRw 0) (qMe 0) (qWh 0) (qDn 0) (qBb 0) (qBa 0) (qGb 0) (qCt 0) (qSm 0) (qCo 0) (qWb 0) (qDa 0) (qSa 0) (qLa 0) orderRowO oftenO (qLo 0) (qLt 0) vz9 tz10 mz11 gz12 qHa hHa htz10 hmz11 hhHa) (cwV 0 hts (gk_V (wl_mem 8 rfl) (wl_mem 9 rfl) (wl_mem 10 rfl) (wl_mem 4 rfl) (fun w h => List.mem_cons_of_mem _ (List.mem_append_right _ (List.mem_append_right _ (List.mem_append_right _ (List.mem_append_right _ (List.mem_append_left _ h)))))) wkg_c_X12_bridges) rfl rfl rfl (by decide +kernel) ⟨Nat.le_of_ble_eq_true rfl, Nat.le_of_ble_eq_true rfl⟩) ⟨fun a U g mk q => by obtain ⟨q0, qP, qK⟩ := q; exact ⟨q0, qP, va_K.moved (u := U) (U := U.calling g mk a) (Vm.Alike.refl U.vm) qK⟩, va_recv hK hPc (ci := 12) (q0 := 0) rfl rfl, fun U hU hW => ⟨rfl, by rw [hU]; exact hPc, va_K.moved hW.alike hK⟩⟩ rfl rfl hl.1 rfl (lv_room (Nat.le_of_ble_eq_true rfl)) dX12_rests_43 ⟨Nat.le_of_ble_eq_true rfl, Nat.le_of_ble_eq_true rfl⟩)) (fun rz214 gz213 => ?_)
              clear hPc
              have pz215 := gz213
              have pz215 : 0 ≤ rz214.toInt ∧ rz214.toInt ≤ 3 := pz215
              refine lv_icmp_ge (tgt := 74) hx hb dX12_rests_46 (by decide) (fun cz216 => ?_) (fun cz216 => ?_)
              · skip
                have bz217 := fb_rng xz210
                have zz218 : rz214.toInt ≤ xz210.toInt := zi_le.mp cz216
                obtain ⟨xz219, exz219⟩ : ∃ y : Int32, y = xz147 + Int32.ofInt (1) := ⟨_, rfl⟩
                have fxz219 : xz219.toInt = xz147.toInt + (1) := by rw [exz219]; exact fb_addI (y := Int32.ofInt (1)) (by show -2147483648 ≤ xz147.toInt + (1); omega) (by show xz147.toInt + (1) < 2147483648; omega)
                refine lv_iinc (v := xz219) (lv' := [(4, .int xz219), (0, .ref (qO 0)), (3, .int xz209), (5, .int xz210)]) hx hb dX12_rests_74 hl (k := 2) rfl exz219.symm (by decide) rfl (fun ls hl => ?_)
                refine lv_goto (tgt := 28) hx hb dX12_rests_77 (by decide) ?_
                exact ih28 H locs ls xz209 xz219 (by show (2147483647 - xz219.toInt).toNat < n9_28; omega) (by show 0 ≤ xz219.toInt; omega) hP hD hS (lv_sub hl [1, 2, 0] rfl)
              · skip
                have bz220 := fb_rng xz210
                have zz221 : ¬ rz214.toInt ≤ xz210.toInt := fun h9 => cz216 (zi_le.mpr h9)
                refine lv_iload_n hx hb dX12_rests_49 rfl (lv_at hl 1 rfl) ?_
                refine lv_aload_n hx hb dX12_rests_50 rfl (lv_at hl 0 rfl) ?_
                refine lv_iload hx hb dX12_rests_51 (lv_at hl 2 rfl) ?_
                refine lv_iload hx hb dX12_rests_53 (lv_at hl 3 rfl) ?_
                have hPc := hP.sub (ws' := (List.flatten [(wMO qO k widthO manyO cellsO movedO tapeO linesO (qHa 0) (qBr 0) (qCa 0) (qWa 0) (qFr 0) (qAc 0) isKeptO (qLn 0) (qBn 0) (qRw 0) (qMe 0) (qWh 0) (qDn 0) (qBb 0) (qBa 0) (qGb 0) (qCt 0) (qSm 0) (qCo 0) (qWb 0) (qDa 0) (qSa 0) (qLa 0) orderRowO oftenO (qLo 0) (qLt 0) vz9 tz10 mz11 gz12), (wmHa qHa k hHa), (wmLo qLo k az29), (wmLt qLt k az30)])) [0, 19, 17, 18] rfl
                refine vp_callSi (va_Run.run (va_runV (As := [.int xz147, .int xz210]) (rest := [.int xz209]) ⟨hx, hb, hml, hown, hts⟩ (c_X12_isRest l dC dI k qO widthO manyO cellsO movedO tapeO linesO (qBr 0) (qCa 0) (qWa 0) (qFr 0) (qAc 0) isKeptO (qLn 0) (qBn 0) (qRw 0) (qMe 0) (qWh 0) (qDn 0) (qBb 0) (qBa 0) (qGb 0) (qCt 0) (qSm 0) (qCo 0) (qWb 0) (qDa 0) (qSa 0) (qLa 0) orderRowO oftenO vz9 tz10 mz11 gz12 qHa hHa qLo az29 qLt az30 xz147 xz210 htz10 hmz11 hhHa (by show 0 ≤ xz147.toInt ∧ xz147.toInt ≤ 2; omega) (by show 0 ≤ xz210.toInt ∧ xz210.toInt ≤ 2; omega)) (cwV 2 hts (gk_V (wl_mem 11 rfl) (wl_mem 12 rfl) (wl_mem 13 rfl) (wl_mem 4 rfl) (fun w h => List.mem_cons_of_mem _ (List.mem_append_right _ (List.mem_append_right _ (List.mem_append_right _ (List.mem_append_right _ (List.mem_append_right _ (List.mem_append_left _ h))))))) wkg_c_X12_isRest) rfl rfl rfl (by decide +kernel) ⟨Nat.le_of_ble_eq_true rfl, Nat.le_of_ble_eq_true rfl⟩) ⟨fun a U g mk q => by obtain ⟨q0, qP, qK⟩ := q; exact ⟨q0, qP, va_K.moved (u := U) (U := U.calling g mk a) (Vm.Alike.refl U.vm) qK⟩, va_recv hK hPc (ci := 12) (q0 := 0) rfl rfl, fun U hU hW => ⟨rfl, by rw [hU]; exact hPc, va_K.moved hW.alike hK⟩⟩ rfl rfl hl.1 rfl (lv_room (Nat.le_of_ble_eq_true rfl)) dX12_rests_55 ⟨Nat.le_of_ble_eq_true rfl, Nat.le_of_ble_eq_true rfl⟩)) (fun rz223 gz222 => ?_)
                clear hPc
                have pz224 := gz222
                have pz224 : rz223.toInt = 0 ∨ rz223.toInt = 1 := pz224
                refine lv_if_eq (tgt := 65) hx hb dX12_rests_58 (by decide) (fun cz233 => ?_) (fun cz233 => ?_)
                · skip
                  have zz234 : rz223.toInt = (0 : Int) := zi_eq.mp cz233
                  refine lv_iconst (v := 0) hx hb dX12_rests_65 (by decide) ?_
                  refine lv_iadd hx hb dX12_rests_66 ?_
                  have bz235 := fb_rng xz209
                  refine lv_topi (fun xz236 exz236 => ?_)
                  have fxz236 : xz236.toInt = xz209.toInt + (0 : Int) := by rw [exz236]; exact fb_addI (x := xz209) (y := (0 : Int32)) (by show -2147483648 ≤ xz209.toInt + (0 : Int); omega) (by show xz209.toInt + (0 : Int) < 2147483648; omega)
                  refine lv_istore_n (lv' := [(3, .int xz236), (0, .ref (qO 0)), (4, .int xz147), (5, .int xz210)]) hx hb dX12_rests_67 rfl hl (by decide) rfl (fun ls hl => ?_)
                  obtain ⟨xz237, exz237⟩ : ∃ y : Int32, y = xz210 + Int32.ofInt (1) := ⟨_, rfl⟩
                  have fxz237 : xz237.toInt = xz210.toInt + (1) := by rw [exz237]; exact fb_addI (y := Int32.ofInt (1)) (by show -2147483648 ≤ xz210.toInt + (1); omega) (by show xz210.toInt + (1) < 2147483648; omega)
                  refine lv_iinc (v := xz237) (lv' := [(5, .int xz237), (3, .int xz236), (0, .ref (qO 0)), (4, .int xz147)]) hx hb dX12_rests_68 hl (k := 3) rfl exz237.symm (by decide) rfl (fun ls hl => ?_)
                  refine lv_goto (tgt := 40) hx hb dX12_rests_71 (by decide) ?_
                  exact ih40 H locs ls xz236 xz237 (by show (2147483647 - xz237.toInt).toNat < n9_40; omega) (by show 0 ≤ xz237.toInt; omega) hP hD hS (lv_sub hl [2, 1, 3, 0] rfl)
                · skip
                  have zz238 : ¬ rz223.toInt = (0 : Int) := fun h9 => cz233 (zi_eq.mpr h9)
                  refine lv_iconst (v := 1) hx hb dX12_rests_61 (by decide) ?_
                  refine lv_goto (tgt := 66) hx hb dX12_rests_62 (by decide) ?_
                  refine lv_iadd hx hb dX12_rests_66 ?_
                  refine lv_topi (fun xz239 exz239 => ?_)
                  refine lv_istore_n (lv' := [(3, .int xz239), (0, .ref (qO 0)), (4, .int xz147), (5, .int xz210)]) hx hb dX12_rests_67 rfl hl (by decide) rfl (fun ls hl => ?_)
                  obtain ⟨xz240, exz240⟩ : ∃ y : Int32, y = xz210 + Int32.ofInt (1) := ⟨_, rfl⟩
                  have fxz240 : xz240.toInt = xz210.toInt + (1) := by rw [exz240]; exact fb_addI (y := Int32.ofInt (1)) (by show -2147483648 ≤ xz210.toInt + (1); omega) (by show xz210.toInt + (1) < 2147483648; omega)
                  refine lv_iinc (v := xz240) (lv' := [(5, .int xz240), (3, .int xz239), (0, .ref (qO 0)), (4, .int xz147)]) hx hb dX12_rests_68 hl (k := 3) rfl exz240.symm (by decide) rfl (fun ls hl => ?_)
                  refine lv_goto (tgt := 40) hx hb dX12_rests_71 (by decide) ?_
                  exact ih40 H locs ls xz239 xz240 (by show (2147483647 - xz240.toInt).toNat < n9_40; omega) (by show 0 ≤ xz240.toInt; omega) hP hD hS (lv_sub hl [2, 1, 3, 0] rfl)
          exact lp40_kz211 _ H locs ls xz146 (0 : Int32) (Nat.lt_succ_self _) (by show 0 ≤ (0 : Int); omega) hP hD hS (lv_sub hl [1, 2, 3, 0] rfl)
    exact lp28_kz148 _ H locs ls (0 : Int32) (0 : Int32) (Nat.lt_succ_self _) (by show 0 ≤ (0 : Int); omega) hP hD hS (lv_sub hl [2, 1, 0] rfl)
  · skip
    have zz241 : rz2.toInt = (0 : Int) := zi_eq.mp cz5
    refine lv_bipush (v := (-2)) hx hb dX12_rests_14 (by decide) ?_
    rw [hQ]
    exact W.iret (v := (-2 : Int32)) hx hb hr (fun t ht hW => ⟨⟨(-2 : Int32), (), rfl, trivial, (va_up vO 0 (0 : Int32)), tO, mO, gO, aLn, yBn, rRw, yGb, aCt, aSm, aCo, aWb, uDn, aMe, aWh, aBb, aBa, oDa, aSa, aLa, aLo, aLt, htO, hmO, hyBn, hrRw, hyGb, huDn, hoDa, by rw [ht]; exact hP⟩, hS.F ht⟩) hS.2.2 dX12_rests_16
def wk_c_X12_rest : List Cond := .code yX12_rest cX12_rest 5 (some .int) :: ([.fieldLink RX12 116 "SagMemoryModel" "thrown" "I", .methodLink RX12 463 yX12_areTwo, .instanceMethod yX12_areTwo, .selects RX12 yX12_areTwo yX12_areTwo, .initialized RX12, .methodLink RX12 466 yX12_laysGame, .instanceMethod yX12_laysGame, .selects RX12 yX12_laysGame yX12_laysGame, .methodLink RX12 283 yX12_bridges, .instanceMethod yX12_bridges, .selects RX12 yX12_bridges yX12_bridges, .methodLink RX12 469 yX12_isRest, .instanceMethod yX12_isRest, .selects RX12 yX12_isRest yX12_isRest] ++ (wsX120 ++ (wk_c_X12_areTwo ++ (wk_c_X12_laysGame ++ (wk_c_X12_bridges ++ (wk_c_X12_isRest ++ []))))))
theorem wkg_c_X12_rest : wk_c_X12_rest.all goodWord = true := by decide +kernel
set_option maxHeartbeats 4000000 in
set_option maxRecDepth 100000 in
theorem c_X12_rest (l : Launch) (dC : Nat → ClassId) (dI : Nat → Nat → Nat) (k : Nat → ClassId) (sz : Nat) (qO : Nat → Nat) (widthO : Nat) (manyO : Nat) (cellsO : Nat) (movedO : Nat) (tapeO : Nat) (linesO : Nat) (isKeptO : Nat) (orderRowO : Nat) (oftenO : Nat) (vO : Nat → Int32) (tO : Nat → Int32) (mO : Nat → Int32) (gO : Nat → Int64) (qHa : Nat → Nat) (hHa : Nat → Nat → Int32) (qFr : Nat → Nat) (aFr : Nat → Nat → Int32) (qCa : Nat → Nat) (pCa : Nat → Nat → Int32) (qAc : Nat → Nat) (iAc : Nat → Nat → Int32) (qLn : Nat → Nat) (aLn : Nat → Nat → Int32) (qBn : Nat → Nat) (yBn : Nat → Nat → Int32) (qRw : Nat → Nat) (rRw : Nat → Nat → Int32) (qWa : Nat → Nat) (jWa : Nat → Nat → Int32) (qBr : Nat → Nat) (aBr : Nat → Nat → Int32) (qGb : Nat → Nat) (yGb : Nat → Nat → Int32) (qCt : Nat → Nat) (aCt : Nat → Nat → Int32) (qSm : Nat → Nat) (aSm : Nat → Nat → Int32) (qCo : Nat → Nat) (aCo : Nat → Nat → Int32) (qWb : Nat → Nat) (aWb : Nat → Nat → Int32) (qDn : Nat → Nat) (uDn : Nat → Nat → Int32) (qMe : Nat → Nat) (aMe : Nat → Nat → Int32) (qWh : Nat → Nat) (aWh : Nat → Nat → Int32) (qBb : Nat → Nat) (aBb : Nat → Nat → Int32) (qBa : Nat → Nat) (aBa : Nat → Nat → Int32) (qDa : Nat → Nat) (oDa : Nat → Nat → Int32) (qSa : Nat → Nat) (aSa : Nat → Nat → Int32) (qLa : Nat → Nat) (aLa : Nat → Nat → Int32) (qLo : Nat → Nat) (aLo : Nat → Nat → Int32) (qLt : Nat → Nat) (aLt : Nat → Nat → Int32) (p1 : Int32) (p2 : Int32) (htO : Rg 0 700 tO) (hmO : Rg (-1) 127 mO) (hhHa : Pa_h hHa) (hpCa : Pa_p pCa) (hiAc : Pa_i iAc) (hyBn : RgA (-1) 2 yBn) (hrRw : RgA 0 6 rRw) (hjWa : Pa_j jWa) (hyGb : RgA (-1) 2 yGb) (huDn : RuA 8 uDn) (hoDa : RgA 0 7 oDa) : Met l yX12_rest wk_c_X12_rest ({ frames := 5, cells := 0, slots := 0, locals := 118 }) (va_Pc [.ref (qO 0), .int p1, .int p2] (fun U => U.heap.size = sz ∧ va_P (dC, dI) vwCl (List.flatten [(wMO qO k widthO manyO cellsO movedO tapeO linesO (qHa 0) (qBr 0) (qCa 0) (qWa 0) (qFr 0) (qAc 0) isKeptO (qLn 0) (qBn 0) (qRw 0) (qMe 0) (qWh 0) (qDn 0) (qBb 0) (qBa 0) (qGb 0) (qCt 0) (qSm 0) (qCo 0) (qWb 0) (qDa 0) (qSa 0) (qLa 0) orderRowO oftenO (qLo 0) (qLt 0) vO tO mO gO), (wmLn qLn k aLn), (wmBn qBn k yBn), (wmRw qRw k rRw), (wmGb qGb k yGb), (wmCt qCt k aCt), (wmSm qSm k aSm), (wmCo qCo k aCo), (wmWb qWb k aWb), (wmDn qDn k uDn), (wmMe qMe k aMe), (wmWh qWh k aWh), (wmBb qBb k aBb), (wmBa qBa k aBa), (wmDa qDa k oDa), (wmSa qSa k aSa), (wmLa qLa k aLa), (wmLo qLo k aLo), (wmLt qLt k aLt)] ++ List.flatten [(wmHa qHa k hHa), (wmFr qFr k aFr), (wmCa qCa k pCa), (wmAc qAc k iAc), (wmWa qWa k jWa), (wmBr qBr k aBr)]) U.heap ∧ va_K (dC, dI) vwCl (tK k) U ∧ va_D (fun _ => True) (List.flatten [(wMO qO k widthO manyO cellsO movedO tapeO linesO (qHa 0) (qBr 0) (qCa 0) (qWa 0) (qFr 0) (qAc 0) isKeptO (qLn 0) (qBn 0) (qRw 0) (qMe 0) (qWh 0) (qDn 0) (qBb 0) (qBa 0) (qGb 0) (qCt 0) (qSm 0) (qCo 0) (qWb 0) (qDa 0) (qSa 0) (qLa 0) orderRowO oftenO (qLo 0) (qLt 0) vO tO mO gO), (wmLn qLn k aLn), (wmBn qBn k yBn), (wmRw qRw k rRw), (wmGb qGb k yGb), (wmCt qCt k aCt), (wmSm qSm k aSm), (wmCo qCo k aCo), (wmWb qWb k aWb), (wmDn qDn k uDn), (wmMe qMe k aMe), (wmWh qWh k aWh), (wmBb qBb k aBb), (wmBa qBa k aBa), (wmDa qDa k oDa), (wmSa qSa k aSa), (wmLa qLa k aLa), (wmLo qLo k aLo), (wmLt qLt k aLt)] ++ List.flatten [(wmHa qHa k hHa), (wmFr qFr k aFr), (wmCa qCa k pCa), (wmAc qAc k iAc), (wmWa qWa k jWa), (wmBr qBr k aBr)]))) (va_Qi (fun (r : Int32) (_ : Unit) => True) (fun (_ : Unit) (t : State) => ∃ (vO' : Nat → Int32) (tO' : Nat → Int32) (mO' : Nat → Int32) (gO' : Nat → Int64) (aLn' : Nat → Nat → Int32) (yBn' : Nat → Nat → Int32) (rRw' : Nat → Nat → Int32) (yGb' : Nat → Nat → Int32) (aCt' : Nat → Nat → Int32) (aSm' : Nat → Nat → Int32) (aCo' : Nat → Nat → Int32) (aWb' : Nat → Nat → Int32) (uDn' : Nat → Nat → Int32) (aMe' : Nat → Nat → Int32) (aWh' : Nat → Nat → Int32) (aBb' : Nat → Nat → Int32) (aBa' : Nat → Nat → Int32) (oDa' : Nat → Nat → Int32) (aSa' : Nat → Nat → Int32) (aLa' : Nat → Nat → Int32) (aLo' : Nat → Nat → Int32) (aLt' : Nat → Nat → Int32), Rg 0 700 tO' ∧ Rg (-1) 127 mO' ∧ RgA (-1) 2 yBn' ∧ RgA 0 6 rRw' ∧ RgA (-1) 2 yGb' ∧ RuA 8 uDn' ∧ RgA 0 7 oDa' ∧ va_P (dC, dI) vwCl (List.flatten [(wMO qO k widthO manyO cellsO movedO tapeO linesO (qHa 0) (qBr 0) (qCa 0) (qWa 0) (qFr 0) (qAc 0) isKeptO (qLn 0) (qBn 0) (qRw 0) (qMe 0) (qWh 0) (qDn 0) (qBb 0) (qBa 0) (qGb 0) (qCt 0) (qSm 0) (qCo 0) (qWb 0) (qDa 0) (qSa 0) (qLa 0) orderRowO oftenO (qLo 0) (qLt 0) vO' tO' mO' gO'), (wmLn qLn k aLn'), (wmBn qBn k yBn'), (wmRw qRw k rRw'), (wmGb qGb k yGb'), (wmCt qCt k aCt'), (wmSm qSm k aSm'), (wmCo qCo k aCo'), (wmWb qWb k aWb'), (wmDn qDn k uDn'), (wmMe qMe k aMe'), (wmWh qWh k aWh'), (wmBb qBb k aBb'), (wmBa qBa k aBa'), (wmDa qDa k oDa'), (wmSa qSa k aSa'), (wmLa qLa k aLa'), (wmLo qLo k aLo'), (wmLt qLt k aLt')] ++ List.flatten [(wmHa qHa k hHa), (wmFr qFr k aFr), (wmCa qCa k pCa), (wmAc qAc k iAc), (wmWa qWa k jWa), (wmBr qBr k aBr)]) t.heap) (va_A (List.flatten [(wMO qO k widthO manyO cellsO movedO tapeO linesO (qHa 0) (qBr 0) (qCa 0) (qWa 0) (qFr 0) (qAc 0) isKeptO (qLn 0) (qBn 0) (qRw 0) (qMe 0) (qWh 0) (qDn 0) (qBb 0) (qBa 0) (qGb 0) (qCt 0) (qSm 0) (qCo 0) (qWb 0) (qDa 0) (qSa 0) (qLa 0) orderRowO oftenO (qLo 0) (qLt 0) vO tO mO gO), (wmLn qLn k aLn), (wmBn qBn k yBn), (wmRw qRw k rRw), (wmGb qGb k yGb), (wmCt qCt k aCt), (wmSm qSm k aSm), (wmCo qCo k aCo), (wmWb qWb k aWb), (wmDn qDn k uDn), (wmMe qMe k aMe), (wmWh qWh k aWh), (wmBb qBb k aBb), (wmBa qBa k aBa), (wmDa qDa k oDa), (wmSa qSa k aSa), (wmLa qLa k aLa), (wmLo qLo k aLo), (wmLt qLt k aLt)] ++ List.flatten [(wmHa qHa k hHa), (wmFr qFr k aFr), (wmCa qCa k pCa), (wmAc qAc k iAc), (wmWa qWa k jWa), (wmBr qBr k aBr)]) sz)) 0 0 (va_A (List.flatten [(wMO qO k widthO manyO cellsO movedO tapeO linesO (qHa 0) (qBr 0) (qCa 0) (qWa 0) (qFr 0) (qAc 0) isKeptO (qLn 0) (qBn 0) (qRw 0) (qMe 0) (qWh 0) (qDn 0) (qBb 0) (qBa 0) (qGb 0) (qCt 0) (qSm 0) (qCo 0) (qWb 0) (qDa 0) (qSa 0) (qLa 0) orderRowO oftenO (qLo 0) (qLt 0) vO tO mO gO), (wmLn qLn k aLn), (wmBn qBn k yBn), (wmRw qRw k rRw), (wmGb qGb k yGb), (wmCt qCt k aCt), (wmSm qSm k aSm), (wmCo qCo k aCo), (wmWb qWb k aWb), (wmDn qDn k uDn), (wmMe qMe k aMe), (wmWh qWh k aWh), (wmBb qBb k aBb), (wmBa qBa k aBa), (wmDa qDa k oDa), (wmSa qSa k aSa), (wmLa qLa k aLa), (wmLo qLo k aLo), (wmLt qLt k aLt)] ++ List.flatten [(wmHa qHa k hHa), (wmFr qFr k aFr), (wmCa qCa k pCa), (wmAc qAc k iAc), (wmWa qWa k jWa), (wmBr qBr k aBr)]) sz) := by
  refine Met.ofW (cc := cX12_rest) (maxL := 5) (ret := (some .int)) (by decide) rfl ?_
  intro p e s m args below meth c s₁ B hml hv
  obtain ⟨rfl, hsz, hP, hK, hD0⟩ := hv
  have hx := B.exec
  have hb := B.bytes
  have hr := B.returns
  have hts := atoms_spec (ws := wk_c_X12_rest) B.pre
  have hown : s.vm.findClass RX12 = some m.cls := findClass_of_methodNamed B.named
  have hlocks := B.notSynchronized
  subst hsz
  have hD := hD0.self (sz := s.heap.size)
  generalize hAe : va_A (List.flatten [(wMO qO k widthO manyO cellsO movedO tapeO linesO (qHa 0) (qBr 0) (qCa 0) (qWa 0) (qFr 0) (qAc 0) isKeptO (qLn 0) (qBn 0) (qRw 0) (qMe 0) (qWh 0) (qDn 0) (qBb 0) (qBa 0) (qGb 0) (qCt 0) (qSm 0) (qCo 0) (qWb 0) (qDa 0) (qSa 0) (qLa 0) orderRowO oftenO (qLo 0) (qLt 0) vO tO mO gO), (wmLn qLn k aLn), (wmBn qBn k yBn), (wmRw qRw k rRw), (wmGb qGb k yGb), (wmCt qCt k aCt), (wmSm qSm k aSm), (wmCo qCo k aCo), (wmWb qWb k aWb), (wmDn qDn k uDn), (wmMe qMe k aMe), (wmWh qWh k aWh), (wmBb qBb k aBb), (wmBa qBa k aBa), (wmDa qDa k oDa), (wmSa qSa k aSa), (wmLa qLa k aLa), (wmLo qLo k aLo), (wmLt qLt k aLt)] ++ List.flatten [(wmHa qHa k hHa), (wmFr qFr k aFr), (wmCa qCa k pCa), (wmAc qAc k iAc), (wmWa qWa k jWa), (wmBr qBr k aBr)]) s.heap.size = A at hD ⊢
  have hA : ∀ q : Nat, s.heap.size ≤ q → A q := fun q h => by rw [← hAe]; exact Or.inr h
  have hS : va_S A s.heap s.heap [] := va_S.rf
  have hP : va_P (dC, dI) vwCl (List.flatten [(wMO qO k widthO manyO cellsO movedO tapeO linesO (qHa 0) (qBr 0) (qCa 0) (qWa 0) (qFr 0) (qAc 0) isKeptO (qLn 0) (qBn 0) (qRw 0) (qMe 0) (qWh 0) (qDn 0) (qBb 0) (qBa 0) (qGb 0) (qCt 0) (qSm 0) (qCo 0) (qWb 0) (qDa 0) (qSa 0) (qLa 0) orderRowO oftenO (qLo 0) (qLt 0) vO tO mO gO), (wmLn qLn k aLn), (wmBn qBn k yBn), (wmRw qRw k rRw), (wmGb qGb k yGb), (wmCt qCt k aCt), (wmSm qSm k aSm), (wmCo qCo k aCo), (wmWb qWb k aWb), (wmDn qDn k uDn), (wmMe qMe k aMe), (wmWh qWh k aWh), (wmBb qBb k aBb), (wmBa qBa k aBa), (wmDa qDa k oDa), (wmSa qSa k aSa), (wmLa qLa k aLa), (wmLo qLo k aLo), (wmLt qLt k aLt)] ++ List.flatten [(wmHa qHa k hHa), (wmFr qFr k aFr), (wmCa qCa k pCa), (wmAc qAc k iAc), (wmWa qWa k jWa), (wmBr qBr k aBr)]) s.heap := hP
  have hl := lv_entry ([.ref (qO 0), .int p1, .int p2]) (n := 5) (Nat.le_of_ble_eq_true rfl)
  rw [lg_entry_eq]
  generalize (lg_sl ([.ref (qO 0), .int p1, .int p2]) ++ List.replicate (5 - (lg_sl ([.ref (qO 0), .int p1, .int p2])).length) Slot.unset).toArray = ls at hl ⊢
  have hl : lv_has ls 5 [(0, .ref (qO 0)), (1, .int p1), (2, .int p2)] := hl
  refine w_gen (fun Q hQ => ?_)
  refine lv_aload_n hx hb dX12_rest_0 rfl (lv_at hl 0 rfl) ?_
  refine lv_iconst (v := 0) hx hb dX12_rest_1 (by decide) ?_
  refine va_put (D := (dC, dI)) (ci := 12) (v := .int 0) (ty := .int) (C := RX12) (T := TX12) (N := 59) hx hb hts (fun w h => List.mem_cons_of_mem _ (List.mem_append_right _ (List.mem_append_left _ h))) tyX12 tyX12_ok nmX12 hown hK hP hD hS 0 rfl rfl 0 (by decide) (hts (.fieldLink RX12 116 "SagMemoryModel" "thrown" "I") (wl_mem 0 rfl)) (fun _ h9 => h9) rfl (by decide +kernel) rfl rfl (Nat.le_of_ble_eq_true rfl) dX12_rest_2 (fun H locs hP hD hS => ?_)
  have hP : va_P (dC, dI) vwCl (List.flatten [(wMO qO k widthO manyO cellsO movedO tapeO linesO (qHa 0) (qBr 0) (qCa 0) (qWa 0) (qFr 0) (qAc 0) isKeptO (qLn 0) (qBn 0) (qRw 0) (qMe 0) (qWh 0) (qDn 0) (qBb 0) (qBa 0) (qGb 0) (qCt 0) (qSm 0) (qCo 0) (qWb 0) (qDa 0) (qSa 0) (qLa 0) orderRowO oftenO (qLo 0) (qLt 0) (va_up vO 0 (0 : Int32)) tO mO gO), (wmLn qLn k aLn), (wmBn qBn k yBn), (wmRw qRw k rRw), (wmGb qGb k yGb), (wmCt qCt k aCt), (wmSm qSm k aSm), (wmCo qCo k aCo), (wmWb qWb k aWb), (wmDn qDn k uDn), (wmMe qMe k aMe), (wmWh qWh k aWh), (wmBb qBb k aBb), (wmBa qBa k aBa), (wmDa qDa k oDa), (wmSa qSa k aSa), (wmLa qLa k aLa), (wmLo qLo k aLo), (wmLt qLt k aLt)] ++ List.flatten [(wmHa qHa k hHa), (wmFr qFr k aFr), (wmCa qCa k pCa), (wmAc qAc k iAc), (wmWa qWa k jWa), (wmBr qBr k aBr)]) H := hP
  have hD : va_D A (List.flatten [(wMO qO k widthO manyO cellsO movedO tapeO linesO (qHa 0) (qBr 0) (qCa 0) (qWa 0) (qFr 0) (qAc 0) isKeptO (qLn 0) (qBn 0) (qRw 0) (qMe 0) (qWh 0) (qDn 0) (qBb 0) (qBa 0) (qGb 0) (qCt 0) (qSm 0) (qCo 0) (qWb 0) (qDa 0) (qSa 0) (qLa 0) orderRowO oftenO (qLo 0) (qLt 0) (va_up vO 0 (0 : Int32)) tO mO gO), (wmLn qLn k aLn), (wmBn qBn k yBn), (wmRw qRw k rRw), (wmGb qGb k yGb), (wmCt qCt k aCt), (wmSm qSm k aSm), (wmCo qCo k aCo), (wmWb qWb k aWb), (wmDn qDn k uDn), (wmMe qMe k aMe), (wmWh qWh k aWh), (wmBb qBb k aBb), (wmBa qBa k aBa), (wmDa qDa k oDa), (wmSa qSa k aSa), (wmLa qLa k aLa), (wmLo qLo k aLo), (wmLt qLt k aLt)] ++ List.flatten [(wmHa qHa k hHa), (wmFr qFr k aFr), (wmCa qCa k pCa), (wmAc qAc k iAc), (wmWa qWa k jWa), (wmBr qBr k aBr)]) := hD
  refine lv_aload_n hx hb dX12_rest_5 rfl (lv_at hl 0 rfl) ?_
  refine lv_iload_n hx hb dX12_rest_6 rfl (lv_at hl 1 rfl) ?_
  refine lv_iload_n hx hb dX12_rest_7 rfl (lv_at hl 2 rfl) ?_
  have hPc := hP.sub (ws' := (List.flatten [(wMO qO k widthO manyO cellsO movedO tapeO linesO (qHa 0) (qBr 0) (qCa 0) (qWa 0) (qFr 0) (qAc 0) isKeptO (qLn 0) (qBn 0) (qRw 0) (qMe 0) (qWh 0) (qDn 0) (qBb 0) (qBa 0) (qGb 0) (qCt 0) (qSm 0) (qCo 0) (qWb 0) (qDa 0) (qSa 0) (qLa 0) orderRowO oftenO (qLo 0) (qLt 0) (va_up vO 0 (0 : Int32)) tO mO gO), (wmHa qHa k hHa)])) [0, 19] rfl
  refine vp_callSi (va_Run.run (va_runV (As := [.int p1, .int p2]) (rest := []) ⟨hx, hb, hml, hown, hts⟩ (c_X12_areTwo l dC dI k qO widthO manyO cellsO movedO tapeO linesO (qBr 0) (qCa 0) (qWa 0) (qFr 0) (qAc 0) isKeptO (qLn 0) (qBn 0) (qRw 0) (qMe 0) (qWh 0) (qDn 0) (qBb 0) (qBa 0) (qGb 0) (qCt 0) (qSm 0) (qCo 0) (qWb 0) (qDa 0) (qSa 0) (qLa 0) orderRowO oftenO (qLo 0) (qLt 0) (va_up vO 0 (0 : Int32)) tO mO gO qHa hHa p1 p2 htO hmO hhHa) (cwV 2 hts (gk_V (wl_mem 1 rfl) (wl_mem 2 rfl) (wl_mem 3 rfl) (wl_mem 4 rfl) (fun w h => List.mem_cons_of_mem _ (List.mem_append_right _ (List.mem_append_right _ (List.mem_append_left _ h)))) wkg_c_X12_areTwo) rfl rfl rfl (by decide +kernel) ⟨Nat.le_of_ble_eq_true rfl, Nat.le_of_ble_eq_true rfl⟩) ⟨fun a U g mk q => by obtain ⟨q0, qP, qK⟩ := q; exact ⟨q0, qP, va_K.moved (u := U) (U := U.calling g mk a) (Vm.Alike.refl U.vm) qK⟩, va_recv hK hPc (ci := 12) (q0 := 0) rfl rfl, fun U hU hW => ⟨rfl, by rw [hU]; exact hPc, va_K.moved hW.alike hK⟩⟩ rfl rfl hl.1 rfl (lv_room (Nat.le_of_ble_eq_true rfl)) dX12_rest_8 ⟨Nat.le_of_ble_eq_true rfl, Nat.le_of_ble_eq_true rfl⟩)) (fun rz2 gz1 => ?_)
  clear hPc
  obtain ⟨pz3, pz4⟩ := gz1
  have pz3 : rz2.toInt = 0 ∨ rz2.toInt = 1 := pz3
  have pz4 : rz2.toInt = 0 ∨ (0 ≤ p1.toInt ∧ p1.toInt ≤ 6 ∧ 0 ≤ p2.toInt ∧ p2.toInt ≤ 6) := pz4
  refine lv_if_ne (tgt := 17) hx hb dX12_rest_11 (by decide) (fun cz5 => ?_) (fun cz5 => ?_)
  · skip
    have zz6 : ¬ rz2.toInt = (0 : Int) := fun h9 => cz5 (zi_eq.mpr h9)
    refine lv_aload_n hx hb dX12_rest_17 rfl (lv_at hl 0 rfl) ?_
    refine lv_iload_n hx hb dX12_rest_18 rfl (lv_at hl 1 rfl) ?_
    refine lv_iload_n hx hb dX12_rest_19 rfl (lv_at hl 2 rfl) ?_
    have hPc := hP
    have hDc : va_D A (List.flatten [(wMO qO k widthO manyO cellsO movedO tapeO linesO (qHa 0) (qBr 0) (qCa 0) (qWa 0) (qFr 0) (qAc 0) isKeptO (qLn 0) (qBn 0) (qRw 0) (qMe 0) (qWh 0) (qDn 0) (qBb 0) (qBa 0) (qGb 0) (qCt 0) (qSm 0) (qCo 0) (qWb 0) (qDa 0) (qSa 0) (qLa 0) orderRowO oftenO (qLo 0) (qLt 0) (va_up vO 0 (0 : Int32)) tO mO gO), (wmLn qLn k aLn), (wmBn qBn k yBn), (wmRw qRw k rRw), (wmGb qGb k yGb), (wmCt qCt k aCt), (wmSm qSm k aSm), (wmCo qCo k aCo), (wmWb qWb k aWb), (wmDn qDn k uDn), (wmMe qMe k aMe), (wmWh qWh k aWh), (wmBb qBb k aBb), (wmBa qBa k aBa), (wmDa qDa k oDa), (wmSa qSa k aSa), (wmLa qLa k aLa), (wmLo qLo k aLo), (wmLt qLt k aLt)] ++ List.flatten [(wmHa qHa k hHa), (wmFr qFr k aFr), (wmCa qCa k pCa), (wmAc qAc k iAc), (wmWa qWa k jWa), (wmBr qBr k aBr)]) := wc_subD hD [0, 1, 2, 3, 4, 5, 6, 7, 8, 9, 10, 11, 12, 13, 14, 15, 16, 17, 18, 19, 20, 21, 22, 23, 24] rfl rfl
    have hFc := wc_free hDc hS hA
    refine va_callv (va_runV (As := [.int p1, .int p2]) (rest := []) ⟨hx, hb, hml, hown, hts⟩ (c_X12_laysGame l dC dI k H.size qO widthO manyO cellsO movedO tapeO linesO isKeptO orderRowO oftenO (va_up vO 0 (0 : Int32)) tO mO gO qHa hHa qFr aFr qCa pCa qAc iAc qLn aLn qBn yBn qRw rRw qWa jWa qBr aBr qGb yGb qCt aCt qSm aSm qCo aCo qWb aWb qDn uDn qMe aMe qWh aWh qBb aBb qBa aBa qDa oDa qSa aSa qLa aLa qLo aLo qLt aLt p1 p2 htO hmO hhHa hpCa hiAc hyBn hrRw hjWa hyGb huDn hoDa (by show 0 ≤ p1.toInt ∧ p1.toInt ≤ 6; omega) (by show 0 ≤ p2.toInt ∧ p2.toInt ≤ 6; omega)) (cwV 2 hts (gk_V (wl_mem 5 rfl) (wl_mem 6 rfl) (wl_mem 7 rfl) (wl_mem 4 rfl) (fun w h => List.mem_cons_of_mem _ (List.mem_append_right _ (List.mem_append_right _ (List.mem_append_right _ (List.mem_append_left _ h))))) wkg_c_X12_laysGame) rfl rfl rfl (by decide +kernel) ⟨Nat.le_of_ble_eq_true rfl, Nat.le_of_ble_eq_true rfl⟩) ⟨fun a U g mk q => by obtain ⟨q0, q1, qP, qK, qD⟩ := q; exact ⟨q0, q1, qP, va_K.moved (u := U) (U := U.calling g mk a) (Vm.Alike.refl U.vm) qK, qD⟩, va_recv hK hPc (ci := 12) (q0 := 0) rfl rfl, fun U hU hW => ⟨rfl, by rw [hU], by rw [hU]; exact hPc, va_K.moved hW.alike hK, hDc.weaken (fun _ _ _ _ => trivial)⟩⟩ rfl rfl hl.1 rfl (lv_room (Nat.le_of_ble_eq_true rfl)) dX12_rest_20 ⟨Nat.le_of_ble_eq_true rfl, Nat.le_of_ble_eq_true rfl⟩) hS (fun q _ h => hFc q h) hFc (fun u t H1 locs ht hvm gz7 hB hz1 hk1 hS => ?_)
    obtain ⟨vz9, tz10, mz11, gz12, az13, yz14, rz15, yz16, az17, az18, az19, az20, uz21, az22, az23, az24, az25, oz26, az27, az28, az29, az30, htz10, hmz11, hyz14, hrz15, hyz16, huz21, hoz26, hP1⟩ := hB
    rw [ht] at hP1
    obtain ⟨hP, hD⟩ := w_callR hP hD hk1 hP1 [0, 1, 2, 3, 4, 5, 6, 7, 8, 9, 10, 11, 12, 13, 14, 15, 16, 17, 18] rfl rfl (wk_memC [19, 20, 21, 22, 23, 24] rfl) rfl [some 0, some 1, some 2, some 3, some 4, some 5, some 6, some 7, some 8, some 9, some 10, some 11, some 12, some 13, some 14, some 15, some 16, some 17, some 18] rfl rfl
    clear hPc hDc hFc hk1 hP1
    generalize H1 = H at hP hS ⊢
    have hP : va_P (dC, dI) vwCl (List.flatten [(wMO qO k widthO manyO cellsO movedO tapeO linesO (qHa 0) (qBr 0) (qCa 0) (qWa 0) (qFr 0) (qAc 0) isKeptO (qLn 0) (qBn 0) (qRw 0) (qMe 0) (qWh 0) (qDn 0) (qBb 0) (qBa 0) (qGb 0) (qCt 0) (qSm 0) (qCo 0) (qWb 0) (qDa 0) (qSa 0) (qLa 0) orderRowO oftenO (qLo 0) (qLt 0) vz9 tz10 mz11 gz12), (wmLn qLn k az13), (wmBn qBn k yz14), (wmRw qRw k rz15), (wmGb qGb k yz16), (wmCt qCt k az17), (wmSm qSm k az18), (wmCo qCo k az19), (wmWb qWb k az20), (wmDn qDn k uz21), (wmMe qMe k az22), (wmWh qWh k az23), (wmBb qBb k az24), (wmBa qBa k az25), (wmDa qDa k oz26), (wmSa qSa k az27), (wmLa qLa k az28), (wmLo qLo k az29), (wmLt qLt k az30)] ++ List.flatten [(wmHa qHa k hHa), (wmFr qFr k aFr), (wmCa qCa k pCa), (wmAc qAc k iAc), (wmWa qWa k jWa), (wmBr qBr k aBr)]) H := hP
    have hD : va_D A (List.flatten [(wMO qO k widthO manyO cellsO movedO tapeO linesO (qHa 0) (qBr 0) (qCa 0) (qWa 0) (qFr 0) (qAc 0) isKeptO (qLn 0) (qBn 0) (qRw 0) (qMe 0) (qWh 0) (qDn 0) (qBb 0) (qBa 0) (qGb 0) (qCt 0) (qSm 0) (qCo 0) (qWb 0) (qDa 0) (qSa 0) (qLa 0) orderRowO oftenO (qLo 0) (qLt 0) vz9 tz10 mz11 gz12), (wmLn qLn k az13), (wmBn qBn k yz14), (wmRw qRw k rz15), (wmGb qGb k yz16), (wmCt qCt k az17), (wmSm qSm k az18), (wmCo qCo k az19), (wmWb qWb k az20), (wmDn qDn k uz21), (wmMe qMe k az22), (wmWh qWh k az23), (wmBb qBb k az24), (wmBa qBa k az25), (wmDa qDa k oz26), (wmSa qSa k az27), (wmLa qLa k az28), (wmLo qLo k az29), (wmLt qLt k az30)] ++ List.flatten [(wmHa qHa k hHa), (wmFr qFr k aFr), (wmCa qCa k pCa), (wmAc qAc k iAc), (wmWa qWa k jWa), (wmBr qBr k aBr)]) := hD
    refine W.widen (k := 0) (n := 0) (Nat.le_refl 0) (Nat.le_refl 0) ?_
    refine lv_iconst (v := 0) hx hb dX12_rest_23 (by decide) ?_
    refine lv_istore_n (lv' := [(3, .int 0), (0, .ref (qO 0)), (1, .int p1), (2, .int p2)]) hx hb dX12_rest_24 rfl hl (by decide) rfl (fun ls hl => ?_)
    have lp25_kz120 : ∀ (n9_25 : Nat) (H : Heap) (locs : List Loc) (ls : Array Slot) (xz119 : Int32), (2147483647 - xz119.toInt).toNat < n9_25 → 0 ≤ xz119.toInt → va_P (dC, dI) vwCl (List.flatten [(wMO qO k widthO manyO cellsO movedO tapeO linesO (qHa 0) (qBr 0) (qCa 0) (qWa 0) (qFr 0) (qAc 0) isKeptO (qLn 0) (qBn 0) (qRw 0) (qMe 0) (qWh 0) (qDn 0) (qBb 0) (qBa 0) (qGb 0) (qCt 0) (qSm 0) (qCo 0) (qWb 0) (qDa 0) (qSa 0) (qLa 0) orderRowO oftenO (qLo 0) (qLt 0) vz9 tz10 mz11 gz12), (wmLn qLn k az13), (wmBn qBn k yz14), (wmRw qRw k rz15), (wmGb qGb k yz16), (wmCt qCt k az17), (wmSm qSm k az18), (wmCo qCo k az19), (wmWb qWb k az20), (wmDn qDn k uz21), (wmMe qMe k az22), (wmWh qWh k az23), (wmBb qBb k az24), (wmBa qBa k az25), (wmDa qDa k oz26), (wmSa qSa k az27), (wmLa qLa k az28), (wmLo qLo k az29), (wmLt qLt k az30)] ++ List.flatten [(wmHa qHa k hHa), (wmFr qFr k aFr), (wmCa qCa k pCa), (wmAc qAc k iAc), (wmWa qWa k jWa), (wmBr qBr k aBr)]) H → va_D A (List.flatten [(wMO qO k widthO manyO cellsO movedO tapeO linesO (qHa 0) (qBr 0) (qCa 0) (qWa 0) (qFr 0) (qAc 0) isKeptO (qLn 0) (qBn 0) (qRw 0) (qMe 0) (qWh 0) (qDn 0) (qBb 0) (qBa 0) (qGb 0) (qCt 0) (qSm 0) (qCo 0) (qWb 0) (qDa 0) (qSa 0) (qLa 0) orderRowO oftenO (qLo 0) (qLt 0) vz9 tz10 mz11 gz12), (wmLn qLn k az13), (wmBn qBn k yz14), (wmRw qRw k rz15), (wmGb qGb k yz16), (wmCt qCt k az17), (wmSm qSm k az18), (wmCo qCo k az19), (wmWb qWb k az20), (wmDn qDn k uz21), (wmMe qMe k az22), (wmWh qWh k az23), (wmBb qBb k az24), (wmBa qBa k az25), (wmDa qDa k oz26), (wmSa qSa k az27), (wmLa qLa k az28), (wmLo qLo k az29), (wmLt qLt k az30)] ++ List.flatten [(wmHa qHa k hHa), (wmFr qFr k aFr), (wmCa qCa k pCa), (wmAc qAc k iAc), (wmWa qWa k jWa), (wmBr qBr k aBr)]) → va_S A s.heap H locs → lv_has ls 5 [(0, .ref (qO 0)), (3, .int xz119)] → W p l e (headSpec wk_c_X12_rest ({ frames := 5, cells := 0, slots := 0, locals := 118 })).room s m ([.ref (qO 0), .int p1, .int p2] : List Value).toArray below meth c H locs 0 0 Q (F0 m 25 ls []) := by
      intro n9_25
      induction n9_25 with
      | zero => intro H locs ls xz119 hm; exact absurd hm (Nat.not_lt_zero _)
      | succ n9_25 ih25 =>
        intro H locs ls xz119 hm25 jz121 hP hD hS hl
        refine lv_iload_n hx hb dX12_rest_25 rfl (lv_at hl 1 rfl) ?_
        refine lv_aload_n hx hb dX12_rest_26 rfl (lv_at hl 0 rfl) ?_
        have hPc := hP.sub (ws' := (List.flatten [(wMO qO k widthO manyO cellsO movedO tapeO linesO (qHa 0) (qBr 0) (qCa 0) (qWa 0) (qFr 0) (qAc 0) isKeptO (qLn 0) (qBn 0) (qRw 0) (qMe 0) (qWh 0) (qDn 0) (qBb 0) (qBa 0) (qGb 0) (qCt 0) (qSm 0) (qCo 0) (qWb 0) (qDa 0) (qSa 0) (qLa 0) orderRowO oftenO (qLo 0) (qLt 0) vz9 tz10 mz11 gz12), (wmHa qHa k hHa)])) [0, 19] rfl
        refine vp_callSi (va_Run.run (va_runV (As := []) (rest := [.int xz119]) ⟨hx, hb, hml, hown, hts⟩ (c_X12_bridges l dC dI k qO widthO manyO cellsO movedO tapeO linesO (qBr 0) (qCa 0) (qWa 0) (qFr 0) (qAc 0) isKeptO (qLn 0) (qBn 0) (qRw 0) (qMe 0) (qWh 0) (qDn 0) (qBb 0) (qBa 0) (qGb 0) (qCt 0) (qSm 0) (qCo 0) (qWb 0) (qDa 0) (qSa 0) (qLa 0) orderRowO oftenO (qLo 0) (qLt 0) vz9 tz10 mz11 gz12 qHa hHa htz10 hmz11 hhHa) (cwV 0 hts (gk_V (wl_mem 8 rfl) (wl_mem 9 rfl) (wl_mem 10 rfl) (wl_mem 4 rfl) (fun w h => List.mem_cons_of_mem _ (List.mem_append_right _ (List.mem_append_right _ (List.mem_append_right _ (List.mem_append_right _ (List.mem_append_left _ h)))))) wkg_c_X12_bridges) rfl rfl rfl (by decide +kernel) ⟨Nat.le_of_ble_eq_true rfl, Nat.le_of_ble_eq_true rfl⟩) ⟨fun a U g mk q => by obtain ⟨q0, qP, qK⟩ := q; exact ⟨q0, qP, va_K.moved (u := U) (U := U.calling g mk a) (Vm.Alike.refl U.vm) qK⟩, va_recv hK hPc (ci := 12) (q0 := 0) rfl rfl, fun U hU hW => ⟨rfl, by rw [hU]; exact hPc, va_K.moved hW.alike hK⟩⟩ rfl rfl hl.1 rfl (lv_room (Nat.le_of_ble_eq_true rfl)) dX12_rest_27 ⟨Nat.le_of_ble_eq_true rfl, Nat.le_of_ble_eq_true rfl⟩)) (fun rz123 gz122 => ?_)
        clear hPc
        have pz124 := gz122
        have pz124 : 0 ≤ rz123.toInt ∧ rz123.toInt ≤ 3 := pz124
        refine lv_icmp_ge (tgt := 75) hx hb dX12_rest_30 (by decide) (fun cz125 => ?_) (fun cz125 => ?_)
        · skip
          have bz126 := fb_rng xz119
          have zz127 : rz123.toInt ≤ xz119.toInt := zi_le.mp cz125
          refine lv_iconst (v := (-1)) hx hb dX12_rest_75 (by decide) ?_
          rw [hQ]
          exact W.iret (v := (-1 : Int32)) hx hb hr (fun t ht hW => ⟨⟨(-1 : Int32), (), rfl, trivial, vz9, tz10, mz11, gz12, az13, yz14, rz15, yz16, az17, az18, az19, az20, uz21, az22, az23, az24, az25, oz26, az27, az28, az29, az30, htz10, hmz11, hyz14, hrz15, hyz16, huz21, hoz26, by rw [ht]; exact hP⟩, hS.F ht⟩) hS.2.2 dX12_rest_76
        · skip
          have bz128 := fb_rng xz119
          have zz129 : ¬ rz123.toInt ≤ xz119.toInt := fun h9 => cz125 (zi_le.mpr h9)
          refine lv_iconst (v := 0) hx hb dX12_rest_33 (by decide) ?_
          refine lv_istore (lv' := [(4, .int 0), (0, .ref (qO 0)), (3, .int xz119)]) hx hb dX12_rest_34 hl (by decide) rfl (fun ls hl => ?_)
          have lp36_kz169 : ∀ (n9_36 : Nat) (H : Heap) (locs : List Loc) (ls : Array Slot) (xz168 : Int32), (2147483647 - xz168.toInt).toNat < n9_36 → 0 ≤ xz168.toInt → va_P (dC, dI) vwCl (List.flatten [(wMO qO k widthO manyO cellsO movedO tapeO linesO (qHa 0) (qBr 0) (qCa 0) (qWa 0) (qFr 0) (qAc 0) isKeptO (qLn 0) (qBn 0) (qRw 0) (qMe 0) (qWh 0) (qDn 0) (qBb 0) (qBa 0) (qGb 0) (qCt 0) (qSm 0) (qCo 0) (qWb 0) (qDa 0) (qSa 0) (qLa 0) orderRowO oftenO (qLo 0) (qLt 0) vz9 tz10 mz11 gz12), (wmLn qLn k az13), (wmBn qBn k yz14), (wmRw qRw k rz15), (wmGb qGb k yz16), (wmCt qCt k az17), (wmSm qSm k az18), (wmCo qCo k az19), (wmWb qWb k az20), (wmDn qDn k uz21), (wmMe qMe k az22), (wmWh qWh k az23), (wmBb qBb k az24), (wmBa qBa k az25), (wmDa qDa k oz26), (wmSa qSa k az27), (wmLa qLa k az28), (wmLo qLo k az29), (wmLt qLt k az30)] ++ List.flatten [(wmHa qHa k hHa), (wmFr qFr k aFr), (wmCa qCa k pCa), (wmAc qAc k iAc), (wmWa qWa k jWa), (wmBr qBr k aBr)]) H → va_D A (List.flatten [(wMO qO k widthO manyO cellsO movedO tapeO linesO (qHa 0) (qBr 0) (qCa 0) (qWa 0) (qFr 0) (qAc 0) isKeptO (qLn 0) (qBn 0) (qRw 0) (qMe 0) (qWh 0) (qDn 0) (qBb 0) (qBa 0) (qGb 0) (qCt 0) (qSm 0) (qCo 0) (qWb 0) (qDa 0) (qSa 0) (qLa 0) orderRowO oftenO (qLo 0) (qLt 0) vz9 tz10 mz11 gz12), (wmLn qLn k az13), (wmBn qBn k yz14), (wmRw qRw k rz15), (wmGb qGb k yz16), (wmCt qCt k az17), (wmSm qSm k az18), (wmCo qCo k az19), (wmWb qWb k az20), (wmDn qDn k uz21), (wmMe qMe k az22), (wmWh qWh k az23), (wmBb qBb k az24), (wmBa qBa k az25), (wmDa qDa k oz26), (wmSa qSa k az27), (wmLa qLa k az28), (wmLo qLo k az29), (wmLt qLt k az30)] ++ List.flatten [(wmHa qHa k hHa), (wmFr qFr k aFr), (wmCa qCa k pCa), (wmAc qAc k iAc), (wmWa qWa k jWa), (wmBr qBr k aBr)]) → va_S A s.heap H locs → lv_has ls 5 [(0, .ref (qO 0)), (3, .int xz119), (4, .int xz168)] → W p l e (headSpec wk_c_X12_rest ({ frames := 5, cells := 0, slots := 0, locals := 118 })).room s m ([.ref (qO 0), .int p1, .int p2] : List Value).toArray below meth c H locs 0 0 Q (F0 m 36 ls []) := by
            intro n9_36
            induction n9_36 with
            | zero => intro H locs ls xz168 hm; exact absurd hm (Nat.not_lt_zero _)
            | succ n9_36 ih36 =>
              intro H locs ls xz168 hm36 jz170 hP hD hS hl
              refine lv_iload hx hb dX12_rest_36 (lv_at hl 2 rfl) ?_
              refine lv_aload_n hx hb dX12_rest_38 rfl (lv_at hl 0 rfl) ?_
              have hPc := hP.sub (ws' := (List.flatten [(wMO qO k widthO manyO cellsO movedO tapeO linesO (qHa 0) (qBr 0) (qCa 0) (qWa 0) (qFr 0) (qAc 0) isKeptO (qLn 0) (qBn 0) (qRw 0) (qMe 0) (qWh 0) (qDn 0) (qBb 0) (qBa 0) (qGb 0) (qCt 0) (qSm 0) (qCo 0) (qWb 0) (qDa 0) (qSa 0) (qLa 0) orderRowO oftenO (qLo 0) (qLt 0) vz9 tz10 mz11 gz12), (wmHa qHa k hHa)])) [0, 19] rfl
              refine vp_callSi (va_Run.run (va_runV (As := []) (rest := [.int xz168]) ⟨hx, hb, hml, hown, hts⟩ (c_X12_bridges l dC dI k qO widthO manyO cellsO movedO tapeO linesO (qBr 0) (qCa 0) (qWa 0) (qFr 0) (qAc 0) isKeptO (qLn 0) (qBn 0) (qRw 0) (qMe 0) (qWh 0) (qDn 0) (qBb 0) (qBa 0) (qGb 0) (qCt 0) (qSm 0) (qCo 0) (qWb 0) (qDa 0) (qSa 0) (qLa 0) orderRowO oftenO (qLo 0) (qLt 0) vz9 tz10 mz11 gz12 qHa hHa htz10 hmz11 hhHa) (cwV 0 hts (gk_V (wl_mem 8 rfl) (wl_mem 9 rfl) (wl_mem 10 rfl) (wl_mem 4 rfl) (fun w h => List.mem_cons_of_mem _ (List.mem_append_right _ (List.mem_append_right _ (List.mem_append_right _ (List.mem_append_right _ (List.mem_append_left _ h)))))) wkg_c_X12_bridges) rfl rfl rfl (by decide +kernel) ⟨Nat.le_of_ble_eq_true rfl, Nat.le_of_ble_eq_true rfl⟩) ⟨fun a U g mk q => by obtain ⟨q0, qP, qK⟩ := q; exact ⟨q0, qP, va_K.moved (u := U) (U := U.calling g mk a) (Vm.Alike.refl U.vm) qK⟩, va_recv hK hPc (ci := 12) (q0 := 0) rfl rfl, fun U hU hW => ⟨rfl, by rw [hU]; exact hPc, va_K.moved hW.alike hK⟩⟩ rfl rfl hl.1 rfl (lv_room (Nat.le_of_ble_eq_true rfl)) dX12_rest_39 ⟨Nat.le_of_ble_eq_true rfl, Nat.le_of_ble_eq_true rfl⟩)) (fun rz172 gz171 => ?_)
              clear hPc
              have pz173 := gz171
              have pz173 : 0 ≤ rz172.toInt ∧ rz172.toInt ≤ 3 := pz173
              refine lv_icmp_ge (tgt := 69) hx hb dX12_rest_42 (by decide) (fun cz174 => ?_) (fun cz174 => ?_)
              · skip
                have bz175 := fb_rng xz168
                have zz176 : rz172.toInt ≤ xz168.toInt := zi_le.mp cz174
                obtain ⟨xz177, exz177⟩ : ∃ y : Int32, y = xz119 + Int32.ofInt (1) := ⟨_, rfl⟩
                have fxz177 : xz177.toInt = xz119.toInt + (1) := by rw [exz177]; exact fb_addI (y := Int32.ofInt (1)) (by show -2147483648 ≤ xz119.toInt + (1); omega) (by show xz119.toInt + (1) < 2147483648; omega)
                refine lv_iinc (v := xz177) (lv' := [(3, .int xz177), (0, .ref (qO 0)), (4, .int xz168)]) hx hb dX12_rest_69 hl (k := 1) rfl exz177.symm (by decide) rfl (fun ls hl => ?_)
                refine lv_goto (tgt := 25) hx hb dX12_rest_72 (by decide) ?_
                exact ih25 H locs ls xz177 (by show (2147483647 - xz177.toInt).toNat < n9_25; omega) (by show 0 ≤ xz177.toInt; omega) hP hD hS (lv_sub hl [1, 0] rfl)
              · skip
                have bz178 := fb_rng xz168
                have zz179 : ¬ rz172.toInt ≤ xz168.toInt := fun h9 => cz174 (zi_le.mpr h9)
                refine lv_aload_n hx hb dX12_rest_45 rfl (lv_at hl 0 rfl) ?_
                refine lv_iload_n hx hb dX12_rest_46 rfl (lv_at hl 1 rfl) ?_
                refine lv_iload hx hb dX12_rest_47 (lv_at hl 2 rfl) ?_
                have hPc := hP.sub (ws' := (List.flatten [(wMO qO k widthO manyO cellsO movedO tapeO linesO (qHa 0) (qBr 0) (qCa 0) (qWa 0) (qFr 0) (qAc 0) isKeptO (qLn 0) (qBn 0) (qRw 0) (qMe 0) (qWh 0) (qDn 0) (qBb 0) (qBa 0) (qGb 0) (qCt 0) (qSm 0) (qCo 0) (qWb 0) (qDa 0) (qSa 0) (qLa 0) orderRowO oftenO (qLo 0) (qLt 0) vz9 tz10 mz11 gz12), (wmHa qHa k hHa), (wmLo qLo k az29), (wmLt qLt k az30)])) [0, 19, 17, 18] rfl
                refine vp_callSi (va_Run.run (va_runV (As := [.int xz119, .int xz168]) (rest := []) ⟨hx, hb, hml, hown, hts⟩ (c_X12_isRest l dC dI k qO widthO manyO cellsO movedO tapeO linesO (qBr 0) (qCa 0) (qWa 0) (qFr 0) (qAc 0) isKeptO (qLn 0) (qBn 0) (qRw 0) (qMe 0) (qWh 0) (qDn 0) (qBb 0) (qBa 0) (qGb 0) (qCt 0) (qSm 0) (qCo 0) (qWb 0) (qDa 0) (qSa 0) (qLa 0) orderRowO oftenO vz9 tz10 mz11 gz12 qHa hHa qLo az29 qLt az30 xz119 xz168 htz10 hmz11 hhHa (by show 0 ≤ xz119.toInt ∧ xz119.toInt ≤ 2; omega) (by show 0 ≤ xz168.toInt ∧ xz168.toInt ≤ 2; omega)) (cwV 2 hts (gk_V (wl_mem 11 rfl) (wl_mem 12 rfl) (wl_mem 13 rfl) (wl_mem 4 rfl) (fun w h => List.mem_cons_of_mem _ (List.mem_append_right _ (List.mem_append_right _ (List.mem_append_right _ (List.mem_append_right _ (List.mem_append_right _ (List.mem_append_left _ h))))))) wkg_c_X12_isRest) rfl rfl rfl (by decide +kernel) ⟨Nat.le_of_ble_eq_true rfl, Nat.le_of_ble_eq_true rfl⟩) ⟨fun a U g mk q => by obtain ⟨q0, qP, qK⟩ := q; exact ⟨q0, qP, va_K.moved (u := U) (U := U.calling g mk a) (Vm.Alike.refl U.vm) qK⟩, va_recv hK hPc (ci := 12) (q0 := 0) rfl rfl, fun U hU hW => ⟨rfl, by rw [hU]; exact hPc, va_K.moved hW.alike hK⟩⟩ rfl rfl hl.1 rfl (lv_room (Nat.le_of_ble_eq_true rfl)) dX12_rest_49 ⟨Nat.le_of_ble_eq_true rfl, Nat.le_of_ble_eq_true rfl⟩)) (fun rz181 gz180 => ?_)
                clear hPc
                have pz182 := gz180
                have pz182 : rz181.toInt = 0 ∨ rz181.toInt = 1 := pz182
                refine lv_if_eq (tgt := 63) hx hb dX12_rest_52 (by decide) (fun cz183 => ?_) (fun cz183 => ?_)
                · skip
                  have zz184 : rz181.toInt = (0 : Int) := zi_eq.mp cz183
                  obtain ⟨xz185, exz185⟩ : ∃ y : Int32, y = xz168 + Int32.ofInt (1) := ⟨_, rfl⟩
                  have fxz185 : xz185.toInt = xz168.toInt + (1) := by rw [exz185]; exact fb_addI (y := Int32.ofInt (1)) (by show -2147483648 ≤ xz168.toInt + (1); omega) (by show xz168.toInt + (1) < 2147483648; omega)
                  refine lv_iinc (v := xz185) (lv' := [(4, .int xz185), (0, .ref (qO 0)), (3, .int xz119)]) hx hb dX12_rest_63 hl (k := 2) rfl exz185.symm (by decide) rfl (fun ls hl => ?_)
                  refine lv_goto (tgt := 36) hx hb dX12_rest_66 (by decide) ?_
                  exact ih36 H locs ls xz185 (by show (2147483647 - xz185.toInt).toNat < n9_36; omega) (by show 0 ≤ xz185.toInt; omega) hP hD hS (lv_sub hl [1, 2, 0] rfl)
                · skip
                  have zz186 : ¬ rz181.toInt = (0 : Int) := fun h9 => cz183 (zi_eq.mpr h9)
                  refine lv_bipush (v := 10) hx hb dX12_rest_55 (by decide) ?_
                  refine lv_iload_n hx hb dX12_rest_57 rfl (lv_at hl 1 rfl) ?_
                  refine lv_imul hx hb dX12_rest_58 ?_
                  refine lv_topi (fun xz187 exz187 => ?_)
                  have fxz187 : xz187.toInt = (10 : Int) * xz119.toInt := by rw [exz187]; exact fb_mulI (x := (10 : Int32)) (y := xz119) (by show -2147483648 ≤ (10 : Int) * xz119.toInt; omega) (by show (10 : Int) * xz119.toInt < 2147483648; omega)
                  refine lv_iload hx hb dX12_rest_59 (lv_at hl 2 rfl) ?_
                  refine lv_iadd hx hb dX12_rest_61 ?_
                  refine lv_topi (fun xz188 exz188 => ?_)
                  have fxz188 : xz188.toInt = xz187.toInt + xz168.toInt := by rw [exz188]; exact fb_addI (x := xz187) (y := xz168) (by show -2147483648 ≤ xz187.toInt + xz168.toInt; omega) (by show xz187.toInt + xz168.toInt < 2147483648; omega)
                  rw [hQ]
                  exact W.iret (v := xz188) hx hb hr (fun t ht hW => ⟨⟨xz188, (), rfl, trivial, vz9, tz10, mz11, gz12, az13, yz14, rz15, yz16, az17, az18, az19, az20, uz21, az22, az23, az24, az25, oz26, az27, az28, az29, az30, htz10, hmz11, hyz14, hrz15, hyz16, huz21, hoz26, by rw [ht]; exact hP⟩, hS.F ht⟩) hS.2.2 dX12_rest_62
          exact lp36_kz169 _ H locs ls (0 : Int32) (Nat.lt_succ_self _) (by show 0 ≤ (0 : Int); omega) hP hD hS (lv_sub hl [1, 2, 0] rfl)
    exact lp25_kz120 _ H locs ls (0 : Int32) (Nat.lt_succ_self _) (by show 0 ≤ (0 : Int); omega) hP hD hS (lv_sub hl [1, 0] rfl)
  · skip
    have zz189 : rz2.toInt = (0 : Int) := zi_eq.mp cz5
    refine lv_bipush (v := (-2)) hx hb dX12_rest_14 (by decide) ?_
    rw [hQ]
    exact W.iret (v := (-2 : Int32)) hx hb hr (fun t ht hW => ⟨⟨(-2 : Int32), (), rfl, trivial, (va_up vO 0 (0 : Int32)), tO, mO, gO, aLn, yBn, rRw, yGb, aCt, aSm, aCo, aWb, uDn, aMe, aWh, aBb, aBa, oDa, aSa, aLa, aLo, aLt, htO, hmO, hyBn, hrRw, hyGb, huDn, hoDa, by rw [ht]; exact hP⟩, hS.F ht⟩) hS.2.2 dX12_rest_16
