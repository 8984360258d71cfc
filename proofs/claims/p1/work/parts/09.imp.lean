def wk_f_X10_clear : List Cond := .code yX10_clear cX10_clear 1 none :: ([.fieldLink RX10 33 "SagMemory$Valley" "lines" "I", .fieldLink RX10 37 "SagMemory$Valley" "law" "I", .fieldLink RX10 40 "SagMemory$Valley" "frost" "I", .fieldLink RX10 43 "SagMemory$Valley" "odds" "I", .fieldLink RX10 46 "SagMemory$Valley" "bridges" "I", .fieldLink RX10 49 "SagMemory$Valley" "carts" "I", .fieldLink RX10 52 "SagMemory$Valley" "wards" "I", .fieldLink RX10 55 "SagMemory$Valley" "frosts" "I", .fieldLink RX10 58 "SagMemory$Valley" "cold" "I"] ++ (wsX100 ++ []))
theorem wkg_f_X10_clear : wk_f_X10_clear.all goodWord = true := by decide +kernel
set_option maxHeartbeats 4000000 in
set_option maxRecDepth 100000 in
theorem f_X10_clear (l : Launch) (dC : Nat → ClassId) (dI : Nat → Nat → Nat) (sz : Nat) (h0 : Nat) (v0 : Nat) (v1 : Nat) (v2 : Nat) (v3 : Nat) (v4 : Nat) (v5 : Nat) (v6 : Nat) : Met l yX10_clear wk_f_X10_clear ({ frames := 0, cells := 0, slots := 0, locals := 0 }) (va_Pc [.ref h0] (fun U => U.heap.size = sz ∧ va_P (dC, dI) vwCl [(h0, .inr (10, [.ref v0, .ref v1, .ref v2, .ref v3, .ref v4, .ref v5, .ref v6, .int 0, .int 0, .int 0, .int 0, .int 0, .int 0, .int 0, .int 0, .int 0]))] U.heap ∧ va_K (dC, dI) vwCl [] U ∧ va_D (fun _ => True) [(h0, .inr (10, [.ref v0, .ref v1, .ref v2, .ref v3, .ref v4, .ref v5, .ref v6, .int 0, .int 0, .int 0, .int 0, .int 0, .int 0, .int 0, .int 0, .int 0]))])) (va_Qv (fun _ : Unit => True) (fun (_ : Unit) (t : State) => va_P (dC, dI) vwCl [(h0, .inr (10, [.ref v0, .ref v1, .ref v2, .ref v3, .ref v4, .ref v5, .ref v6, .int 0, .int 0, .int 0, .int 0, .int 0, .int 0, .int 0, .int 0, .int 0]))] t.heap ∧ va_K (dC, dI) vwCl [] t ∧ va_D (va_A [(h0, .inr (10, [.ref v0, .ref v1, .ref v2, .ref v3, .ref v4, .ref v5, .ref v6, .int 0, .int 0, .int 0, .int 0, .int 0, .int 0, .int 0, .int 0, .int 0]))] sz) [(h0, .inr (10, [.ref v0, .ref v1, .ref v2, .ref v3, .ref v4, .ref v5, .ref v6, .int 0, .int 0, .int 0, .int 0, .int 0, .int 0, .int 0, .int 0, .int 0]))]) (va_A [(h0, .inr (10, [.ref v0, .ref v1, .ref v2, .ref v3, .ref v4, .ref v5, .ref v6, .int 0, .int 0, .int 0, .int 0, .int 0, .int 0, .int 0, .int 0, .int 0]))] sz)) 0 0 (va_A [(h0, .inr (10, [.ref v0, .ref v1, .ref v2, .ref v3, .ref v4, .ref v5, .ref v6, .int 0, .int 0, .int 0, .int 0, .int 0, .int 0, .int 0, .int 0, .int 0]))] sz) := by
  refine Met.ofW (cc := cX10_clear) (maxL := 1) (ret := none) (by decide) rfl ?_
  intro p e s m args below meth c s₁ B hml hv
  obtain ⟨rfl, hsz, hP, hK, hD0⟩ := hv
  have hx := B.exec
  have hb := B.bytes
  have hr := B.returns
  have hts := atoms_spec (ws := wk_f_X10_clear) B.pre
  have hown : s.vm.findClass RX10 = some m.cls := findClass_of_methodNamed B.named
  have hlocks := B.notSynchronized
  subst hsz
  have hD := hD0.self (sz := s.heap.size)
  generalize hAe : va_A [(h0, .inr (10, [.ref v0, .ref v1, .ref v2, .ref v3, .ref v4, .ref v5, .ref v6, .int 0, .int 0, .int 0, .int 0, .int 0, .int 0, .int 0, .int 0, .int 0]))] s.heap.size = A at hD ⊢
  have hA : ∀ q : Nat, s.heap.size ≤ q → A q := fun q h => by rw [← hAe]; exact Or.inr h
  have hS : va_S A s.heap s.heap [] := va_S.rf
  have hP : va_P (dC, dI) vwCl [(h0, .inr (10, [.ref v0, .ref v1, .ref v2, .ref v3, .ref v4, .ref v5, .ref v6, .int 0, .int 0, .int 0, .int 0, .int 0, .int 0, .int 0, .int 0, .int 0]))] s.heap := hP
  have hl := lv_entry ([.ref h0]) (n := 1) (Nat.le_of_ble_eq_true rfl)
  rw [lg_entry_eq]
  generalize (lg_sl ([.ref h0]) ++ List.replicate (1 - (lg_sl ([.ref h0])).length) Slot.unset).toArray = ls at hl ⊢
  have hl : lv_has ls 1 [(0, .ref h0)] := hl
  refine lv_aload_n hx hb dX10_clear_0 rfl (lv_at hl 0 rfl) ?_
  refine lv_iconst (v := 0) hx hb dX10_clear_1 (by decide) ?_
  refine va_put (D := (dC, dI)) (ci := 10) (v := .int 0) (ty := .int) (C := RX10) (T := TX10) (N := 16) hx hb hts (fun w h => List.mem_cons_of_mem _ (List.mem_append_right _ (List.mem_append_left _ h))) tyX10 tyX10_ok nmX10 hown hK hP hD hS 0 rfl rfl 7 (by decide) (hts (.fieldLink RX10 33 "SagMemory$Valley" "lines" "I") (wl_mem 0 rfl)) (fun _ h9 => h9) rfl (by decide +kernel) rfl rfl (Nat.le_of_ble_eq_true rfl) dX10_clear_2 (fun H locs hP hD hS => ?_)
  have hP : va_P (dC, dI) vwCl [(h0, .inr (10, [.ref v0, .ref v1, .ref v2, .ref v3, .ref v4, .ref v5, .ref v6, .int 0, .int 0, .int 0, .int 0, .int 0, .int 0, .int 0, .int 0, .int 0]))] H := hP
  have hD : va_D A [(h0, .inr (10, [.ref v0, .ref v1, .ref v2, .ref v3, .ref v4, .ref v5, .ref v6, .int 0, .int 0, .int 0, .int 0, .int 0, .int 0, .int 0, .int 0, .int 0]))] := hD
  refine lv_aload_n hx hb dX10_clear_5 rfl (lv_at hl 0 rfl) ?_
  refine lv_iconst (v := 0) hx hb dX10_clear_6 (by decide) ?_
  refine va_put (D := (dC, dI)) (ci := 10) (v := .int 0) (ty := .int) (C := RX10) (T := TX10) (N := 16) hx hb hts (fun w h => List.mem_cons_of_mem _ (List.mem_append_right _ (List.mem_append_left _ h))) tyX10 tyX10_ok nmX10 hown hK hP hD hS 0 rfl rfl 8 (by decide) (hts (.fieldLink RX10 37 "SagMemory$Valley" "law" "I") (wl_mem 1 rfl)) (fun _ h9 => h9) rfl (by decide +kernel) rfl rfl (Nat.le_of_ble_eq_true rfl) dX10_clear_7 (fun H locs hP hD hS => ?_)
  have hP : va_P (dC, dI) vwCl [(h0, .inr (10, [.ref v0, .ref v1, .ref v2, .ref v3, .ref v4, .ref v5, .ref v6, .int 0, .int 0, .int 0, .int 0, .int 0, .int 0, .int 0, .int 0, .int 0]))] H := hP
  have hD : va_D A [(h0, .inr (10, [.ref v0, .ref v1, .ref v2, .ref v3, .ref v4, .ref v5, .ref v6, .int 0, .int 0, .int 0, .int 0, .int 0, .int 0, .int 0, .int 0, .int 0]))] := hD
  refine lv_aload_n hx hb dX10_clear_10 rfl (lv_at hl 0 rfl) ?_
  refine lv_iconst (v := 0) hx hb dX10_clear_11 (by decide) ?_
  refine va_put (D := (dC, dI)) (ci := 10) (v := .int 0) (ty := .int) (C := RX10) (T := TX10) (N := 16) hx hb hts (fun w h => List.mem_cons_of_mem _ (List.mem_append_right _ (List.mem_append_left _ h))) tyX10 tyX10_ok nmX10 hown hK hP hD hS 0 rfl rfl 9 (by decide) (hts (.fieldLink RX10 40 "SagMemory$Valley" "frost" "I") (wl_mem 2 rfl)) (fun _ h9 => h9) rfl (by decide +kernel) rfl rfl (Nat.le_of_ble_eq_true rfl) dX10_clear_12 (fun H locs hP hD hS => ?_)
  have hP : va_P (dC, dI) vwCl [(h0, .inr (10, [.ref v0, .ref v1, .ref v2, .ref v3, .ref v4, .ref v5, .ref v6, .int 0, .int 0, .int 0, .int 0, .int 0, .int 0, .int 0, .int 0, .int 0]))] H := hP
  have hD : va_D A [(h0, .inr (10, [.ref v0, .ref v1, .ref v2, .ref v3, .ref v4, .ref v5, .ref v6, .int 0, .int 0, .int 0, .int 0, .int 0, .int 0, .int 0, .int 0, .int 0]))] := hD
  refine lv_aload_n hx hb dX10_clear_15 rfl (lv_at hl 0 rfl) ?_
  refine lv_iconst (v := 0) hx hb dX10_clear_16 (by decide) ?_
  refine va_put (D := (dC, dI)) (ci := 10) (v := .int 0) (ty := .int) (C := RX10) (T := TX10) (N := 16) hx hb hts (fun w h => List.mem_cons_of_mem _ (List.mem_append_right _ (List.mem_append_left _ h))) tyX10 tyX10_ok nmX10 hown hK hP hD hS 0 rfl rfl 10 (by decide) (hts (.fieldLink RX10 43 "SagMemory$Valley" "odds" "I") (wl_mem 3 rfl)) (fun _ h9 => h9) rfl (by decide +kernel) rfl rfl (Nat.le_of_ble_eq_true rfl) dX10_clear_17 (fun H locs hP hD hS => ?_)
  have hP : va_P (dC, dI) vwCl [(h0, .inr (10, [.ref v0, .ref v1, .ref v2, .ref v3, .ref v4, .ref v5, .ref v6, .int 0, .int 0, .int 0, .int 0, .int 0, .int 0, .int 0, .int 0, .int 0]))] H := hP
  have hD : va_D A [(h0, .inr (10, [.ref v0, .ref v1, .ref v2, .ref v3, .ref v4, .ref v5, .ref v6, .int 0, .int 0, .int 0, .int 0, .int 0, .int 0, .int 0, .int 0, .int 0]))] := hD
  refine lv_aload_n hx hb dX10_clear_20 rfl (lv_at hl 0 rfl) ?_
  refine lv_iconst (v := 0) hx hb dX10_clear_21 (by decide) ?_
  refine va_put (D := (dC, dI)) (ci := 10) (v := .int 0) (ty := .int) (C := RX10) (T := TX10) (N := 16) hx hb hts (fun w h => List.mem_cons_of_mem _ (List.mem_append_right _ (List.mem_append_left _ h))) tyX10 tyX10_ok nmX10 hown hK hP hD hS 0 rfl rfl 11 (by decide) (hts (.fieldLink RX10 46 "SagMemory$Valley" "bridges" "I") (wl_mem 4 rfl)) (fun _ h9 => h9) rfl (by decide +kernel) rfl rfl (Nat.le_of_ble_eq_true rfl) dX10_clear_22 (fun H locs hP hD hS => ?_)
  have hP : va_P (dC, dI) vwCl [(h0, .inr (10, [.ref v0, .ref v1, .ref v2, .ref v3, .ref v4, .ref v5, .ref v6, .int 0, .int 0, .int 0, .int 0, .int 0, .int 0, .int 0, .int 0, .int 0]))] H := hP
  have hD : va_D A [(h0, .inr (10, [.ref v0, .ref v1, .ref v2, .ref v3, .ref v4, .ref v5, .ref v6, .int 0, .int 0, .int 0, .int 0, .int 0, .int 0, .int 0, .int 0, .int 0]))] := hD
  refine lv_aload_n hx hb dX10_clear_25 rfl (lv_at hl 0 rfl) ?_
  refine lv_iconst (v := 0) hx hb dX10_clear_26 (by decide) ?_
  refine va_put (D := (dC, dI)) (ci := 10) (v := .int 0) (ty := .int) (C := RX10) (T := TX10) (N := 16) hx hb hts (fun w h => List.mem_cons_of_mem _ (List.mem_append_right _ (List.mem_append_left _ h))) tyX10 tyX10_ok nmX10 hown hK hP hD hS 0 rfl rfl 12 (by decide) (hts (.fieldLink RX10 49 "SagMemory$Valley" "carts" "I") (wl_mem 5 rfl)) (fun _ h9 => h9) rfl (by decide +kernel) rfl rfl (Nat.le_of_ble_eq_true rfl) dX10_clear_27 (fun H locs hP hD hS => ?_)
  have hP : va_P (dC, dI) vwCl [(h0, .inr (10, [.ref v0, .ref v1, .ref v2, .ref v3, .ref v4, .ref v5, .ref v6, .int 0, .int 0, .int 0, .int 0, .int 0, .int 0, .int 0, .int 0, .int 0]))] H := hP
  have hD : va_D A [(h0, .inr (10, [.ref v0, .ref v1, .ref v2, .ref v3, .ref v4, .ref v5, .ref v6, .int 0, .int 0, .int 0, .int 0, .int 0, .int 0, .int 0, .int 0, .int 0]))] := hD
  refine lv_aload_n hx hb dX10_clear_30 rfl (lv_at hl 0 rfl) ?_
  refine lv_iconst (v := 0) hx hb dX10_clear_31 (by decide) ?_
  refine va_put (D := (dC, dI)) (ci := 10) (v := .int 0) (ty := .int) (C := RX10) (T := TX10) (N := 16) hx hb hts (fun w h => List.mem_cons_of_mem _ (List.mem_append_right _ (List.mem_append_left _ h))) tyX10 tyX10_ok nmX10 hown hK hP hD hS 0 rfl rfl 13 (by decide) (hts (.fieldLink RX10 52 "SagMemory$Valley" "wards" "I") (wl_mem 6 rfl)) (fun _ h9 => h9) rfl (by decide +kernel) rfl rfl (Nat.le_of_ble_eq_true rfl) dX10_clear_32 (fun H locs hP hD hS => ?_)
  have hP : va_P (dC, dI) vwCl [(h0, .inr (10, [.ref v0, .ref v1, .ref v2, .ref v3, .ref v4, .ref v5, .ref v6, .int 0, .int 0, .int 0, .int 0, .int 0, .int 0, .int 0, .int 0, .int 0]))] H := hP
  have hD : va_D A [(h0, .inr (10, [.ref v0, .ref v1, .ref v2, .ref v3, .ref v4, .ref v5, .ref v6, .int 0, .int 0, .int 0, .int 0, .int 0, .int 0, .int 0, .int 0, .int 0]))] := hD
  refine lv_aload_n hx hb dX10_clear_35 rfl (lv_at hl 0 rfl) ?_
  refine lv_iconst (v := 0) hx hb dX10_clear_36 (by decide) ?_
  refine va_put (D := (dC, dI)) (ci := 10) (v := .int 0) (ty := .int) (C := RX10) (T := TX10) (N := 16) hx hb hts (fun w h => List.mem_cons_of_mem _ (List.mem_append_right _ (List.mem_append_left _ h))) tyX10 tyX10_ok nmX10 hown hK hP hD hS 0 rfl rfl 14 (by decide) (hts (.fieldLink RX10 55 "SagMemory$Valley" "frosts" "I") (wl_mem 7 rfl)) (fun _ h9 => h9) rfl (by decide +kernel) rfl rfl (Nat.le_of_ble_eq_true rfl) dX10_clear_37 (fun H locs hP hD hS => ?_)
  have hP : va_P (dC, dI) vwCl [(h0, .inr (10, [.ref v0, .ref v1, .ref v2, .ref v3, .ref v4, .ref v5, .ref v6, .int 0, .int 0, .int 0, .int 0, .int 0, .int 0, .int 0, .int 0, .int 0]))] H := hP
  have hD : va_D A [(h0, .inr (10, [.ref v0, .ref v1, .ref v2, .ref v3, .ref v4, .ref v5, .ref v6, .int 0, .int 0, .int 0, .int 0, .int 0, .int 0, .int 0, .int 0, .int 0]))] := hD
  refine lv_aload_n hx hb dX10_clear_40 rfl (lv_at hl 0 rfl) ?_
  refine lv_iconst (v := 0) hx hb dX10_clear_41 (by decide) ?_
  refine va_put (D := (dC, dI)) (ci := 10) (v := .int 0) (ty := .int) (C := RX10) (T := TX10) (N := 16) hx hb hts (fun w h => List.mem_cons_of_mem _ (List.mem_append_right _ (List.mem_append_left _ h))) tyX10 tyX10_ok nmX10 hown hK hP hD hS 0 rfl rfl 15 (by decide) (hts (.fieldLink RX10 58 "SagMemory$Valley" "cold" "I") (wl_mem 8 rfl)) (fun _ h9 => h9) rfl (by decide +kernel) rfl rfl (Nat.le_of_ble_eq_true rfl) dX10_clear_42 (fun H locs hP hD hS => ?_)
  have hP : va_P (dC, dI) vwCl [(h0, .inr (10, [.ref v0, .ref v1, .ref v2, .ref v3, .ref v4, .ref v5, .ref v6, .int 0, .int 0, .int 0, .int 0, .int 0, .int 0, .int 0, .int 0, .int 0]))] H := hP
  have hD : va_D A [(h0, .inr (10, [.ref v0, .ref v1, .ref v2, .ref v3, .ref v4, .ref v5, .ref v6, .int 0, .int 0, .int 0, .int 0, .int 0, .int 0, .int 0, .int 0, .int 0]))] := hD
  have hP9 := hP.sub (ws' := [(h0, .inr (10, [.ref v0, .ref v1, .ref v2, .ref v3, .ref v4, .ref v5, .ref v6, .int 0, .int 0, .int 0, .int 0, .int 0, .int 0, .int 0, .int 0, .int 0]))]) [0] rfl
  have hD9 := hD.sub (ws' := [(h0, .inr (10, [.ref v0, .ref v1, .ref v2, .ref v3, .ref v4, .ref v5, .ref v6, .int 0, .int 0, .int 0, .int 0, .int 0, .int 0, .int 0, .int 0, .int 0]))]) [0] (by decide) rfl
  have hK9 := hK.sub (tys' := []) [] rfl
  exact W.vret hx hb hr (fun t ht hW => ⟨⟨(), rfl, trivial, by rw [ht]; exact hP9, va_K.moved hW.alike hK9, hD9⟩, hS.F ht⟩) hS.2.2 dX10_clear_45
def wk_f_X10_take : List Cond := .code yX10_take cX10_take 2 none :: ([.fieldLink RX10 9 "SagMemory$Valley" "holds" "[I", .methodLink RX10 61 arraycopyName, .native arraycopyName, .static arraycopyName, .initialized "java/lang/System", .fieldLink RX10 15 "SagMemory$Valley" "tolls" "[I", .fieldLink RX10 18 "SagMemory$Valley" "loads" "[I", .fieldLink RX10 21 "SagMemory$Valley" "ways" "[I", .fieldLink RX10 24 "SagMemory$Valley" "wardBridges" "[I", .fieldLink RX10 27 "SagMemory$Valley" "wardOvers" "[I", .fieldLink RX10 30 "SagMemory$Valley" "wardTargets" "[I", .fieldLink RX10 33 "SagMemory$Valley" "lines" "I", .fieldLink RX10 37 "SagMemory$Valley" "law" "I", .fieldLink RX10 40 "SagMemory$Valley" "frost" "I", .fieldLink RX10 43 "SagMemory$Valley" "odds" "I", .fieldLink RX10 46 "SagMemory$Valley" "bridges" "I", .fieldLink RX10 49 "SagMemory$Valley" "carts" "I", .fieldLink RX10 52 "SagMemory$Valley" "wards" "I", .fieldLink RX10 55 "SagMemory$Valley" "frosts" "I", .fieldLink RX10 58 "SagMemory$Valley" "cold" "I"] ++ (wsX100 ++ []))
theorem wkg_f_X10_take : wk_f_X10_take.all goodWord = true := by decide +kernel
set_option maxHeartbeats 4000000 in
set_option maxRecDepth 100000 in
theorem f_X10_take (l : Launch) (dC : Nat → ClassId) (dI : Nat → Nat → Nat) (sz : Nat) (h0 : Nat) (h1 : Nat) (v0 : Nat) (v1 : Nat) (v2 : Nat) (v3 : Nat) (v4 : Nat) (v5 : Nat) (v6 : Nat) (k0 : ClassId) (k1 : ClassId) (k2 : ClassId) (k3 : ClassId) (k4 : ClassId) (k5 : ClassId) (k6 : ClassId) (f0 : Nat → Int32) (f1 : Nat → Int32) (f2 : Nat → Int32) (f3 : Nat → Int32) (f4 : Nat → Int32) (f5 : Nat → Int32) (f6 : Nat → Int32) (w0 : Nat) (w1 : Nat) (w2 : Nat) (w3 : Nat) (w4 : Nat) (w5 : Nat) (w6 : Nat) (l_0 : ClassId) (l_1 : ClassId) (l_2 : ClassId) (l_3 : ClassId) (l_4 : ClassId) (l_5 : ClassId) (l_6 : ClassId) (g0 : Nat → Int32) (g1 : Nat → Int32) (g2 : Nat → Int32) (g3 : Nat → Int32) (g4 : Nat → Int32) (g5 : Nat → Int32) (g6 : Nat → Int32) : Met l yX10_take wk_f_X10_take ({ frames := 1, cells := 0, slots := 0, locals := 80 }) (va_Pc [.ref h0, .ref h1] (fun U => U.heap.size = sz ∧ va_P (dC, dI) vwCl [(h0, .inr (10, [.ref v0, .ref v1, .ref v2, .ref v3, .ref v4, .ref v5, .ref v6, .int 0, .int 0, .int 0, .int 0, .int 0, .int 0, .int 0, .int 0, .int 0])), (v0, .inl (k0, 3, .inl f0)), (v1, .inl (k1, 3, .inl f1)), (v2, .inl (k2, 7, .inl f2)), (v3, .inl (k3, 7, .inl f3)), (v4, .inl (k4, 5, .inl f4)), (v5, .inl (k5, 5, .inl f5)), (v6, .inl (k6, 5, .inl f6)), (h1, .inr (10, [.ref w0, .ref w1, .ref w2, .ref w3, .ref w4, .ref w5, .ref w6, .int 0, .int 0, .int 0, .int 0, .int 0, .int 0, .int 0, .int 0, .int 0])), (w0, .inl (l_0, 3, .inl g0)), (w1, .inl (l_1, 3, .inl g1)), (w2, .inl (l_2, 7, .inl g2)), (w3, .inl (l_3, 7, .inl g3)), (w4, .inl (l_4, 5, .inl g4)), (w5, .inl (l_5, 5, .inl g5)), (w6, .inl (l_6, 5, .inl g6))] U.heap ∧ va_K (dC, dI) vwCl [(k0, .int), (k1, .int), (k2, .int), (k3, .int), (k4, .int), (k5, .int), (k6, .int), (l_0, .int), (l_1, .int), (l_2, .int), (l_3, .int), (l_4, .int), (l_5, .int), (l_6, .int)] U ∧ va_D (fun _ => True) [(h0, .inr (10, [.ref v0, .ref v1, .ref v2, .ref v3, .ref v4, .ref v5, .ref v6, .int 0, .int 0, .int 0, .int 0, .int 0, .int 0, .int 0, .int 0, .int 0])), (v0, .inl (k0, 3, .inl f0)), (v1, .inl (k1, 3, .inl f1)), (v2, .inl (k2, 7, .inl f2)), (v3, .inl (k3, 7, .inl f3)), (v4, .inl (k4, 5, .inl f4)), (v5, .inl (k5, 5, .inl f5)), (v6, .inl (k6, 5, .inl f6)), (h1, .inr (10, [.ref w0, .ref w1, .ref w2, .ref w3, .ref w4, .ref w5, .ref w6, .int 0, .int 0, .int 0, .int 0, .int 0, .int 0, .int 0, .int 0, .int 0])), (w0, .inl (l_0, 3, .inl g0)), (w1, .inl (l_1, 3, .inl g1)), (w2, .inl (l_2, 7, .inl g2)), (w3, .inl (l_3, 7, .inl g3)), (w4, .inl (l_4, 5, .inl g4)), (w5, .inl (l_5, 5, .inl g5)), (w6, .inl (l_6, 5, .inl g6))])) (va_Qv (fun _ : Unit => True) (fun (_ : Unit) (t : State) => ∃ (e0 : Nat → Int32) (e1 : Nat → Int32) (e2 : Nat → Int32) (e3 : Nat → Int32) (e4 : Nat → Int32) (e5 : Nat → Int32) (e6 : Nat → Int32), va_P (dC, dI) vwCl [(h0, .inr (10, [.ref v0, .ref v1, .ref v2, .ref v3, .ref v4, .ref v5, .ref v6, .int 0, .int 0, .int 0, .int 0, .int 0, .int 0, .int 0, .int 0, .int 0])), (v0, .inl (k0, 3, .inl e0)), (v1, .inl (k1, 3, .inl e1)), (v2, .inl (k2, 7, .inl e2)), (v3, .inl (k3, 7, .inl e3)), (v4, .inl (k4, 5, .inl e4)), (v5, .inl (k5, 5, .inl e5)), (v6, .inl (k6, 5, .inl e6)), (h1, .inr (10, [.ref w0, .ref w1, .ref w2, .ref w3, .ref w4, .ref w5, .ref w6, .int 0, .int 0, .int 0, .int 0, .int 0, .int 0, .int 0, .int 0, .int 0])), (w0, .inl (l_0, 3, .inl g0)), (w1, .inl (l_1, 3, .inl g1)), (w2, .inl (l_2, 7, .inl g2)), (w3, .inl (l_3, 7, .inl g3)), (w4, .inl (l_4, 5, .inl g4)), (w5, .inl (l_5, 5, .inl g5)), (w6, .inl (l_6, 5, .inl g6))] t.heap ∧ va_K (dC, dI) vwCl [(k0, .int), (k1, .int), (k2, .int), (k3, .int), (k4, .int), (k5, .int), (k6, .int), (l_0, .int), (l_1, .int), (l_2, .int), (l_3, .int), (l_4, .int), (l_5, .int), (l_6, .int)] t ∧ va_D (va_A [(h0, .inr (10, [.ref v0, .ref v1, .ref v2, .ref v3, .ref v4, .ref v5, .ref v6, .int 0, .int 0, .int 0, .int 0, .int 0, .int 0, .int 0, .int 0, .int 0])), (v0, .inl (k0, 3, .inl f0)), (v1, .inl (k1, 3, .inl f1)), (v2, .inl (k2, 7, .inl f2)), (v3, .inl (k3, 7, .inl f3)), (v4, .inl (k4, 5, .inl f4)), (v5, .inl (k5, 5, .inl f5)), (v6, .inl (k6, 5, .inl f6)), (h1, .inr (10, [.ref w0, .ref w1, .ref w2, .ref w3, .ref w4, .ref w5, .ref w6, .int 0, .int 0, .int 0, .int 0, .int 0, .int 0, .int 0, .int 0, .int 0])), (w0, .inl (l_0, 3, .inl g0)), (w1, .inl (l_1, 3, .inl g1)), (w2, .inl (l_2, 7, .inl g2)), (w3, .inl (l_3, 7, .inl g3)), (w4, .inl (l_4, 5, .inl g4)), (w5, .inl (l_5, 5, .inl g5)), (w6, .inl (l_6, 5, .inl g6))] sz) [(h0, .inr (10, [.ref v0, .ref v1, .ref v2, .ref v3, .ref v4, .ref v5, .ref v6, .int 0, .int 0, .int 0, .int 0, .int 0, .int 0, .int 0, .int 0, .int 0])), (v0, .inl (k0, 3, .inl e0)), (v1, .inl (k1, 3, .inl e1)), (v2, .inl (k2, 7, .inl e2)), (v3, .inl (k3, 7, .inl e3)), (v4, .inl (k4, 5, .inl e4)), (v5, .inl (k5, 5, .inl e5)), (v6, .inl (k6, 5, .inl e6)), (h1, .inr (10, [.ref w0, .ref w1, .ref w2, .ref w3, .ref w4, .ref w5, .ref w6, .int 0, .int 0, .int 0, .int 0, .int 0, .int 0, .int 0, .int 0, .int 0])), (w0, .inl (l_0, 3, .inl g0)), (w1, .inl (l_1, 3, .inl g1)), (w2, .inl (l_2, 7, .inl g2)), (w3, .inl (l_3, 7, .inl g3)), (w4, .inl (l_4, 5, .inl g4)), (w5, .inl (l_5, 5, .inl g5)), (w6, .inl (l_6, 5, .inl g6))]) (va_A [(h0, .inr (10, [.ref v0, .ref v1, .ref v2, .ref v3, .ref v4, .ref v5, .ref v6, .int 0, .int 0, .int 0, .int 0, .int 0, .int 0, .int 0, .int 0, .int 0])), (v0, .inl (k0, 3, .inl f0)), (v1, .inl (k1, 3, .inl f1)), (v2, .inl (k2, 7, .inl f2)), (v3, .inl (k3, 7, .inl f3)), (v4, .inl (k4, 5, .inl f4)), (v5, .inl (k5, 5, .inl f5)), (v6, .inl (k6, 5, .inl f6)), (h1, .inr (10, [.ref w0, .ref w1, .ref w2, .ref w3, .ref w4, .ref w5, .ref w6, .int 0, .int 0, .int 0, .int 0, .int 0, .int 0, .int 0, .int 0, .int 0])), (w0, .inl (l_0, 3, .inl g0)), (w1, .inl (l_1, 3, .inl g1)), (w2, .inl (l_2, 7, .inl g2)), (w3, .inl (l_3, 7, .inl g3)), (w4, .inl (l_4, 5, .inl g4)), (w5, .inl (l_5, 5, .inl g5)), (w6, .inl (l_6, 5, .inl g6))] sz)) 0 0 (va_A [(h0, .inr (10, [.ref v0, .ref v1, .ref v2, .ref v3, .ref v4, .ref v5, .ref v6, .int 0, .int 0, .int 0, .int 0, .int 0, .int 0, .int 0, .int 0, .int 0])), (v0, .inl (k0, 3, .inl f0)), (v1, .inl (k1, 3, .inl f1)), (v2, .inl (k2, 7, .inl f2)), (v3, .inl (k3, 7, .inl f3)), (v4, .inl (k4, 5, .inl f4)), (v5, .inl (k5, 5, .inl f5)), (v6, .inl (k6, 5, .inl f6)), (h1, .inr (10, [.ref w0, .ref w1, .ref w2, .ref w3, .ref w4, .ref w5, .ref w6, .int 0, .int 0, .int 0, .int 0, .int 0, .int 0, .int 0, .int 0, .int 0])), (w0, .inl (l_0, 3, .inl g0)), (w1, .inl (l_1, 3, .inl g1)), (w2, .inl (l_2, 7, .inl g2)), (w3, .inl (l_3, 7, .inl g3)), (w4, .inl (l_4, 5, .inl g4)), (w5, .inl (l_5, 5, .inl g5)), (w6, .inl (l_6, 5, .inl g6))] sz) := by
  refine Met.ofW (cc := cX10_take) (maxL := 2) (ret := none) (by decide) rfl ?_
  intro p e s m args below meth c s₁ B hml hv
  obtain ⟨rfl, hsz, hP, hK, hD0⟩ := hv
  have hx := B.exec
  have hb := B.bytes
  have hr := B.returns
  have hts := atoms_spec (ws := wk_f_X10_take) B.pre
  have hown : s.vm.findClass RX10 = some m.cls := findClass_of_methodNamed B.named
  have hlocks := B.notSynchronized
  subst hsz
  have hD := hD0.self (sz := s.heap.size)
  generalize hAe : va_A [(h0, .inr (10, [.ref v0, .ref v1, .ref v2, .ref v3, .ref v4, .ref v5, .ref v6, .int 0, .int 0, .int 0, .int 0, .int 0, .int 0, .int 0, .int 0, .int 0])), (v0, .inl (k0, 3, .inl f0)), (v1, .inl (k1, 3, .inl f1)), (v2, .inl (k2, 7, .inl f2)), (v3, .inl (k3, 7, .inl f3)), (v4, .inl (k4, 5, .inl f4)), (v5, .inl (k5, 5, .inl f5)), (v6, .inl (k6, 5, .inl f6)), (h1, .inr (10, [.ref w0, .ref w1, .ref w2, .ref w3, .ref w4, .ref w5, .ref w6, .int 0, .int 0, .int 0, .int 0, .int 0, .int 0, .int 0, .int 0, .int 0])), (w0, .inl (l_0, 3, .inl g0)), (w1, .inl (l_1, 3, .inl g1)), (w2, .inl (l_2, 7, .inl g2)), (w3, .inl (l_3, 7, .inl g3)), (w4, .inl (l_4, 5, .inl g4)), (w5, .inl (l_5, 5, .inl g5)), (w6, .inl (l_6, 5, .inl g6))] s.heap.size = A at hD ⊢
  have hA : ∀ q : Nat, s.heap.size ≤ q → A q := fun q h => by rw [← hAe]; exact Or.inr h
  have hS : va_S A s.heap s.heap [] := va_S.rf
  have hP : va_P (dC, dI) vwCl [(h0, .inr (10, [.ref v0, .ref v1, .ref v2, .ref v3, .ref v4, .ref v5, .ref v6, .int 0, .int 0, .int 0, .int 0, .int 0, .int 0, .int 0, .int 0, .int 0])), (v0, .inl (k0, 3, .inl f0)), (v1, .inl (k1, 3, .inl f1)), (v2, .inl (k2, 7, .inl f2)), (v3, .inl (k3, 7, .inl f3)), (v4, .inl (k4, 5, .inl f4)), (v5, .inl (k5, 5, .inl f5)), (v6, .inl (k6, 5, .inl f6)), (h1, .inr (10, [.ref w0, .ref w1, .ref w2, .ref w3, .ref w4, .ref w5, .ref w6, .int 0, .int 0, .int 0, .int 0, .int 0, .int 0, .int 0, .int 0, .int 0])), (w0, .inl (l_0, 3, .inl g0)), (w1, .inl (l_1, 3, .inl g1)), (w2, .inl (l_2, 7, .inl g2)), (w3, .inl (l_3, 7, .inl g3)), (w4, .inl (l_4, 5, .inl g4)), (w5, .inl (l_5, 5, .inl g5)), (w6, .inl (l_6, 5, .inl g6))] s.heap := hP
  have hl := lv_entry ([.ref h0, .ref h1]) (n := 2) (Nat.le_of_ble_eq_true rfl)
  rw [lg_entry_eq]
  generalize (lg_sl ([.ref h0, .ref h1]) ++ List.replicate (2 - (lg_sl ([.ref h0, .ref h1])).length) Slot.unset).toArray = ls at hl ⊢
  have hl : lv_has ls 2 [(0, .ref h0), (1, .ref h1)] := hl
  refine lv_aload_n hx hb dX10_take_0 rfl (lv_at hl 1 rfl) ?_
  refine va_get (D := (dC, dI)) (ci := 10) (v := .ref w0) (C := RX10) (T := TX10) (N := 16) hx hb hts (fun w h => List.mem_cons_of_mem _ (List.mem_append_right _ (List.mem_append_left _ h))) hown hK hP 8 rfl rfl 0 (by decide) (hts (.fieldLink RX10 9 "SagMemory$Valley" "holds" "[I") (wl_mem 0 rfl)) (fun _ h9 => h9) rfl dX10_take_1 ?_
  refine lv_iconst (v := 0) hx hb dX10_take_4 (by decide) ?_
  refine lv_aload_n hx hb dX10_take_5 rfl (lv_at hl 0 rfl) ?_
  refine va_get (D := (dC, dI)) (ci := 10) (v := .ref v0) (C := RX10) (T := TX10) (N := 16) hx hb hts (fun w h => List.mem_cons_of_mem _ (List.mem_append_right _ (List.mem_append_left _ h))) hown hK hP 0 rfl rfl 0 (by decide) (hts (.fieldLink RX10 9 "SagMemory$Valley" "holds" "[I") (wl_mem 0 rfl)) (fun _ h9 => h9) rfl dX10_take_6 ?_
  refine lv_iconst (v := 0) hx hb dX10_take_9 (by decide) ?_
  refine lv_iconst (v := 3) hx hb dX10_take_10 (by decide) ?_
  refine va_copyi (ty := .int) hx hb (by rw [hml]; exact hl.1.symm) hown (hts (.methodLink RX10 61 arraycopyName) (wl_mem 1 rfl)) (hts (.native arraycopyName) (wl_mem 2 rfl)) (hts (.static arraycopyName) (wl_mem 3 rfl)) (hts (.initialized "java/lang/System") (wl_mem 4 rfl)) hK hP hD hS 9 1 7 0 rfl rfl rfl rfl rfl (by decide) (by decide) (by decide) (by decide) (by decide) (fun _ _ => rfl) (Nat.le_of_ble_eq_true rfl) (Nat.le_of_ble_eq_true rfl) dX10_take_11 (fun H locs hP hD hS => ?_)
  obtain ⟨fz1, hP, hD⟩ : ∃ fz1 : Nat → Int32, va_P (dC, dI) vwCl [(h0, .inr (10, [.ref v0, .ref v1, .ref v2, .ref v3, .ref v4, .ref v5, .ref v6, .int 0, .int 0, .int 0, .int 0, .int 0, .int 0, .int 0, .int 0, .int 0])), (v0, .inl (k0, 3, .inl fz1)), (v1, .inl (k1, 3, .inl f1)), (v2, .inl (k2, 7, .inl f2)), (v3, .inl (k3, 7, .inl f3)), (v4, .inl (k4, 5, .inl f4)), (v5, .inl (k5, 5, .inl f5)), (v6, .inl (k6, 5, .inl f6)), (h1, .inr (10, [.ref w0, .ref w1, .ref w2, .ref w3, .ref w4, .ref w5, .ref w6, .int 0, .int 0, .int 0, .int 0, .int 0, .int 0, .int 0, .int 0, .int 0])), (w0, .inl (l_0, 3, .inl g0)), (w1, .inl (l_1, 3, .inl g1)), (w2, .inl (l_2, 7, .inl g2)), (w3, .inl (l_3, 7, .inl g3)), (w4, .inl (l_4, 5, .inl g4)), (w5, .inl (l_5, 5, .inl g5)), (w6, .inl (l_6, 5, .inl g6))] H ∧ va_D A [(h0, .inr (10, [.ref v0, .ref v1, .ref v2, .ref v3, .ref v4, .ref v5, .ref v6, .int 0, .int 0, .int 0, .int 0, .int 0, .int 0, .int 0, .int 0, .int 0])), (v0, .inl (k0, 3, .inl fz1)), (v1, .inl (k1, 3, .inl f1)), (v2, .inl (k2, 7, .inl f2)), (v3, .inl (k3, 7, .inl f3)), (v4, .inl (k4, 5, .inl f4)), (v5, .inl (k5, 5, .inl f5)), (v6, .inl (k6, 5, .inl f6)), (h1, .inr (10, [.ref w0, .ref w1, .ref w2, .ref w3, .ref w4, .ref w5, .ref w6, .int 0, .int 0, .int 0, .int 0, .int 0, .int 0, .int 0, .int 0, .int 0])), (w0, .inl (l_0, 3, .inl g0)), (w1, .inl (l_1, 3, .inl g1)), (w2, .inl (l_2, 7, .inl g2)), (w3, .inl (l_3, 7, .inl g3)), (w4, .inl (l_4, 5, .inl g4)), (w5, .inl (l_5, 5, .inl g5)), (w6, .inl (l_6, 5, .inl g6))] := ⟨_, hP, hD⟩
  refine lv_aload_n hx hb dX10_take_14 rfl (lv_at hl 1 rfl) ?_
  refine va_get (D := (dC, dI)) (ci := 10) (v := .ref w1) (C := RX10) (T := TX10) (N := 16) hx hb hts (fun w h => List.mem_cons_of_mem _ (List.mem_append_right _ (List.mem_append_left _ h))) hown hK hP 8 rfl rfl 1 (by decide) (hts (.fieldLink RX10 15 "SagMemory$Valley" "tolls" "[I") (wl_mem 5 rfl)) (fun _ h9 => h9) rfl dX10_take_15 ?_
  refine lv_iconst (v := 0) hx hb dX10_take_18 (by decide) ?_
  refine lv_aload_n hx hb dX10_take_19 rfl (lv_at hl 0 rfl) ?_
  refine va_get (D := (dC, dI)) (ci := 10) (v := .ref v1) (C := RX10) (T := TX10) (N := 16) hx hb hts (fun w h => List.mem_cons_of_mem _ (List.mem_append_right _ (List.mem_append_left _ h))) hown hK hP 0 rfl rfl 1 (by decide) (hts (.fieldLink RX10 15 "SagMemory$Valley" "tolls" "[I") (wl_mem 5 rfl)) (fun _ h9 => h9) rfl dX10_take_20 ?_
  refine lv_iconst (v := 0) hx hb dX10_take_23 (by decide) ?_
  refine lv_iconst (v := 3) hx hb dX10_take_24 (by decide) ?_
  refine va_copyi (ty := .int) hx hb (by rw [hml]; exact hl.1.symm) hown (hts (.methodLink RX10 61 arraycopyName) (wl_mem 1 rfl)) (hts (.native arraycopyName) (wl_mem 2 rfl)) (hts (.static arraycopyName) (wl_mem 3 rfl)) (hts (.initialized "java/lang/System") (wl_mem 4 rfl)) hK hP hD hS 10 2 8 1 rfl rfl rfl rfl rfl (by decide) (by decide) (by decide) (by decide) (by decide) (fun _ _ => rfl) (Nat.le_of_ble_eq_true rfl) (Nat.le_of_ble_eq_true rfl) dX10_take_25 (fun H locs hP hD hS => ?_)
  obtain ⟨fz2, hP, hD⟩ : ∃ fz2 : Nat → Int32, va_P (dC, dI) vwCl [(h0, .inr (10, [.ref v0, .ref v1, .ref v2, .ref v3, .ref v4, .ref v5, .ref v6, .int 0, .int 0, .int 0, .int 0, .int 0, .int 0, .int 0, .int 0, .int 0])), (v0, .inl (k0, 3, .inl fz1)), (v1, .inl (k1, 3, .inl fz2)), (v2, .inl (k2, 7, .inl f2)), (v3, .inl (k3, 7, .inl f3)), (v4, .inl (k4, 5, .inl f4)), (v5, .inl (k5, 5, .inl f5)), (v6, .inl (k6, 5, .inl f6)), (h1, .inr (10, [.ref w0, .ref w1, .ref w2, .ref w3, .ref w4, .ref w5, .ref w6, .int 0, .int 0, .int 0, .int 0, .int 0, .int 0, .int 0, .int 0, .int 0])), (w0, .inl (l_0, 3, .inl g0)), (w1, .inl (l_1, 3, .inl g1)), (w2, .inl (l_2, 7, .inl g2)), (w3, .inl (l_3, 7, .inl g3)), (w4, .inl (l_4, 5, .inl g4)), (w5, .inl (l_5, 5, .inl g5)), (w6, .inl (l_6, 5, .inl g6))] H ∧ va_D A [(h0, .inr (10, [.ref v0, .ref v1, .ref v2, .ref v3, .ref v4, .ref v5, .ref v6, .int 0, .int 0, .int 0, .int 0, .int 0, .int 0, .int 0, .int 0, .int 0])), (v0, .inl (k0, 3, .inl fz1)), (v1, .inl (k1, 3, .inl fz2)), (v2, .inl (k2, 7, .inl f2)), (v3, .inl (k3, 7, .inl f3)), (v4, .inl (k4, 5, .inl f4)), (v5, .inl (k5, 5, .inl f5)), (v6, .inl (k6, 5, .inl f6)), (h1, .inr (10, [.ref w0, .ref w1, .ref w2, .ref w3, .ref w4, .ref w5, .ref w6, .int 0, .int 0, .int 0, .int 0, .int 0, .int 0, .int 0, .int 0, .int 0])), (w0, .inl (l_0, 3, .inl g0)), (w1, .inl (l_1, 3, .inl g1)), (w2, .inl (l_2, 7, .inl g2)), (w3, .inl (l_3, 7, .inl g3)), (w4, .inl (l_4, 5, .inl g4)), (w5, .inl (l_5, 5, .inl g5)), (w6, .inl (l_6, 5, .inl g6))] := ⟨_, hP, hD⟩
  refine lv_aload_n hx hb dX10_take_28 rfl (lv_at hl 1 rfl) ?_
  refine va_get (D := (dC, dI)) (ci := 10) (v := .ref w2) (C := RX10) (T := TX10) (N := 16) hx hb hts (fun w h => List.mem_cons_of_mem _ (List.mem_append_right _ (List.mem_append_left _ h))) hown hK hP 8 rfl rfl 2 (by decide) (hts (.fieldLink RX10 18 "SagMemory$Valley" "loads" "[I") (wl_mem 6 rfl)) (fun _ h9 => h9) rfl dX10_take_29 ?_
  refine lv_iconst (v := 0) hx hb dX10_take_32 (by decide) ?_
  refine lv_aload_n hx hb dX10_take_33 rfl (lv_at hl 0 rfl) ?_
  refine va_get (D := (dC, dI)) (ci := 10) (v := .ref v2) (C := RX10) (T := TX10) (N := 16) hx hb hts (fun w h => List.mem_cons_of_mem _ (List.mem_append_right _ (List.mem_append_left _ h))) hown hK hP 0 rfl rfl 2 (by decide) (hts (.fieldLink RX10 18 "SagMemory$Valley" "loads" "[I") (wl_mem 6 rfl)) (fun _ h9 => h9) rfl dX10_take_34 ?_
  refine lv_iconst (v := 0) hx hb dX10_take_37 (by decide) ?_
  refine lv_bipush (v := 7) hx hb dX10_take_38 (by decide) ?_
  refine va_copyi (ty := .int) hx hb (by rw [hml]; exact hl.1.symm) hown (hts (.methodLink RX10 61 arraycopyName) (wl_mem 1 rfl)) (hts (.native arraycopyName) (wl_mem 2 rfl)) (hts (.static arraycopyName) (wl_mem 3 rfl)) (hts (.initialized "java/lang/System") (wl_mem 4 rfl)) hK hP hD hS 11 3 9 2 rfl rfl rfl rfl rfl (by decide) (by decide) (by decide) (by decide) (by decide) (fun _ _ => rfl) (Nat.le_of_ble_eq_true rfl) (Nat.le_of_ble_eq_true rfl) dX10_take_40 (fun H locs hP hD hS => ?_)
  obtain ⟨fz3, hP, hD⟩ : ∃ fz3 : Nat → Int32, va_P (dC, dI) vwCl [(h0, .inr (10, [.ref v0, .ref v1, .ref v2, .ref v3, .ref v4, .ref v5, .ref v6, .int 0, .int 0, .int 0, .int 0, .int 0, .int 0, .int 0, .int 0, .int 0])), (v0, .inl (k0, 3, .inl fz1)), (v1, .inl (k1, 3, .inl fz2)), (v2, .inl (k2, 7, .inl fz3)), (v3, .inl (k3, 7, .inl f3)), (v4, .inl (k4, 5, .inl f4)), (v5, .inl (k5, 5, .inl f5)), (v6, .inl (k6, 5, .inl f6)), (h1, .inr (10, [.ref w0, .ref w1, .ref w2, .ref w3, .ref w4, .ref w5, .ref w6, .int 0, .int 0, .int 0, .int 0, .int 0, .int 0, .int 0, .int 0, .int 0])), (w0, .inl (l_0, 3, .inl g0)), (w1, .inl (l_1, 3, .inl g1)), (w2, .inl (l_2, 7, .inl g2)), (w3, .inl (l_3, 7, .inl g3)), (w4, .inl (l_4, 5, .inl g4)), (w5, .inl (l_5, 5, .inl g5)), (w6, .inl (l_6, 5, .inl g6))] H ∧ va_D A [(h0, .inr (10, [.ref v0, .ref v1, .ref v2, .ref v3, .ref v4, .ref v5, .ref v6, .int 0, .int 0, .int 0, .int 0, .int 0, .int 0, .int 0, .int 0, .int 0])), (v0, .inl (k0, 3, .inl fz1)), (v1, .inl (k1, 3, .inl fz2)), (v2, .inl (k2, 7, .inl fz3)), (v3, .inl (k3, 7, .inl f3)), (v4, .inl (k4, 5, .inl f4)), (v5, .inl (k5, 5, .inl f5)), (v6, .inl (k6, 5, .inl f6)), (h1, .inr (10, [.ref w0, .ref w1, .ref w2, .ref w3, .ref w4, .ref w5, .ref w6, .int 0, .int 0, .int 0, .int 0, .int 0, .int 0, .int 0, .int 0, .int 0])), (w0, .inl (l_0, 3, .inl g0)), (w1, .inl (l_1, 3, .inl g1)), (w2, .inl (l_2, 7, .inl g2)), (w3, .inl (l_3, 7, .inl g3)), (w4, .inl (l_4, 5, .inl g4)), (w5, .inl (l_5, 5, .inl g5)), (w6, .inl (l_6, 5, .inl g6))] := ⟨_, hP, hD⟩
  refine lv_aload_n hx hb dX10_take_43 rfl (lv_at hl 1 rfl) ?_
  refine va_get (D := (dC, dI)) (ci := 10) (v := .ref w3) (C := RX10) (T := TX10) (N := 16) hx hb hts (fun w h => List.mem_cons_of_mem _ (List.mem_append_right _ (List.mem_append_left _ h))) hown hK hP 8 rfl rfl 3 (by decide) (hts (.fieldLink RX10 21 "SagMemory$Valley" "ways" "[I") (wl_mem 7 rfl)) (fun _ h9 => h9) rfl dX10_take_44 ?_
  refine lv_iconst (v := 0) hx hb dX10_take_47 (by decide) ?_
  refine lv_aload_n hx hb dX10_take_48 rfl (lv_at hl 0 rfl) ?_
  refine va_get (D := (dC, dI)) (ci := 10) (v := .ref v3) (C := RX10) (T := TX10) (N := 16) hx hb hts (fun w h => List.mem_cons_of_mem _ (List.mem_append_right _ (List.mem_append_left _ h))) hown hK hP 0 rfl rfl 3 (by decide) (hts (.fieldLink RX10 21 "SagMemory$Valley" "ways" "[I") (wl_mem 7 rfl)) (fun _ h9 => h9) rfl dX10_take_49 ?_
  refine lv_iconst (v := 0) hx hb dX10_take_52 (by decide) ?_
  refine lv_bipush (v := 7) hx hb dX10_take_53 (by decide) ?_
  refine va_copyi (ty := .int) hx hb (by rw [hml]; exact hl.1.symm) hown (hts (.methodLink RX10 61 arraycopyName) (wl_mem 1 rfl)) (hts (.native arraycopyName) (wl_mem 2 rfl)) (hts (.static arraycopyName) (wl_mem 3 rfl)) (hts (.initialized "java/lang/System") (wl_mem 4 rfl)) hK hP hD hS 12 4 10 3 rfl rfl rfl rfl rfl (by decide) (by decide) (by decide) (by decide) (by decide) (fun _ _ => rfl) (Nat.le_of_ble_eq_true rfl) (Nat.le_of_ble_eq_true rfl) dX10_take_55 (fun H locs hP hD hS => ?_)
  obtain ⟨fz4, hP, hD⟩ : ∃ fz4 : Nat → Int32, va_P (dC, dI) vwCl [(h0, .inr (10, [.ref v0, .ref v1, .ref v2, .ref v3, .ref v4, .ref v5, .ref v6, .int 0, .int 0, .int 0, .int 0, .int 0, .int 0, .int 0, .int 0, .int 0])), (v0, .inl (k0, 3, .inl fz1)), (v1, .inl (k1, 3, .inl fz2)), (v2, .inl (k2, 7, .inl fz3)), (v3, .inl (k3, 7, .inl fz4)), (v4, .inl (k4, 5, .inl f4)), (v5, .inl (k5, 5, .inl f5)), (v6, .inl (k6, 5, .inl f6)), (h1, .inr (10, [.ref w0, .ref w1, .ref w2, .ref w3, .ref w4, .ref w5, .ref w6, .int 0, .int 0, .int 0, .int 0, .int 0, .int 0, .int 0, .int 0, .int 0])), (w0, .inl (l_0, 3, .inl g0)), (w1, .inl (l_1, 3, .inl g1)), (w2, .inl (l_2, 7, .inl g2)), (w3, .inl (l_3, 7, .inl g3)), (w4, .inl (l_4, 5, .inl g4)), (w5, .inl (l_5, 5, .inl g5)), (w6, .inl (l_6, 5, .inl g6))] H ∧ va_D A [(h0, .inr (10, [.ref v0, .ref v1, .ref v2, .ref v3, .ref v4, .ref v5, .ref v6, .int 0, .int 0, .int 0, .int 0, .int 0, .int 0, .int 0, .int 0, .int 0])), (v0, .inl (k0, 3, .inl fz1)), (v1, .inl (k1, 3, .inl fz2)), (v2, .inl (k2, 7, .inl fz3)), (v3, .inl (k3, 7, .inl fz4)), (v4, .inl (k4, 5, .inl f4)), (v5, .inl (k5, 5, .inl f5)), (v6, .inl (k6, 5, .inl f6)), (h1, .inr (10, [.ref w0, .ref w1, .ref w2, .ref w3, .ref w4, .ref w5, .ref w6, .int 0, .int 0, .int 0, .int 0, .int 0, .int 0, .int 0, .int 0, .int 0])), (w0, .inl (l_0, 3, .inl g0)), (w1, .inl (l_1, 3, .inl g1)), (w2, .inl (l_2, 7, .inl g2)), (w3, .inl (l_3, 7, .inl g3)), (w4, .inl (l_4, 5, .inl g4)), (w5, .inl (l_5, 5, .inl g5)), (w6, .inl (l_6, 5, .inl g6))] := ⟨_, hP, hD⟩
  refine lv_aload_n hx hb dX10_take_58 rfl (lv_at hl 1 rfl) ?_
  refine va_get (D := (dC, dI)) (ci := 10) (v := .ref w4) (C := RX10) (T := TX10) (N := 16) hx hb hts (fun w h => List.mem_cons_of_mem _ (List.mem_append_right _ (List.mem_append_left _ h))) hown hK hP 8 rfl rfl 4 (by decide) (hts (.fieldLink RX10 24 "SagMemory$Valley" "wardBridges" "[I") (wl_mem 8 rfl)) (fun _ h9 => h9) rfl dX10_take_59 ?_
  refine lv_iconst (v := 0) hx hb dX10_take_62 (by decide) ?_
  refine lv_aload_n hx hb dX10_take_63 rfl (lv_at hl 0 rfl) ?_
  refine va_get (D := (dC, dI)) (ci := 10) (v := .ref v4) (C := RX10) (T := TX10) (N := 16) hx hb hts (fun w h => List.mem_cons_of_mem _ (List.mem_append_right _ (List.mem_append_left _ h))) hown hK hP 0 rfl rfl 4 (by decide) (hts (.fieldLink RX10 24 "SagMemory$Valley" "wardBridges" "[I") (wl_mem 8 rfl)) (fun _ h9 => h9) rfl dX10_take_64 ?_
  refine lv_iconst (v := 0) hx hb dX10_take_67 (by decide) ?_
  refine lv_iconst (v := 5) hx hb dX10_take_68 (by decide) ?_
  refine va_copyi (ty := .int) hx hb (by rw [hml]; exact hl.1.symm) hown (hts (.methodLink RX10 61 arraycopyName) (wl_mem 1 rfl)) (hts (.native arraycopyName) (wl_mem 2 rfl)) (hts (.static arraycopyName) (wl_mem 3 rfl)) (hts (.initialized "java/lang/System") (wl_mem 4 rfl)) hK hP hD hS 13 5 11 4 rfl rfl rfl rfl rfl (by decide) (by decide) (by decide) (by decide) (by decide) (fun _ _ => rfl) (Nat.le_of_ble_eq_true rfl) (Nat.le_of_ble_eq_true rfl) dX10_take_69 (fun H locs hP hD hS => ?_)
  obtain ⟨fz5, hP, hD⟩ : ∃ fz5 : Nat → Int32, va_P (dC, dI) vwCl [(h0, .inr (10, [.ref v0, .ref v1, .ref v2, .ref v3, .ref v4, .ref v5, .ref v6, .int 0, .int 0, .int 0, .int 0, .int 0, .int 0, .int 0, .int 0, .int 0])), (v0, .inl (k0, 3, .inl fz1)), (v1, .inl (k1, 3, .inl fz2)), (v2, .inl (k2, 7, .inl fz3)), (v3, .inl (k3, 7, .inl fz4)), (v4, .inl (k4, 5, .inl fz5)), (v5, .inl (k5, 5, .inl f5)), (v6, .inl (k6, 5, .inl f6)), (h1, .inr (10, [.ref w0, .ref w1, .ref w2, .ref w3, .ref w4, .ref w5, .ref w6, .int 0, .int 0, .int 0, .int 0, .int 0, .int 0, .int 0, .int 0, .int 0])), (w0, .inl (l_0, 3, .inl g0)), (w1, .inl (l_1, 3, .inl g1)), (w2, .inl (l_2, 7, .inl g2)), (w3, .inl (l_3, 7, .inl g3)), (w4, .inl (l_4, 5, .inl g4)), (w5, .inl (l_5, 5, .inl g5)), (w6, .inl (l_6, 5, .inl g6))] H ∧ va_D A [(h0, .inr (10, [.ref v0, .ref v1, .ref v2, .ref v3, .ref v4, .ref v5, .ref v6, .int 0, .int 0, .int 0, .int 0, .int 0, .int 0, .int 0, .int 0, .int 0])), (v0, .inl (k0, 3, .inl fz1)), (v1, .inl (k1, 3, .inl fz2)), (v2, .inl (k2, 7, .inl fz3)), (v3, .inl (k3, 7, .inl fz4)), (v4, .inl (k4, 5, .inl fz5)), (v5, .inl (k5, 5, .inl f5)), (v6, .inl (k6, 5, .inl f6)), (h1, .inr (10, [.ref w0, .ref w1, .ref w2, .ref w3, .ref w4, .ref w5, .ref w6, .int 0, .int 0, .int 0, .int 0, .int 0, .int 0, .int 0, .int 0, .int 0])), (w0, .inl (l_0, 3, .inl g0)), (w1, .inl (l_1, 3, .inl g1)), (w2, .inl (l_2, 7, .inl g2)), (w3, .inl (l_3, 7, .inl g3)), (w4, .inl (l_4, 5, .inl g4)), (w5, .inl (l_5, 5, .inl g5)), (w6, .inl (l_6, 5, .inl g6))] := ⟨_, hP, hD⟩
  refine lv_aload_n hx hb dX10_take_72 rfl (lv_at hl 1 rfl) ?_
  refine va_get (D := (dC, dI)) (ci := 10) (v := .ref w5) (C := RX10) (T := TX10) (N := 16) hx hb hts (fun w h => List.mem_cons_of_mem _ (List.mem_append_right _ (List.mem_append_left _ h))) hown hK hP 8 rfl rfl 5 (by decide) (hts (.fieldLink RX10 27 "SagMemory$Valley" "wardOvers" "[I") (wl_mem 9 rfl)) (fun _ h9 => h9) rfl dX10_take_73 ?_
  refine lv_iconst (v := 0) hx hb dX10_take_76 (by decide) ?_
  refine lv_aload_n hx hb dX10_take_77 rfl (lv_at hl 0 rfl) ?_
  refine va_get (D := (dC, dI)) (ci := 10) (v := .ref v5) (C := RX10) (T := TX10) (N := 16) hx hb hts (fun w h => List.mem_cons_of_mem _ (List.mem_append_right _ (List.mem_append_left _ h))) hown hK hP 0 rfl rfl 5 (by decide) (hts (.fieldLink RX10 27 "SagMemory$Valley" "wardOvers" "[I") (wl_mem 9 rfl)) (fun _ h9 => h9) rfl dX10_take_78 ?_
  refine lv_iconst (v := 0) hx hb dX10_take_81 (by decide) ?_
  refine lv_iconst (v := 5) hx hb dX10_take_82 (by decide) ?_
  refine va_copyi (ty := .int) hx hb (by rw [hml]; exact hl.1.symm) hown (hts (.methodLink RX10 61 arraycopyName) (wl_mem 1 rfl)) (hts (.native arraycopyName) (wl_mem 2 rfl)) (hts (.static arraycopyName) (wl_mem 3 rfl)) (hts (.initialized "java/lang/System") (wl_mem 4 rfl)) hK hP hD hS 14 6 12 5 rfl rfl rfl rfl rfl (by decide) (by decide) (by decide) (by decide) (by decide) (fun _ _ => rfl) (Nat.le_of_ble_eq_true rfl) (Nat.le_of_ble_eq_true rfl) dX10_take_83 (fun H locs hP hD hS => ?_)
  obtain ⟨fz6, hP, hD⟩ : ∃ fz6 : Nat → Int32, va_P (dC, dI) vwCl [(h0, .inr (10, [.ref v0, .ref v1, .ref v2, .ref v3, .ref v4, .ref v5, .ref v6, .int 0, .int 0, .int 0, .int 0, .int 0, .int 0, .int 0, .int 0, .int 0])), (v0, .inl (k0, 3, .inl fz1)), (v1, .inl (k1, 3, .inl fz2)), (v2, .inl (k2, 7, .inl fz3)), (v3, .inl (k3, 7, .inl fz4)), (v4, .inl (k4, 5, .inl fz5)), (v5, .inl (k5, 5, .inl fz6)), (v6, .inl (k6, 5, .inl f6)), (h1, .inr (10, [.ref w0, .ref w1, .ref w2, .ref w3, .ref w4, .ref w5, .ref w6, .int 0, .int 0, .int 0, .int 0, .int 0, .int 0, .int 0, .int 0, .int 0])), (w0, .inl (l_0, 3, .inl g0)), (w1, .inl (l_1, 3, .inl g1)), (w2, .inl (l_2, 7, .inl g2)), (w3, .inl (l_3, 7, .inl g3)), (w4, .inl (l_4, 5, .inl g4)), (w5, .inl (l_5, 5, .inl g5)), (w6, .inl (l_6, 5, .inl g6))] H ∧ va_D A [(h0, .inr (10, [.ref v0, .ref v1, .ref v2, .ref v3, .ref v4, .ref v5, .ref v6, .int 0, .int 0, .int 0, .int 0, .int 0, .int 0, .int 0, .int 0, .int 0])), (v0, .inl (k0, 3, .inl fz1)), (v1, .inl (k1, 3, .inl fz2)), (v2, .inl (k2, 7, .inl fz3)), (v3, .inl (k3, 7, .inl fz4)), (v4, .inl (k4, 5, .inl fz5)), (v5, .inl (k5, 5, .inl fz6)), (v6, .inl (k6, 5, .inl f6)), (h1, .inr (10, [.ref w0, .ref w1, .ref w2, .ref w3, .ref w4, .ref w5, .ref w6, .int 0, .int 0, .int 0, .int 0, .int 0, .int 0, .int 0, .int 0, .int 0])), (w0, .inl (l_0, 3, .inl g0)), (w1, .inl (l_1, 3, .inl g1)), (w2, .inl (l_2, 7, .inl g2)), (w3, .inl (l_3, 7, .inl g3)), (w4, .inl (l_4, 5, .inl g4)), (w5, .inl (l_5, 5, .inl g5)), (w6, .inl (l_6, 5, .inl g6))] := ⟨_, hP, hD⟩
  refine lv_aload_n hx hb dX10_take_86 rfl (lv_at hl 1 rfl) ?_
  refine va_get (D := (dC, dI)) (ci := 10) (v := .ref w6) (C := RX10) (T := TX10) (N := 16) hx hb hts (fun w h => List.mem_cons_of_mem _ (List.mem_append_right _ (List.mem_append_left _ h))) hown hK hP 8 rfl rfl 6 (by decide) (hts (.fieldLink RX10 30 "SagMemory$Valley" "wardTargets" "[I") (wl_mem 10 rfl)) (fun _ h9 => h9) rfl dX10_take_87 ?_
  refine lv_iconst (v := 0) hx hb dX10_take_90 (by decide) ?_
  refine lv_aload_n hx hb dX10_take_91 rfl (lv_at hl 0 rfl) ?_
  refine va_get (D := (dC, dI)) (ci := 10) (v := .ref v6) (C := RX10) (T := TX10) (N := 16) hx hb hts (fun w h => List.mem_cons_of_mem _ (List.mem_append_right _ (List.mem_append_left _ h))) hown hK hP 0 rfl rfl 6 (by decide) (hts (.fieldLink RX10 30 "SagMemory$Valley" "wardTargets" "[I") (wl_mem 10 rfl)) (fun _ h9 => h9) rfl dX10_take_92 ?_
  refine lv_iconst (v := 0) hx hb dX10_take_95 (by decide) ?_
  refine lv_iconst (v := 5) hx hb dX10_take_96 (by decide) ?_
  refine va_copyi (ty := .int) hx hb (by rw [hml]; exact hl.1.symm) hown (hts (.methodLink RX10 61 arraycopyName) (wl_mem 1 rfl)) (hts (.native arraycopyName) (wl_mem 2 rfl)) (hts (.static arraycopyName) (wl_mem 3 rfl)) (hts (.initialized "java/lang/System") (wl_mem 4 rfl)) hK hP hD hS 15 7 13 6 rfl rfl rfl rfl rfl (by decide) (by decide) (by decide) (by decide) (by decide) (fun _ _ => rfl) (Nat.le_of_ble_eq_true rfl) (Nat.le_of_ble_eq_true rfl) dX10_take_97 (fun H locs hP hD hS => ?_)
  obtain ⟨fz7, hP, hD⟩ : ∃ fz7 : Nat → Int32, va_P (dC, dI) vwCl [(h0, .inr (10, [.ref v0, .ref v1, .ref v2, .ref v3, .ref v4, .ref v5, .ref v6, .int 0, .int 0, .int 0, .int 0, .int 0, .int 0, .int 0, .int 0, .int 0])), (v0, .inl (k0, 3, .inl fz1)), (v1, .inl (k1, 3, .inl fz2)), (v2, .inl (k2, 7, .inl fz3)), (v3, .inl (k3, 7, .inl fz4)), (v4, .inl (k4, 5, .inl fz5)), (v5, .inl (k5, 5, .inl fz6)), (v6, .inl (k6, 5, .inl fz7)), (h1, .inr (10, [.ref w0, .ref w1, .ref w2, .ref w3, .ref w4, .ref w5, .ref w6, .int 0, .int 0, .int 0, .int 0, .int 0, .int 0, .int 0, .int 0, .int 0])), (w0, .inl (l_0, 3, .inl g0)), (w1, .inl (l_1, 3, .inl g1)), (w2, .inl (l_2, 7, .inl g2)), (w3, .inl (l_3, 7, .inl g3)), (w4, .inl (l_4, 5, .inl g4)), (w5, .inl (l_5, 5, .inl g5)), (w6, .inl (l_6, 5, .inl g6))] H ∧ va_D A [(h0, .inr (10, [.ref v0, .ref v1, .ref v2, .ref v3, .ref v4, .ref v5, .ref v6, .int 0, .int 0, .int 0, .int 0, .int 0, .int 0, .int 0, .int 0, .int 0])), (v0, .inl (k0, 3, .inl fz1)), (v1, .inl (k1, 3, .inl fz2)), (v2, .inl (k2, 7, .inl fz3)), (v3, .inl (k3, 7, .inl fz4)), (v4, .inl (k4, 5, .inl fz5)), (v5, .inl (k5, 5, .inl fz6)), (v6, .inl (k6, 5, .inl fz7)), (h1, .inr (10, [.ref w0, .ref w1, .ref w2, .ref w3, .ref w4, .ref w5, .ref w6, .int 0, .int 0, .int 0, .int 0, .int 0, .int 0, .int 0, .int 0, .int 0])), (w0, .inl (l_0, 3, .inl g0)), (w1, .inl (l_1, 3, .inl g1)), (w2, .inl (l_2, 7, .inl g2)), (w3, .inl (l_3, 7, .inl g3)), (w4, .inl (l_4, 5, .inl g4)), (w5, .inl (l_5, 5, .inl g5)), (w6, .inl (l_6, 5, .inl g6))] := ⟨_, hP, hD⟩
  refine lv_aload_n hx hb dX10_take_100 rfl (lv_at hl 0 rfl) ?_
  refine lv_aload_n hx hb dX10_take_101 rfl (lv_at hl 1 rfl) ?_
  refine va_get (D := (dC, dI)) (ci := 10) (v := .int 0) (C := RX10) (T := TX10) (N := 16) hx hb hts (fun w h => List.mem_cons_of_mem _ (List.mem_append_right _ (List.mem_append_left _ h))) hown hK hP 8 rfl rfl 7 (by decide) (hts (.fieldLink RX10 33 "SagMemory$Valley" "lines" "I") (wl_mem 11 rfl)) (fun _ h9 => h9) rfl dX10_take_102 ?_
  refine va_put (D := (dC, dI)) (ci := 10) (v := .int 0) (ty := .int) (C := RX10) (T := TX10) (N := 16) hx hb hts (fun w h => List.mem_cons_of_mem _ (List.mem_append_right _ (List.mem_append_left _ h))) tyX10 tyX10_ok nmX10 hown hK hP hD hS 0 rfl rfl 7 (by decide) (hts (.fieldLink RX10 33 "SagMemory$Valley" "lines" "I") (wl_mem 11 rfl)) (fun _ h9 => h9) rfl (by decide +kernel) rfl rfl (Nat.le_of_ble_eq_true rfl) dX10_take_105 (fun H locs hP hD hS => ?_)
  have hP : va_P (dC, dI) vwCl [(h0, .inr (10, [.ref v0, .ref v1, .ref v2, .ref v3, .ref v4, .ref v5, .ref v6, .int 0, .int 0, .int 0, .int 0, .int 0, .int 0, .int 0, .int 0, .int 0])), (v0, .inl (k0, 3, .inl fz1)), (v1, .inl (k1, 3, .inl fz2)), (v2, .inl (k2, 7, .inl fz3)), (v3, .inl (k3, 7, .inl fz4)), (v4, .inl (k4, 5, .inl fz5)), (v5, .inl (k5, 5, .inl fz6)), (v6, .inl (k6, 5, .inl fz7)), (h1, .inr (10, [.ref w0, .ref w1, .ref w2, .ref w3, .ref w4, .ref w5, .ref w6, .int 0, .int 0, .int 0, .int 0, .int 0, .int 0, .int 0, .int 0, .int 0])), (w0, .inl (l_0, 3, .inl g0)), (w1, .inl (l_1, 3, .inl g1)), (w2, .inl (l_2, 7, .inl g2)), (w3, .inl (l_3, 7, .inl g3)), (w4, .inl (l_4, 5, .inl g4)), (w5, .inl (l_5, 5, .inl g5)), (w6, .inl (l_6, 5, .inl g6))] H := hP
  have hD : va_D A [(h0, .inr (10, [.ref v0, .ref v1, .ref v2, .ref v3, .ref v4, .ref v5, .ref v6, .int 0, .int 0, .int 0, .int 0, .int 0, .int 0, .int 0, .int 0, .int 0])), (v0, .inl (k0, 3, .inl fz1)), (v1, .inl (k1, 3, .inl fz2)), (v2, .inl (k2, 7, .inl fz3)), (v3, .inl (k3, 7, .inl fz4)), (v4, .inl (k4, 5, .inl fz5)), (v5, .inl (k5, 5, .inl fz6)), (v6, .inl (k6, 5, .inl fz7)), (h1, .inr (10, [.ref w0, .ref w1, .ref w2, .ref w3, .ref w4, .ref w5, .ref w6, .int 0, .int 0, .int 0, .int 0, .int 0, .int 0, .int 0, .int 0, .int 0])), (w0, .inl (l_0, 3, .inl g0)), (w1, .inl (l_1, 3, .inl g1)), (w2, .inl (l_2, 7, .inl g2)), (w3, .inl (l_3, 7, .inl g3)), (w4, .inl (l_4, 5, .inl g4)), (w5, .inl (l_5, 5, .inl g5)), (w6, .inl (l_6, 5, .inl g6))] := hD
  refine lv_aload_n hx hb dX10_take_108 rfl (lv_at hl 0 rfl) ?_
  refine lv_aload_n hx hb dX10_take_109 rfl (lv_at hl 1 rfl) ?_
  refine va_get (D := (dC, dI)) (ci := 10) (v := .int 0) (C := RX10) (T := TX10) (N := 16) hx hb hts (fun w h => List.mem_cons_of_mem _ (List.mem_append_right _ (List.mem_append_left _ h))) hown hK hP 8 rfl rfl 8 (by decide) (hts (.fieldLink RX10 37 "SagMemory$Valley" "law" "I") (wl_mem 12 rfl)) (fun _ h9 => h9) rfl dX10_take_110 ?_
  refine va_put (D := (dC, dI)) (ci := 10) (v := .int 0) (ty := .int) (C := RX10) (T := TX10) (N := 16) hx hb hts (fun w h => List.mem_cons_of_mem _ (List.mem_append_right _ (List.mem_append_left _ h))) tyX10 tyX10_ok nmX10 hown hK hP hD hS 0 rfl rfl 8 (by decide) (hts (.fieldLink RX10 37 "SagMemory$Valley" "law" "I") (wl_mem 12 rfl)) (fun _ h9 => h9) rfl (by decide +kernel) rfl rfl (Nat.le_of_ble_eq_true rfl) dX10_take_113 (fun H locs hP hD hS => ?_)
  have hP : va_P (dC, dI) vwCl [(h0, .inr (10, [.ref v0, .ref v1, .ref v2, .ref v3, .ref v4, .ref v5, .ref v6, .int 0, .int 0, .int 0, .int 0, .int 0, .int 0, .int 0, .int 0, .int 0])), (v0, .inl (k0, 3, .inl fz1)), (v1, .inl (k1, 3, .inl fz2)), (v2, .inl (k2, 7, .inl fz3)), (v3, .inl (k3, 7, .inl fz4)), (v4, .inl (k4, 5, .inl fz5)), (v5, .inl (k5, 5, .inl fz6)), (v6, .inl (k6, 5, .inl fz7)), (h1, .inr (10, [.ref w0, .ref w1, .ref w2, .ref w3, .ref w4, .ref w5, .ref w6, .int 0, .int 0, .int 0, .int 0, .int 0, .int 0, .int 0, .int 0, .int 0])), (w0, .inl (l_0, 3, .inl g0)), (w1, .inl (l_1, 3, .inl g1)), (w2, .inl (l_2, 7, .inl g2)), (w3, .inl (l_3, 7, .inl g3)), (w4, .inl (l_4, 5, .inl g4)), (w5, .inl (l_5, 5, .inl g5)), (w6, .inl (l_6, 5, .inl g6))] H := hP
  have hD : va_D A [(h0, .inr (10, [.ref v0, .ref v1, .ref v2, .ref v3, .ref v4, .ref v5, .ref v6, .int 0, .int 0, .int 0, .int 0, .int 0, .int 0, .int 0, .int 0, .int 0])), (v0, .inl (k0, 3, .inl fz1)), (v1, .inl (k1, 3, .inl fz2)), (v2, .inl (k2, 7, .inl fz3)), (v3, .inl (k3, 7, .inl fz4)), (v4, .inl (k4, 5, .inl fz5)), (v5, .inl (k5, 5, .inl fz6)), (v6, .inl (k6, 5, .inl fz7)), (h1, .inr (10, [.ref w0, .ref w1, .ref w2, .ref w3, .ref w4, .ref w5, .ref w6, .int 0, .int 0, .int 0, .int 0, .int 0, .int 0, .int 0, .int 0, .int 0])), (w0, .inl (l_0, 3, .inl g0)), (w1, .inl (l_1, 3, .inl g1)), (w2, .inl (l_2, 7, .inl g2)), (w3, .inl (l_3, 7, .inl g3)), (w4, .inl (l_4, 5, .inl g4)), (w5, .inl (l_5, 5, .inl g5)), (w6, .inl (l_6, 5, .inl g6))] := hD
  refine lv_aload_n hx hb dX10_take_116 rfl (lv_at hl 0 rfl) ?_
  refine lv_aload_n hx hb dX10_take_117 rfl (lv_at hl 1 rfl) ?_
  refine va_get (D := (dC, dI)) (ci := 10) (v := .int 0) (C := RX10) (T := TX10) (N := 16) hx hb hts (fun w h => List.mem_cons_of_mem _ (List.mem_append_right _ (List.mem_append_left _ h))) hown hK hP 8 rfl rfl 9 (by decide) (hts (.fieldLink RX10 40 "SagMemory$Valley" "frost" "I") (wl_mem 13 rfl)) (fun _ h9 => h9) rfl dX10_take_118 ?_
  refine va_put (D := (dC, dI)) (ci := 10) (v := .int 0) (ty := .int) (C := RX10) (T := TX10) (N := 16) hx hb hts (fun w h => List.mem_cons_of_mem _ (List.mem_append_right _ (List.mem_append_left _ h))) tyX10 tyX10_ok nmX10 hown hK hP hD hS 0 rfl rfl 9 (by decide) (hts (.fieldLink RX10 40 "SagMemory$Valley" "frost" "I") (wl_mem 13 rfl)) (fun _ h9 => h9) rfl (by decide +kernel) rfl rfl (Nat.le_of_ble_eq_true rfl) dX10_take_121 (fun H locs hP hD hS => ?_)
  have hP : va_P (dC, dI) vwCl [(h0, .inr (10, [.ref v0, .ref v1, .ref v2, .ref v3, .ref v4, .ref v5, .ref v6, .int 0, .int 0, .int 0, .int 0, .int 0, .int 0, .int 0, .int 0, .int 0])), (v0, .inl (k0, 3, .inl fz1)), (v1, .inl (k1, 3, .inl fz2)), (v2, .inl (k2, 7, .inl fz3)), (v3, .inl (k3, 7, .inl fz4)), (v4, .inl (k4, 5, .inl fz5)), (v5, .inl (k5, 5, .inl fz6)), (v6, .inl (k6, 5, .inl fz7)), (h1, .inr (10, [.ref w0, .ref w1, .ref w2, .ref w3, .ref w4, .ref w5, .ref w6, .int 0, .int 0, .int 0, .int 0, .int 0, .int 0, .int 0, .int 0, .int 0])), (w0, .inl (l_0, 3, .inl g0)), (w1, .inl (l_1, 3, .inl g1)), (w2, .inl (l_2, 7, .inl g2)), (w3, .inl (l_3, 7, .inl g3)), (w4, .inl (l_4, 5, .inl g4)), (w5, .inl (l_5, 5, .inl g5)), (w6, .inl (l_6, 5, .inl g6))] H := hP
  have hD : va_D A [(h0, .inr (10, [.ref v0, .ref v1, .ref v2, .ref v3, .ref v4, .ref v5, .ref v6, .int 0, .int 0, .int 0, .int 0, .int 0, .int 0, .int 0, .int 0, .int 0])), (v0, .inl (k0, 3, .inl fz1)), (v1, .inl (k1, 3, .inl fz2)), (v2, .inl (k2, 7, .inl fz3)), (v3, .inl (k3, 7, .inl fz4)), (v4, .inl (k4, 5, .inl fz5)), (v5, .inl (k5, 5, .inl fz6)), (v6, .inl (k6, 5, .inl fz7)), (h1, .inr (10, [.ref w0, .ref w1, .ref w2, .ref w3, .ref w4, .ref w5, .ref w6, .int 0, .int 0, .int 0, .int 0, .int 0, .int 0, .int 0, .int 0, .int 0])), (w0, .inl (l_0, 3, .inl g0)), (w1, .inl (l_1, 3, .inl g1)), (w2, .inl (l_2, 7, .inl g2)), (w3, .inl (l_3, 7, .inl g3)), (w4, .inl (l_4, 5, .inl g4)), (w5, .inl (l_5, 5, .inl g5)), (w6, .inl (l_6, 5, .inl g6))] := hD
  refine lv_aload_n hx hb dX10_take_124 rfl (lv_at hl 0 rfl) ?_
  refine lv_aload_n hx hb dX10_take_125 rfl (lv_at hl 1 rfl) ?_
  refine va_get (D := (dC, dI)) (ci := 10) (v := .int 0) (C := RX10) (T := TX10) (N := 16) hx hb hts (fun w h => List.mem_cons_of_mem _ (List.mem_append_right _ (List.mem_append_left _ h))) hown hK hP 8 rfl rfl 10 (by decide) (hts (.fieldLink RX10 43 "SagMemory$Valley" "odds" "I") (wl_mem 14 rfl)) (fun _ h9 => h9) rfl dX10_take_126 ?_
  refine va_put (D := (dC, dI)) (ci := 10) (v := .int 0) (ty := .int) (C := RX10) (T := TX10) (N := 16) hx hb hts (fun w h => List.mem_cons_of_mem _ (List.mem_append_right _ (List.mem_append_left _ h))) tyX10 tyX10_ok nmX10 hown hK hP hD hS 0 rfl rfl 10 (by decide) (hts (.fieldLink RX10 43 "SagMemory$Valley" "odds" "I") (wl_mem 14 rfl)) (fun _ h9 => h9) rfl (by decide +kernel) rfl rfl (Nat.le_of_ble_eq_true rfl) dX10_take_129 (fun H locs hP hD hS => ?_)
  have hP : va_P (dC, dI) vwCl [(h0, .inr (10, [.ref v0, .ref v1, .ref v2, .ref v3, .ref v4, .ref v5, .ref v6, .int 0, .int 0, .int 0, .int 0, .int 0, .int 0, .int 0, .int 0, .int 0])), (v0, .inl (k0, 3, .inl fz1)), (v1, .inl (k1, 3, .inl fz2)), (v2, .inl (k2, 7, .inl fz3)), (v3, .inl (k3, 7, .inl fz4)), (v4, .inl (k4, 5, .inl fz5)), (v5, .inl (k5, 5, .inl fz6)), (v6, .inl (k6, 5, .inl fz7)), (h1, .inr (10, [.ref w0, .ref w1, .ref w2, .ref w3, .ref w4, .ref w5, .ref w6, .int 0, .int 0, .int 0, .int 0, .int 0, .int 0, .int 0, .int 0, .int 0])), (w0, .inl (l_0, 3, .inl g0)), (w1, .inl (l_1, 3, .inl g1)), (w2, .inl (l_2, 7, .inl g2)), (w3, .inl (l_3, 7, .inl g3)), (w4, .inl (l_4, 5, .inl g4)), (w5, .inl (l_5, 5, .inl g5)), (w6, .inl (l_6, 5, .inl g6))] H := hP
  have hD : va_D A [(h0, .inr (10, [.ref v0, .ref v1, .ref v2, .ref v3, .ref v4, .ref v5, .ref v6, .int 0, .int 0, .int 0, .int 0, .int 0, .int 0, .int 0, .int 0, .int 0])), (v0, .inl (k0, 3, .inl fz1)), (v1, .inl (k1, 3, .inl fz2)), (v2, .inl (k2, 7, .inl fz3)), (v3, .inl (k3, 7, .inl fz4)), (v4, .inl (k4, 5, .inl fz5)), (v5, .inl (k5, 5, .inl fz6)), (v6, .inl (k6, 5, .inl fz7)), (h1, .inr (10, [.ref w0, .ref w1, .ref w2, .ref w3, .ref w4, .ref w5, .ref w6, .int 0, .int 0, .int 0, .int 0, .int 0, .int 0, .int 0, .int 0, .int 0])), (w0, .inl (l_0, 3, .inl g0)), (w1, .inl (l_1, 3, .inl g1)), (w2, .inl (l_2, 7, .inl g2)), (w3, .inl (l_3, 7, .inl g3)), (w4, .inl (l_4, 5, .inl g4)), (w5, .inl (l_5, 5, .inl g5)), (w6, .inl (l_6, 5, .inl g6))] := hD
  refine lv_aload_n hx hb dX10_take_132 rfl (lv_at hl 0 rfl) ?_
  refine lv_aload_n hx hb dX10_take_133 rfl (lv_at hl 1 rfl) ?_
  refine va_get (D := (dC, dI)) (ci := 10) (v := .int 0) (C := RX10) (T := TX10) (N := 16) hx hb hts (fun w h => List.mem_cons_of_mem _ (List.mem_append_right _ (List.mem_append_left _ h))) hown hK hP 8 rfl rfl 11 (by decide) (hts (.fieldLink RX10 46 "SagMemory$Valley" "bridges" "I") (wl_mem 15 rfl)) (fun _ h9 => h9) rfl dX10_take_134 ?_
  refine va_put (D := (dC, dI)) (ci := 10) (v := .int 0) (ty := .int) (C := RX10) (T := TX10) (N := 16) hx hb hts (fun w h => List.mem_cons_of_mem _ (List.mem_append_right _ (List.mem_append_left _ h))) tyX10 tyX10_ok nmX10 hown hK hP hD hS 0 rfl rfl 11 (by decide) (hts (.fieldLink RX10 46 "SagMemory$Valley" "bridges" "I") (wl_mem 15 rfl)) (fun _ h9 => h9) rfl (by decide +kernel) rfl rfl (Nat.le_of_ble_eq_true rfl) dX10_take_137 (fun H locs hP hD hS => ?_)
  have hP : va_P (dC, dI) vwCl [(h0, .inr (10, [.ref v0, .ref v1, .ref v2, .ref v3, .ref v4, .ref v5, .ref v6, .int 0, .int 0, .int 0, .int 0, .int 0, .int 0, .int 0, .int 0, .int 0])), (v0, .inl (k0, 3, .inl fz1)), (v1, .inl (k1, 3, .inl fz2)), (v2, .inl (k2, 7, .inl fz3)), (v3, .inl (k3, 7, .inl fz4)), (v4, .inl (k4, 5, .inl fz5)), (v5, .inl (k5, 5, .inl fz6)), (v6, .inl (k6, 5, .inl fz7)), (h1, .inr (10, [.ref w0, .ref w1, .ref w2, .ref w3, .ref w4, .ref w5, .ref w6, .int 0, .int 0, .int 0, .int 0, .int 0, .int 0, .int 0, .int 0, .int 0])), (w0, .inl (l_0, 3, .inl g0)), (w1, .inl (l_1, 3, .inl g1)), (w2, .inl (l_2, 7, .inl g2)), (w3, .inl (l_3, 7, .inl g3)), (w4, .inl (l_4, 5, .inl g4)), (w5, .inl (l_5, 5, .inl g5)), (w6, .inl (l_6, 5, .inl g6))] H := hP
  have hD : va_D A [(h0, .inr (10, [.ref v0, .ref v1, .ref v2, .ref v3, .ref v4, .ref v5, .ref v6, .int 0, .int 0, .int 0, .int 0, .int 0, .int 0, .int 0, .int 0, .int 0])), (v0, .inl (k0, 3, .inl fz1)), (v1, .inl (k1, 3, .inl fz2)), (v2, .inl (k2, 7, .inl fz3)), (v3, .inl (k3, 7, .inl fz4)), (v4, .inl (k4, 5, .inl fz5)), (v5, .inl (k5, 5, .inl fz6)), (v6, .inl (k6, 5, .inl fz7)), (h1, .inr (10, [.ref w0, .ref w1, .ref w2, .ref w3, .ref w4, .ref w5, .ref w6, .int 0, .int 0, .int 0, .int 0, .int 0, .int 0, .int 0, .int 0, .int 0])), (w0, .inl (l_0, 3, .inl g0)), (w1, .inl (l_1, 3, .inl g1)), (w2, .inl (l_2, 7, .inl g2)), (w3, .inl (l_3, 7, .inl g3)), (w4, .inl (l_4, 5, .inl g4)), (w5, .inl (l_5, 5, .inl g5)), (w6, .inl (l_6, 5, .inl g6))] := hD
  refine lv_aload_n hx hb dX10_take_140 rfl (lv_at hl 0 rfl) ?_
  refine lv_aload_n hx hb dX10_take_141 rfl (lv_at hl 1 rfl) ?_
  refine va_get (D := (dC, dI)) (ci := 10) (v := .int 0) (C := RX10) (T := TX10) (N := 16) hx hb hts (fun w h => List.mem_cons_of_mem _ (List.mem_append_right _ (List.mem_append_left _ h))) hown hK hP 8 rfl rfl 12 (by decide) (hts (.fieldLink RX10 49 "SagMemory$Valley" "carts" "I") (wl_mem 16 rfl)) (fun _ h9 => h9) rfl dX10_take_142 ?_
  refine va_put (D := (dC, dI)) (ci := 10) (v := .int 0) (ty := .int) (C := RX10) (T := TX10) (N := 16) hx hb hts (fun w h => List.mem_cons_of_mem _ (List.mem_append_right _ (List.mem_append_left _ h))) tyX10 tyX10_ok nmX10 hown hK hP hD hS 0 rfl rfl 12 (by decide) (hts (.fieldLink RX10 49 "SagMemory$Valley" "carts" "I") (wl_mem 16 rfl)) (fun _ h9 => h9) rfl (by decide +kernel) rfl rfl (Nat.le_of_ble_eq_true rfl) dX10_take_145 (fun H locs hP hD hS => ?_)
  have hP : va_P (dC, dI) vwCl [(h0, .inr (10, [.ref v0, .ref v1, .ref v2, .ref v3, .ref v4, .ref v5, .ref v6, .int 0, .int 0, .int 0, .int 0, .int 0, .int 0, .int 0, .int 0, .int 0])), (v0, .inl (k0, 3, .inl fz1)), (v1, .inl (k1, 3, .inl fz2)), (v2, .inl (k2, 7, .inl fz3)), (v3, .inl (k3, 7, .inl fz4)), (v4, .inl (k4, 5, .inl fz5)), (v5, .inl (k5, 5, .inl fz6)), (v6, .inl (k6, 5, .inl fz7)), (h1, .inr (10, [.ref w0, .ref w1, .ref w2, .ref w3, .ref w4, .ref w5, .ref w6, .int 0, .int 0, .int 0, .int 0, .int 0, .int 0, .int 0, .int 0, .int 0])), (w0, .inl (l_0, 3, .inl g0)), (w1, .inl (l_1, 3, .inl g1)), (w2, .inl (l_2, 7, .inl g2)), (w3, .inl (l_3, 7, .inl g3)), (w4, .inl (l_4, 5, .inl g4)), (w5, .inl (l_5, 5, .inl g5)), (w6, .inl (l_6, 5, .inl g6))] H := hP
  have hD : va_D A [(h0, .inr (10, [.ref v0, .ref v1, .ref v2, .ref v3, .ref v4, .ref v5, .ref v6, .int 0, .int 0, .int 0, .int 0, .int 0, .int 0, .int 0, .int 0, .int 0])), (v0, .inl (k0, 3, .inl fz1)), (v1, .inl (k1, 3, .inl fz2)), (v2, .inl (k2, 7, .inl fz3)), (v3, .inl (k3, 7, .inl fz4)), (v4, .inl (k4, 5, .inl fz5)), (v5, .inl (k5, 5, .inl fz6)), (v6, .inl (k6, 5, .inl fz7)), (h1, .inr (10, [.ref w0, .ref w1, .ref w2, .ref w3, .ref w4, .ref w5, .ref w6, .int 0, .int 0, .int 0, .int 0, .int 0, .int 0, .int 0, .int 0, .int 0])), (w0, .inl (l_0, 3, .inl g0)), (w1, .inl (l_1, 3, .inl g1)), (w2, .inl (l_2, 7, .inl g2)), (w3, .inl (l_3, 7, .inl g3)), (w4, .inl (l_4, 5, .inl g4)), (w5, .inl (l_5, 5, .inl g5)), (w6, .inl (l_6, 5, .inl g6))] := hD
  refine lv_aload_n hx hb dX10_take_148 rfl (lv_at hl 0 rfl) ?_
  refine lv_aload_n hx hb dX10_take_149 rfl (lv_at hl 1 rfl) ?_
  refine va_get (D := (dC, dI)) (ci := 10) (v := .int 0) (C := RX10) (T := TX10) (N := 16) hx hb hts (fun w h => List.mem_cons_of_mem _ (List.mem_append_right _ (List.mem_append_left _ h))) hown hK hP 8 rfl rfl 13 (by decide) (hts (.fieldLink RX10 52 "SagMemory$Valley" "wards" "I") (wl_mem 17 rfl)) (fun _ h9 => h9) rfl dX10_take_150 ?_
  refine va_put (D := (dC, dI)) (ci := 10) (v := .int 0) (ty := .int) (C := RX10) (T := TX10) (N := 16) hx hb hts (fun w h => List.mem_cons_of_mem _ (List.mem_append_right _ (List.mem_append_left _ h))) tyX10 tyX10_ok nmX10 hown hK hP hD hS 0 rfl rfl 13 (by decide) (hts (.fieldLink RX10 52 "SagMemory$Valley" "wards" "I") (wl_mem 17 rfl)) (fun _ h9 => h9) rfl (by decide +kernel) rfl rfl (Nat.le_of_ble_eq_true rfl) dX10_take_153 (fun H locs hP hD hS => ?_)
  have hP : va_P (dC, dI) vwCl [(h0, .inr (10, [.ref v0, .ref v1, .ref v2, .ref v3, .ref v4, .ref v5, .ref v6, .int 0, .int 0, .int 0, .int 0, .int 0, .int 0, .int 0, .int 0, .int 0])), (v0, .inl (k0, 3, .inl fz1)), (v1, .inl (k1, 3, .inl fz2)), (v2, .inl (k2, 7, .inl fz3)), (v3, .inl (k3, 7, .inl fz4)), (v4, .inl (k4, 5, .inl fz5)), (v5, .inl (k5, 5, .inl fz6)), (v6, .inl (k6, 5, .inl fz7)), (h1, .inr (10, [.ref w0, .ref w1, .ref w2, .ref w3, .ref w4, .ref w5, .ref w6, .int 0, .int 0, .int 0, .int 0, .int 0, .int 0, .int 0, .int 0, .int 0])), (w0, .inl (l_0, 3, .inl g0)), (w1, .inl (l_1, 3, .inl g1)), (w2, .inl (l_2, 7, .inl g2)), (w3, .inl (l_3, 7, .inl g3)), (w4, .inl (l_4, 5, .inl g4)), (w5, .inl (l_5, 5, .inl g5)), (w6, .inl (l_6, 5, .inl g6))] H := hP
  have hD : va_D A [(h0, .inr (10, [.ref v0, .ref v1, .ref v2, .ref v3, .ref v4, .ref v5, .ref v6, .int 0, .int 0, .int 0, .int 0, .int 0, .int 0, .int 0, .int 0, .int 0])), (v0, .inl (k0, 3, .inl fz1)), (v1, .inl (k1, 3, .inl fz2)), (v2, .inl (k2, 7, .inl fz3)), (v3, .inl (k3, 7, .inl fz4)), (v4, .inl (k4, 5, .inl fz5)), (v5, .inl (k5, 5, .inl fz6)), (v6, .inl (k6, 5, .inl fz7)), (h1, .inr (10, [.ref w0, .ref w1, .ref w2, .ref w3, .ref w4, .ref w5, .ref w6, .int 0, .int 0, .int 0, .int 0, .int 0, .int 0, .int 0, .int 0, .int 0])), (w0, .inl (l_0, 3, .inl g0)), (w1, .inl (l_1, 3, .inl g1)), (w2, .inl (l_2, 7, .inl g2)), (w3, .inl (l_3, 7, .inl g3)), (w4, .inl (l_4, 5, .inl g4)), (w5, .inl (l_5, 5, .inl g5)), (w6, .inl (l_6, 5, .inl g6))] := hD
  refine lv_aload_n hx hb dX10_take_156 rfl (lv_at hl 0 rfl) ?_
  refine lv_aload_n hx hb dX10_take_157 rfl (lv_at hl 1 rfl) ?_
  refine va_get (D := (dC, dI)) (ci := 10) (v := .int 0) (C := RX10) (T := TX10) (N := 16) hx hb hts (fun w h => List.mem_cons_of_mem _ (List.mem_append_right _ (List.mem_append_left _ h))) hown hK hP 8 rfl rfl 14 (by decide) (hts (.fieldLink RX10 55 "SagMemory$Valley" "frosts" "I") (wl_mem 18 rfl)) (fun _ h9 => h9) rfl dX10_take_158 ?_
  refine va_put (D := (dC, dI)) (ci := 10) (v := .int 0) (ty := .int) (C := RX10) (T := TX10) (N := 16) hx hb hts (fun w h => List.mem_cons_of_mem _ (List.mem_append_right _ (List.mem_append_left _ h))) tyX10 tyX10_ok nmX10 hown hK hP hD hS 0 rfl rfl 14 (by decide) (hts (.fieldLink RX10 55 "SagMemory$Valley" "frosts" "I") (wl_mem 18 rfl)) (fun _ h9 => h9) rfl (by decide +kernel) rfl rfl (Nat.le_of_ble_eq_true rfl) dX10_take_161 (fun H locs hP hD hS => ?_)
  have hP : va_P (dC, dI) vwCl [(h0, .inr (10, [.ref v0, .ref v1, .ref v2, .ref v3, .ref v4, .ref v5, .ref v6, .int 0, .int 0, .int 0, .int 0, .int 0, .int 0, .int 0, .int 0, .int 0])), (v0, .inl (k0, 3, .inl fz1)), (v1, .inl (k1, 3, .inl fz2)), (v2, .inl (k2, 7, .inl fz3)), (v3, .inl (k3, 7, .inl fz4)), (v4, .inl (k4, 5, .inl fz5)), (v5, .inl (k5, 5, .inl fz6)), (v6, .inl (k6, 5, .inl fz7)), (h1, .inr (10, [.ref w0, .ref w1, .ref w2, .ref w3, .ref w4, .ref w5, .ref w6, .int 0, .int 0, .int 0, .int 0, .int 0, .int 0, .int 0, .int 0, .int 0])), (w0, .inl (l_0, 3, .inl g0)), (w1, .inl (l_1, 3, .inl g1)), (w2, .inl (l_2, 7, .inl g2)), (w3, .inl (l_3, 7, .inl g3)), (w4, .inl (l_4, 5, .inl g4)), (w5, .inl (l_5, 5, .inl g5)), (w6, .inl (l_6, 5, .inl g6))] H := hP
  have hD : va_D A [(h0, .inr (10, [.ref v0, .ref v1, .ref v2, .ref v3, .ref v4, .ref v5, .ref v6, .int 0, .int 0, .int 0, .int 0, .int 0, .int 0, .int 0, .int 0, .int 0])), (v0, .inl (k0, 3, .inl fz1)), (v1, .inl (k1, 3, .inl fz2)), (v2, .inl (k2, 7, .inl fz3)), (v3, .inl (k3, 7, .inl fz4)), (v4, .inl (k4, 5, .inl fz5)), (v5, .inl (k5, 5, .inl fz6)), (v6, .inl (k6, 5, .inl fz7)), (h1, .inr (10, [.ref w0, .ref w1, .ref w2, .ref w3, .ref w4, .ref w5, .ref w6, .int 0, .int 0, .int 0, .int 0, .int 0, .int 0, .int 0, .int 0, .int 0])), (w0, .inl (l_0, 3, .inl g0)), (w1, .inl (l_1, 3, .inl g1)), (w2, .inl (l_2, 7, .inl g2)), (w3, .inl (l_3, 7, .inl g3)), (w4, .inl (l_4, 5, .inl g4)), (w5, .inl (l_5, 5, .inl g5)), (w6, .inl (l_6, 5, .inl g6))] := hD
  refine lv_aload_n hx hb dX10_take_164 rfl (lv_at hl 0 rfl) ?_
  refine lv_aload_n hx hb dX10_take_165 rfl (lv_at hl 1 rfl) ?_
  refine va_get (D := (dC, dI)) (ci := 10) (v := .int 0) (C := RX10) (T := TX10) (N := 16) hx hb hts (fun w h => List.mem_cons_of_mem _ (List.mem_append_right _ (List.mem_append_left _ h))) hown hK hP 8 rfl rfl 15 (by decide) (hts (.fieldLink RX10 58 "SagMemory$Valley" "cold" "I") (wl_mem 19 rfl)) (fun _ h9 => h9) rfl dX10_take_166 ?_
  refine va_put (D := (dC, dI)) (ci := 10) (v := .int 0) (ty := .int) (C := RX10) (T := TX10) (N := 16) hx hb hts (fun w h => List.mem_cons_of_mem _ (List.mem_append_right _ (List.mem_append_left _ h))) tyX10 tyX10_ok nmX10 hown hK hP hD hS 0 rfl rfl 15 (by decide) (hts (.fieldLink RX10 58 "SagMemory$Valley" "cold" "I") (wl_mem 19 rfl)) (fun _ h9 => h9) rfl (by decide +kernel) rfl rfl (Nat.le_of_ble_eq_true rfl) dX10_take_169 (fun H locs hP hD hS => ?_)
  have hP : va_P (dC, dI) vwCl [(h0, .inr (10, [.ref v0, .ref v1, .ref v2, .ref v3, .ref v4, .ref v5, .ref v6, .int 0, .int 0, .int 0, .int 0, .int 0, .int 0, .int 0, .int 0, .int 0])), (v0, .inl (k0, 3, .inl fz1)), (v1, .inl (k1, 3, .inl fz2)), (v2, .inl (k2, 7, .inl fz3)), (v3, .inl (k3, 7, .inl fz4)), (v4, .inl (k4, 5, .inl fz5)), (v5, .inl (k5, 5, .inl fz6)), (v6, .inl (k6, 5, .inl fz7)), (h1, .inr (10, [.ref w0, .ref w1, .ref w2, .ref w3, .ref w4, .ref w5, .ref w6, .int 0, .int 0, .int 0, .int 0, .int 0, .int 0, .int 0, .int 0, .int 0])), (w0, .inl (l_0, 3, .inl g0)), (w1, .inl (l_1, 3, .inl g1)), (w2, .inl (l_2, 7, .inl g2)), (w3, .inl (l_3, 7, .inl g3)), (w4, .inl (l_4, 5, .inl g4)), (w5, .inl (l_5, 5, .inl g5)), (w6, .inl (l_6, 5, .inl g6))] H := hP
  have hD : va_D A [(h0, .inr (10, [.ref v0, .ref v1, .ref v2, .ref v3, .ref v4, .ref v5, .ref v6, .int 0, .int 0, .int 0, .int 0, .int 0, .int 0, .int 0, .int 0, .int 0])), (v0, .inl (k0, 3, .inl fz1)), (v1, .inl (k1, 3, .inl fz2)), (v2, .inl (k2, 7, .inl fz3)), (v3, .inl (k3, 7, .inl fz4)), (v4, .inl (k4, 5, .inl fz5)), (v5, .inl (k5, 5, .inl fz6)), (v6, .inl (k6, 5, .inl fz7)), (h1, .inr (10, [.ref w0, .ref w1, .ref w2, .ref w3, .ref w4, .ref w5, .ref w6, .int 0, .int 0, .int 0, .int 0, .int 0, .int 0, .int 0, .int 0, .int 0])), (w0, .inl (l_0, 3, .inl g0)), (w1, .inl (l_1, 3, .inl g1)), (w2, .inl (l_2, 7, .inl g2)), (w3, .inl (l_3, 7, .inl g3)), (w4, .inl (l_4, 5, .inl g4)), (w5, .inl (l_5, 5, .inl g5)), (w6, .inl (l_6, 5, .inl g6))] := hD
  have hP9 := hP.sub (ws' := [(h0, .inr (10, [.ref v0, .ref v1, .ref v2, .ref v3, .ref v4, .ref v5, .ref v6, .int 0, .int 0, .int 0, .int 0, .int 0, .int 0, .int 0, .int 0, .int 0])), (v0, .inl (k0, 3, .inl fz1)), (v1, .inl (k1, 3, .inl fz2)), (v2, .inl (k2, 7, .inl fz3)), (v3, .inl (k3, 7, .inl fz4)), (v4, .inl (k4, 5, .inl fz5)), (v5, .inl (k5, 5, .inl fz6)), (v6, .inl (k6, 5, .inl fz7)), (h1, .inr (10, [.ref w0, .ref w1, .ref w2, .ref w3, .ref w4, .ref w5, .ref w6, .int 0, .int 0, .int 0, .int 0, .int 0, .int 0, .int 0, .int 0, .int 0])), (w0, .inl (l_0, 3, .inl g0)), (w1, .inl (l_1, 3, .inl g1)), (w2, .inl (l_2, 7, .inl g2)), (w3, .inl (l_3, 7, .inl g3)), (w4, .inl (l_4, 5, .inl g4)), (w5, .inl (l_5, 5, .inl g5)), (w6, .inl (l_6, 5, .inl g6))]) [0, 1, 2, 3, 4, 5, 6, 7, 8, 9, 10, 11, 12, 13, 14, 15] rfl
  have hD9 := hD.sub (ws' := [(h0, .inr (10, [.ref v0, .ref v1, .ref v2, .ref v3, .ref v4, .ref v5, .ref v6, .int 0, .int 0, .int 0, .int 0, .int 0, .int 0, .int 0, .int 0, .int 0])), (v0, .inl (k0, 3, .inl fz1)), (v1, .inl (k1, 3, .inl fz2)), (v2, .inl (k2, 7, .inl fz3)), (v3, .inl (k3, 7, .inl fz4)), (v4, .inl (k4, 5, .inl fz5)), (v5, .inl (k5, 5, .inl fz6)), (v6, .inl (k6, 5, .inl fz7)), (h1, .inr (10, [.ref w0, .ref w1, .ref w2, .ref w3, .ref w4, .ref w5, .ref w6, .int 0, .int 0, .int 0, .int 0, .int 0, .int 0, .int 0, .int 0, .int 0])), (w0, .inl (l_0, 3, .inl g0)), (w1, .inl (l_1, 3, .inl g1)), (w2, .inl (l_2, 7, .inl g2)), (w3, .inl (l_3, 7, .inl g3)), (w4, .inl (l_4, 5, .inl g4)), (w5, .inl (l_5, 5, .inl g5)), (w6, .inl (l_6, 5, .inl g6))]) [0, 1, 2, 3, 4, 5, 6, 7, 8, 9, 10, 11, 12, 13, 14, 15] (by decide) rfl
  have hK9 := hK.sub (tys' := [(k0, .int), (k1, .int), (k2, .int), (k3, .int), (k4, .int), (k5, .int), (k6, .int), (l_0, .int), (l_1, .int), (l_2, .int), (l_3, .int), (l_4, .int), (l_5, .int), (l_6, .int)]) [0, 1, 2, 3, 4, 5, 6, 7, 8, 9, 10, 11, 12, 13] rfl
  exact W.vret hx hb hr (fun t ht hW => ⟨⟨(), rfl, trivial, fz1, fz2, fz3, fz4, fz5, fz6, fz7, by rw [ht]; exact hP9, va_K.moved hW.alike hK9, hD9⟩, hS.F ht⟩) hS.2.2 dX10_take_172
def wk_f_X0_take : List Cond := .code yX0_take cX0_take 2 none :: ([.fieldLink RX0 9 "SagMemory$Acts" "kinds" "[I", .methodLink RX0 25 arraycopyName, .native arraycopyName, .static arraycopyName, .initialized "java/lang/System", .fieldLink RX0 15 "SagMemory$Acts" "carts" "[I", .fieldLink RX0 18 "SagMemory$Acts" "values" "[I", .fieldLink RX0 21 "SagMemory$Acts" "done" "I"] ++ (wsX00 ++ []))
theorem wkg_f_X0_take : wk_f_X0_take.all goodWord = true := by decide +kernel
set_option maxHeartbeats 4000000 in
set_option maxRecDepth 100000 in
theorem f_X0_take (l : Launch) (dC : Nat → ClassId) (dI : Nat → Nat → Nat) (sz : Nat) (h0 : Nat) (h1 : Nat) (v0 : Nat) (v1 : Nat) (v2 : Nat) (k0 : ClassId) (k1 : ClassId) (k2 : ClassId) (f0 : Nat → Int32) (f1 : Nat → Int32) (f2 : Nat → Int32) (w0 : Nat) (w1 : Nat) (w2 : Nat) (l_0 : ClassId) (l_1 : ClassId) (l_2 : ClassId) (g0 : Nat → Int32) (g1 : Nat → Int32) (g2 : Nat → Int32) : Met l yX0_take wk_f_X0_take ({ frames := 1, cells := 0, slots := 0, locals := 80 }) (va_Pc [.ref h0, .ref h1] (fun U => U.heap.size = sz ∧ va_P (dC, dI) vwCl [(h0, .inr (0, [.ref v0, .ref v1, .ref v2, .int 0])), (v0, .inl (k0, 30, .inl f0)), (v1, .inl (k1, 30, .inl f1)), (v2, .inl (k2, 30, .inl f2)), (h1, .inr (0, [.ref w0, .ref w1, .ref w2, .int 0])), (w0, .inl (l_0, 30, .inl g0)), (w1, .inl (l_1, 30, .inl g1)), (w2, .inl (l_2, 30, .inl g2))] U.heap ∧ va_K (dC, dI) vwCl [(k0, .int), (k1, .int), (k2, .int), (l_0, .int), (l_1, .int), (l_2, .int)] U ∧ va_D (fun _ => True) [(h0, .inr (0, [.ref v0, .ref v1, .ref v2, .int 0])), (v0, .inl (k0, 30, .inl f0)), (v1, .inl (k1, 30, .inl f1)), (v2, .inl (k2, 30, .inl f2)), (h1, .inr (0, [.ref w0, .ref w1, .ref w2, .int 0])), (w0, .inl (l_0, 30, .inl g0)), (w1, .inl (l_1, 30, .inl g1)), (w2, .inl (l_2, 30, .inl g2))])) (va_Qv (fun _ : Unit => True) (fun (_ : Unit) (t : State) => ∃ (e0 : Nat → Int32) (e1 : Nat → Int32) (e2 : Nat → Int32), va_P (dC, dI) vwCl [(h0, .inr (0, [.ref v0, .ref v1, .ref v2, .int 0])), (v0, .inl (k0, 30, .inl e0)), (v1, .inl (k1, 30, .inl e1)), (v2, .inl (k2, 30, .inl e2)), (h1, .inr (0, [.ref w0, .ref w1, .ref w2, .int 0])), (w0, .inl (l_0, 30, .inl g0)), (w1, .inl (l_1, 30, .inl g1)), (w2, .inl (l_2, 30, .inl g2))] t.heap ∧ va_K (dC, dI) vwCl [(k0, .int), (k1, .int), (k2, .int), (l_0, .int), (l_1, .int), (l_2, .int)] t ∧ va_D (va_A [(h0, .inr (0, [.ref v0, .ref v1, .ref v2, .int 0])), (v0, .inl (k0, 30, .inl f0)), (v1, .inl (k1, 30, .inl f1)), (v2, .inl (k2, 30, .inl f2)), (h1, .inr (0, [.ref w0, .ref w1, .ref w2, .int 0])), (w0, .inl (l_0, 30, .inl g0)), (w1, .inl (l_1, 30, .inl g1)), (w2, .inl (l_2, 30, .inl g2))] sz) [(h0, .inr (0, [.ref v0, .ref v1, .ref v2, .int 0])), (v0, .inl (k0, 30, .inl e0)), (v1, .inl (k1, 30, .inl e1)), (v2, .inl (k2, 30, .inl e2)), (h1, .inr (0, [.ref w0, .ref w1, .ref w2, .int 0])), (w0, .inl (l_0, 30, .inl g0)), (w1, .inl (l_1, 30, .inl g1)), (w2, .inl (l_2, 30, .inl g2))]) (va_A [(h0, .inr (0, [.ref v0, .ref v1, .ref v2, .int 0])), (v0, .inl (k0, 30, .inl f0)), (v1, .inl (k1, 30, .inl f1)), (v2, .inl (k2, 30, .inl f2)), (h1, .inr (0, [.ref w0, .ref w1, .ref w2, .int 0])), (w0, .inl (l_0, 30, .inl g0)), (w1, .inl (l_1, 30, .inl g1)), (w2, .inl (l_2, 30, .inl g2))] sz)) 0 0 (va_A [(h0, .inr (0, [.ref v0, .ref v1, .ref v2, .int 0])), (v0, .inl (k0, 30, .inl f0)), (v1, .inl (k1, 30, .inl f1)), (v2, .inl (k2, 30, .inl f2)), (h1, .inr (0, [.ref w0, .ref w1, .ref w2, .int 0])), (w0, .inl (l_0, 30, .inl g0)), (w1, .inl (l_1, 30, .inl g1)), (w2, .inl (l_2, 30, .inl g2))] sz) := by
  refine Met.ofW (cc := cX0_take) (maxL := 2) (ret := none) (by decide) rfl ?_
  intro p e s m args below meth c s₁ B hml hv
  obtain ⟨rfl, hsz, hP, hK, hD0⟩ := hv
  have hx := B.exec
  have hb := B.bytes
  have hr := B.returns
  have hts := atoms_spec (ws := wk_f_X0_take) B.pre
  have hown : s.vm.findClass RX0 = some m.cls := findClass_of_methodNamed B.named
  have hlocks := B.notSynchronized
  subst hsz
  have hD := hD0.self (sz := s.heap.size)
  generalize hAe : va_A [(h0, .inr (0, [.ref v0, .ref v1, .ref v2, .int 0])), (v0, .inl (k0, 30, .inl f0)), (v1, .inl (k1, 30, .inl f1)), (v2, .inl (k2, 30, .inl f2)), (h1, .inr (0, [.ref w0, .ref w1, .ref w2, .int 0])), (w0, .inl (l_0, 30, .inl g0)), (w1, .inl (l_1, 30, .inl g1)), (w2, .inl (l_2, 30, .inl g2))] s.heap.size = A at hD ⊢
  have hA : ∀ q : Nat, s.heap.size ≤ q → A q := fun q h => by rw [← hAe]; exact Or.inr h
  have hS : va_S A s.heap s.heap [] := va_S.rf
  have hP : va_P (dC, dI) vwCl [(h0, .inr (0, [.ref v0, .ref v1, .ref v2, .int 0])), (v0, .inl (k0, 30, .inl f0)), (v1, .inl (k1, 30, .inl f1)), (v2, .inl (k2, 30, .inl f2)), (h1, .inr (0, [.ref w0, .ref w1, .ref w2, .int 0])), (w0, .inl (l_0, 30, .inl g0)), (w1, .inl (l_1, 30, .inl g1)), (w2, .inl (l_2, 30, .inl g2))] s.heap := hP
  have hl := lv_entry ([.ref h0, .ref h1]) (n := 2) (Nat.le_of_ble_eq_true rfl)
  rw [lg_entry_eq]
  generalize (lg_sl ([.ref h0, .ref h1]) ++ List.replicate (2 - (lg_sl ([.ref h0, .ref h1])).length) Slot.unset).toArray = ls at hl ⊢
  have hl : lv_has ls 2 [(0, .ref h0), (1, .ref h1)] := hl
  refine lv_aload_n hx hb dX0_take_0 rfl (lv_at hl 1 rfl) ?_
  refine va_get (D := (dC, dI)) (ci := 0) (v := .ref w0) (C := RX0) (T := TX0) (N := 4) hx hb hts (fun w h => List.mem_cons_of_mem _ (List.mem_append_right _ (List.mem_append_left _ h))) hown hK hP 4 rfl rfl 0 (by decide) (hts (.fieldLink RX0 9 "SagMemory$Acts" "kinds" "[I") (wl_mem 0 rfl)) (fun _ h9 => h9) rfl dX0_take_1 ?_
  refine lv_iconst (v := 0) hx hb dX0_take_4 (by decide) ?_
  refine lv_aload_n hx hb dX0_take_5 rfl (lv_at hl 0 rfl) ?_
  refine va_get (D := (dC, dI)) (ci := 0) (v := .ref v0) (C := RX0) (T := TX0) (N := 4) hx hb hts (fun w h => List.mem_cons_of_mem _ (List.mem_append_right _ (List.mem_append_left _ h))) hown hK hP 0 rfl rfl 0 (by decide) (hts (.fieldLink RX0 9 "SagMemory$Acts" "kinds" "[I") (wl_mem 0 rfl)) (fun _ h9 => h9) rfl dX0_take_6 ?_
  refine lv_iconst (v := 0) hx hb dX0_take_9 (by decide) ?_
  refine lv_bipush (v := 30) hx hb dX0_take_10 (by decide) ?_
  refine va_copyi (ty := .int) hx hb (by rw [hml]; exact hl.1.symm) hown (hts (.methodLink RX0 25 arraycopyName) (wl_mem 1 rfl)) (hts (.native arraycopyName) (wl_mem 2 rfl)) (hts (.static arraycopyName) (wl_mem 3 rfl)) (hts (.initialized "java/lang/System") (wl_mem 4 rfl)) hK hP hD hS 5 1 3 0 rfl rfl rfl rfl rfl (by decide) (by decide) (by decide) (by decide) (by decide) (fun _ _ => rfl) (Nat.le_of_ble_eq_true rfl) (Nat.le_of_ble_eq_true rfl) dX0_take_12 (fun H locs hP hD hS => ?_)
  obtain ⟨fz1, hP, hD⟩ : ∃ fz1 : Nat → Int32, va_P (dC, dI) vwCl [(h0, .inr (0, [.ref v0, .ref v1, .ref v2, .int 0])), (v0, .inl (k0, 30, .inl fz1)), (v1, .inl (k1, 30, .inl f1)), (v2, .inl (k2, 30, .inl f2)), (h1, .inr (0, [.ref w0, .ref w1, .ref w2, .int 0])), (w0, .inl (l_0, 30, .inl g0)), (w1, .inl (l_1, 30, .inl g1)), (w2, .inl (l_2, 30, .inl g2))] H ∧ va_D A [(h0, .inr (0, [.ref v0, .ref v1, .ref v2, .int 0])), (v0, .inl (k0, 30, .inl fz1)), (v1, .inl (k1, 30, .inl f1)), (v2, .inl (k2, 30, .inl f2)), (h1, .inr (0, [.ref w0, .ref w1, .ref w2, .int 0])), (w0, .inl (l_0, 30, .inl g0)), (w1, .inl (l_1, 30, .inl g1)), (w2, .inl (l_2, 30, .inl g2))] := ⟨_, hP, hD⟩
  refine lv_aload_n hx hb dX0_take_15 rfl (lv_at hl 1 rfl) ?_
  refine va_get (D := (dC, dI)) (ci := 0) (v := .ref w1) (C := RX0) (T := TX0) (N := 4) hx hb hts (fun w h => List.mem_cons_of_mem _ (List.mem_append_right _ (List.mem_append_left _ h))) hown hK hP 4 rfl rfl 1 (by decide) (hts (.fieldLink RX0 15 "SagMemory$Acts" "carts" "[I") (wl_mem 5 rfl)) (fun _ h9 => h9) rfl dX0_take_16 ?_
  refine lv_iconst (v := 0) hx hb dX0_take_19 (by decide) ?_
  refine lv_aload_n hx hb dX0_take_20 rfl (lv_at hl 0 rfl) ?_
  refine va_get (D := (dC, dI)) (ci := 0) (v := .ref v1) (C := RX0) (T := TX0) (N := 4) hx hb hts (fun w h => List.mem_cons_of_mem _ (List.mem_append_right _ (List.mem_append_left _ h))) hown hK hP 0 rfl rfl 1 (by decide) (hts (.fieldLink RX0 15 "SagMemory$Acts" "carts" "[I") (wl_mem 5 rfl)) (fun _ h9 => h9) rfl dX0_take_21 ?_
  refine lv_iconst (v := 0) hx hb dX0_take_24 (by decide) ?_
  refine lv_bipush (v := 30) hx hb dX0_take_25 (by decide) ?_
  refine va_copyi (ty := .int) hx hb (by rw [hml]; exact hl.1.symm) hown (hts (.methodLink RX0 25 arraycopyName) (wl_mem 1 rfl)) (hts (.native arraycopyName) (wl_mem 2 rfl)) (hts (.static arraycopyName) (wl_mem 3 rfl)) (hts (.initialized "java/lang/System") (wl_mem 4 rfl)) hK hP hD hS 6 2 4 1 rfl rfl rfl rfl rfl (by decide) (by decide) (by decide) (by decide) (by decide) (fun _ _ => rfl) (Nat.le_of_ble_eq_true rfl) (Nat.le_of_ble_eq_true rfl) dX0_take_27 (fun H locs hP hD hS => ?_)
  obtain ⟨fz2, hP, hD⟩ : ∃ fz2 : Nat → Int32, va_P (dC, dI) vwCl [(h0, .inr (0, [.ref v0, .ref v1, .ref v2, .int 0])), (v0, .inl (k0, 30, .inl fz1)), (v1, .inl (k1, 30, .inl fz2)), (v2, .inl (k2, 30, .inl f2)), (h1, .inr (0, [.ref w0, .ref w1, .ref w2, .int 0])), (w0, .inl (l_0, 30, .inl g0)), (w1, .inl (l_1, 30, .inl g1)), (w2, .inl (l_2, 30, .inl g2))] H ∧ va_D A [(h0, .inr (0, [.ref v0, .ref v1, .ref v2, .int 0])), (v0, .inl (k0, 30, .inl fz1)), (v1, .inl (k1, 30, .inl fz2)), (v2, .inl (k2, 30, .inl f2)), (h1, .inr (0, [.ref w0, .ref w1, .ref w2, .int 0])), (w0, .inl (l_0, 30, .inl g0)), (w1, .inl (l_1, 30, .inl g1)), (w2, .inl (l_2, 30, .inl g2))] := ⟨_, hP, hD⟩
  refine lv_aload_n hx hb dX0_take_30 rfl (lv_at hl 1 rfl) ?_
  refine va_get (D := (dC, dI)) (ci := 0) (v := .ref w2) (C := RX0) (T := TX0) (N := 4) hx hb hts (fun w h => List.mem_cons_of_mem _ (List.mem_append_right _ (List.mem_append_left _ h))) hown hK hP 4 rfl rfl 2 (by decide) (hts (.fieldLink RX0 18 "SagMemory$Acts" "values" "[I") (wl_mem 6 rfl)) (fun _ h9 => h9) rfl dX0_take_31 ?_
  refine lv_iconst (v := 0) hx hb dX0_take_34 (by decide) ?_
  refine lv_aload_n hx hb dX0_take_35 rfl (lv_at hl 0 rfl) ?_
  refine va_get (D := (dC, dI)) (ci := 0) (v := .ref v2) (C := RX0) (T := TX0) (N := 4) hx hb hts (fun w h => List.mem_cons_of_mem _ (List.mem_append_right _ (List.mem_append_left _ h))) hown hK hP 0 rfl rfl 2 (by decide) (hts (.fieldLink RX0 18 "SagMemory$Acts" "values" "[I") (wl_mem 6 rfl)) (fun _ h9 => h9) rfl dX0_take_36 ?_
  refine lv_iconst (v := 0) hx hb dX0_take_39 (by decide) ?_
  refine lv_bipush (v := 30) hx hb dX0_take_40 (by decide) ?_
  refine va_copyi (ty := .int) hx hb (by rw [hml]; exact hl.1.symm) hown (hts (.methodLink RX0 25 arraycopyName) (wl_mem 1 rfl)) (hts (.native arraycopyName) (wl_mem 2 rfl)) (hts (.static arraycopyName) (wl_mem 3 rfl)) (hts (.initialized "java/lang/System") (wl_mem 4 rfl)) hK hP hD hS 7 3 5 2 rfl rfl rfl rfl rfl (by decide) (by decide) (by decide) (by decide) (by decide) (fun _ _ => rfl) (Nat.le_of_ble_eq_true rfl) (Nat.le_of_ble_eq_true rfl) dX0_take_42 (fun H locs hP hD hS => ?_)
  obtain ⟨fz3, hP, hD⟩ : ∃ fz3 : Nat → Int32, va_P (dC, dI) vwCl [(h0, .inr (0, [.ref v0, .ref v1, .ref v2, .int 0])), (v0, .inl (k0, 30, .inl fz1)), (v1, .inl (k1, 30, .inl fz2)), (v2, .inl (k2, 30, .inl fz3)), (h1, .inr (0, [.ref w0, .ref w1, .ref w2, .int 0])), (w0, .inl (l_0, 30, .inl g0)), (w1, .inl (l_1, 30, .inl g1)), (w2, .inl (l_2, 30, .inl g2))] H ∧ va_D A [(h0, .inr (0, [.ref v0, .ref v1, .ref v2, .int 0])), (v0, .inl (k0, 30, .inl fz1)), (v1, .inl (k1, 30, .inl fz2)), (v2, .inl (k2, 30, .inl fz3)), (h1, .inr (0, [.ref w0, .ref w1, .ref w2, .int 0])), (w0, .inl (l_0, 30, .inl g0)), (w1, .inl (l_1, 30, .inl g1)), (w2, .inl (l_2, 30, .inl g2))] := ⟨_, hP, hD⟩
  refine lv_aload_n hx hb dX0_take_45 rfl (lv_at hl 0 rfl) ?_
  refine lv_aload_n hx hb dX0_take_46 rfl (lv_at hl 1 rfl) ?_
  refine va_get (D := (dC, dI)) (ci := 0) (v := .int 0) (C := RX0) (T := TX0) (N := 4) hx hb hts (fun w h => List.mem_cons_of_mem _ (List.mem_append_right _ (List.mem_append_left _ h))) hown hK hP 4 rfl rfl 3 (by decide) (hts (.fieldLink RX0 21 "SagMemory$Acts" "done" "I") (wl_mem 7 rfl)) (fun _ h9 => h9) rfl dX0_take_47 ?_
  refine va_put (D := (dC, dI)) (ci := 0) (v := .int 0) (ty := .int) (C := RX0) (T := TX0) (N := 4) hx hb hts (fun w h => List.mem_cons_of_mem _ (List.mem_append_right _ (List.mem_append_left _ h))) tyX0 tyX0_ok nmX0 hown hK hP hD hS 0 rfl rfl 3 (by decide) (hts (.fieldLink RX0 21 "SagMemory$Acts" "done" "I") (wl_mem 7 rfl)) (fun _ h9 => h9) rfl (by decide +kernel) rfl rfl (Nat.le_of_ble_eq_true rfl) dX0_take_50 (fun H locs hP hD hS => ?_)
  have hP : va_P (dC, dI) vwCl [(h0, .inr (0, [.ref v0, .ref v1, .ref v2, .int 0])), (v0, .inl (k0, 30, .inl fz1)), (v1, .inl (k1, 30, .inl fz2)), (v2, .inl (k2, 30, .inl fz3)), (h1, .inr (0, [.ref w0, .ref w1, .ref w2, .int 0])), (w0, .inl (l_0, 30, .inl g0)), (w1, .inl (l_1, 30, .inl g1)), (w2, .inl (l_2, 30, .inl g2))] H := hP
  have hD : va_D A [(h0, .inr (0, [.ref v0, .ref v1, .ref v2, .int 0])), (v0, .inl (k0, 30, .inl fz1)), (v1, .inl (k1, 30, .inl fz2)), (v2, .inl (k2, 30, .inl fz3)), (h1, .inr (0, [.ref w0, .ref w1, .ref w2, .int 0])), (w0, .inl (l_0, 30, .inl g0)), (w1, .inl (l_1, 30, .inl g1)), (w2, .inl (l_2, 30, .inl g2))] := hD
  have hP9 := hP.sub (ws' := [(h0, .inr (0, [.ref v0, .ref v1, .ref v2, .int 0])), (v0, .inl (k0, 30, .inl fz1)), (v1, .inl (k1, 30, .inl fz2)), (v2, .inl (k2, 30, .inl fz3)), (h1, .inr (0, [.ref w0, .ref w1, .ref w2, .int 0])), (w0, .inl (l_0, 30, .inl g0)), (w1, .inl (l_1, 30, .inl g1)), (w2, .inl (l_2, 30, .inl g2))]) [0, 1, 2, 3, 4, 5, 6, 7] rfl
  have hD9 := hD.sub (ws' := [(h0, .inr (0, [.ref v0, .ref v1, .ref v2, .int 0])), (v0, .inl (k0, 30, .inl fz1)), (v1, .inl (k1, 30, .inl fz2)), (v2, .inl (k2, 30, .inl fz3)), (h1, .inr (0, [.ref w0, .ref w1, .ref w2, .int 0])), (w0, .inl (l_0, 30, .inl g0)), (w1, .inl (l_1, 30, .inl g1)), (w2, .inl (l_2, 30, .inl g2))]) [0, 1, 2, 3, 4, 5, 6, 7] (by decide) rfl
  have hK9 := hK.sub (tys' := [(k0, .int), (k1, .int), (k2, .int), (l_0, .int), (l_1, .int), (l_2, .int)]) [0, 1, 2, 3, 4, 5] rfl
  exact W.vret hx hb hr (fun t ht hW => ⟨⟨(), rfl, trivial, fz1, fz2, fz3, by rw [ht]; exact hP9, va_K.moved hW.alike hK9, hD9⟩, hS.F ht⟩) hS.2.2 dX0_take_53
def wk_f_X9_next : List Cond := .code yX9_next cX9_next 1 none :: ([.fieldLink RX9 35 "SagMemory$Tape" "at" "I", .fieldLink RX9 26 "SagMemory$Tape" "length" "I", .fieldLink RX9 161 "SagMemory$Tape" "start" "I", .fieldLink RX9 41 "SagMemory$Tape" "kind" "I"] ++ (wsX90 ++ []))
theorem wkg_f_X9_next : wk_f_X9_next.all goodWord = true := by decide +kernel
set_option maxHeartbeats 4000000 in
set_option maxRecDepth 100000 in
theorem f_X9_next (l : Launch) (dC : Nat → ClassId) (dI : Nat → Nat → Nat) (sz : Nat) (h0 : Nat) (yb : Nat) (rd : Nat) : Met l yX9_next wk_f_X9_next ({ frames := 0, cells := 0, slots := 0, locals := 0 }) (va_Pc [.ref h0] (fun U => U.heap.size = sz ∧ va_P (dC, dI) vwCl [(h0, .inr (9, [.ref yb, .ref rd, .int 0, .int 0, .int (-1), .int 0, .int 0, .int 0, .int 0, .int 0]))] U.heap ∧ va_K (dC, dI) vwCl [] U ∧ va_D (fun _ => True) [(h0, .inr (9, [.ref yb, .ref rd, .int 0, .int 0, .int (-1), .int 0, .int 0, .int 0, .int 0, .int 0]))])) (va_Qv (fun _ : Unit => True) (fun (_ : Unit) (t : State) => va_P (dC, dI) vwCl [(h0, .inr (9, [.ref yb, .ref rd, .int 0, .int 0, .int (-1), .int 0, .int 0, .int 0, .int 0, .int 0]))] t.heap ∧ va_K (dC, dI) vwCl [] t ∧ va_D (va_A [(h0, .inr (9, [.ref yb, .ref rd, .int 0, .int 0, .int (-1), .int 0, .int 0, .int 0, .int 0, .int 0]))] sz) [(h0, .inr (9, [.ref yb, .ref rd, .int 0, .int 0, .int (-1), .int 0, .int 0, .int 0, .int 0, .int 0]))]) (va_A [(h0, .inr (9, [.ref yb, .ref rd, .int 0, .int 0, .int (-1), .int 0, .int 0, .int 0, .int 0, .int 0]))] sz)) 0 0 (va_A [(h0, .inr (9, [.ref yb, .ref rd, .int 0, .int 0, .int (-1), .int 0, .int 0, .int 0, .int 0, .int 0]))] sz) := by
  refine Met.ofW (cc := cX9_next) (maxL := 1) (ret := none) (by decide) rfl ?_
  intro p e s m args below meth c s₁ B hml hv
  obtain ⟨rfl, hsz, hP, hK, hD0⟩ := hv
  have hx := B.exec
  have hb := B.bytes
  have hr := B.returns
  have hts := atoms_spec (ws := wk_f_X9_next) B.pre
  have hown : s.vm.findClass RX9 = some m.cls := findClass_of_methodNamed B.named
  have hlocks := B.notSynchronized
  subst hsz
  have hD := hD0.self (sz := s.heap.size)
  generalize hAe : va_A [(h0, .inr (9, [.ref yb, .ref rd, .int 0, .int 0, .int (-1), .int 0, .int 0, .int 0, .int 0, .int 0]))] s.heap.size = A at hD ⊢
  have hA : ∀ q : Nat, s.heap.size ≤ q → A q := fun q h => by rw [← hAe]; exact Or.inr h
  have hS : va_S A s.heap s.heap [] := va_S.rf
  have hP : va_P (dC, dI) vwCl [(h0, .inr (9, [.ref yb, .ref rd, .int 0, .int 0, .int (-1), .int 0, .int 0, .int 0, .int 0, .int 0]))] s.heap := hP
  have hl := lv_entry ([.ref h0]) (n := 1) (Nat.le_of_ble_eq_true rfl)
  rw [lg_entry_eq]
  generalize (lg_sl ([.ref h0]) ++ List.replicate (1 - (lg_sl ([.ref h0])).length) Slot.unset).toArray = ls at hl ⊢
  have hl : lv_has ls 1 [(0, .ref h0)] := hl
  refine lv_aload_n hx hb dX9_next_0 rfl (lv_at hl 0 rfl) ?_
  refine va_get (D := (dC, dI)) (ci := 9) (v := .int 0) (C := RX9) (T := TX9) (N := 10) hx hb hts (fun w h => List.mem_cons_of_mem _ (List.mem_append_right _ (List.mem_append_left _ h))) hown hK hP 0 rfl rfl 5 (by decide) (hts (.fieldLink RX9 35 "SagMemory$Tape" "at" "I") (wl_mem 0 rfl)) (fun _ h9 => h9) rfl dX9_next_1 ?_
  refine lv_aload_n hx hb dX9_next_4 rfl (lv_at hl 0 rfl) ?_
  refine va_get (D := (dC, dI)) (ci := 9) (v := .int 0) (C := RX9) (T := TX9) (N := 10) hx hb hts (fun w h => List.mem_cons_of_mem _ (List.mem_append_right _ (List.mem_append_left _ h))) hown hK hP 0 rfl rfl 2 (by decide) (hts (.fieldLink RX9 26 "SagMemory$Tape" "length" "I") (wl_mem 1 rfl)) (fun _ h9 => h9) rfl dX9_next_5 ?_
  refine lv_icmp_ge (tgt := 52) hx hb dX9_next_8 (by decide) (fun cz1 => ?_) (fun cz1 => ?_)
  · skip
    refine lv_aload_n hx hb dX9_next_52 rfl (lv_at hl 0 rfl) ?_
    refine lv_aload_n hx hb dX9_next_53 rfl (lv_at hl 0 rfl) ?_
    refine va_get (D := (dC, dI)) (ci := 9) (v := .int 0) (C := RX9) (T := TX9) (N := 10) hx hb hts (fun w h => List.mem_cons_of_mem _ (List.mem_append_right _ (List.mem_append_left _ h))) hown hK hP 0 rfl rfl 5 (by decide) (hts (.fieldLink RX9 35 "SagMemory$Tape" "at" "I") (wl_mem 0 rfl)) (fun _ h9 => h9) rfl dX9_next_54 ?_
    refine va_put (D := (dC, dI)) (ci := 9) (v := .int 0) (ty := .int) (C := RX9) (T := TX9) (N := 10) hx hb hts (fun w h => List.mem_cons_of_mem _ (List.mem_append_right _ (List.mem_append_left _ h))) tyX9 tyX9_ok nmX9 hown hK hP hD hS 0 rfl rfl 7 (by decide) (hts (.fieldLink RX9 161 "SagMemory$Tape" "start" "I") (wl_mem 2 rfl)) (fun _ h9 => h9) rfl (by decide +kernel) rfl rfl (Nat.le_of_ble_eq_true rfl) dX9_next_57 (fun H locs hP hD hS => ?_)
    have hP : va_P (dC, dI) vwCl [(h0, .inr (9, [.ref yb, .ref rd, .int 0, .int 0, .int (-1), .int 0, .int 0, .int 0, .int 0, .int 0]))] H := hP
    have hD : va_D A [(h0, .inr (9, [.ref yb, .ref rd, .int 0, .int 0, .int (-1), .int 0, .int 0, .int 0, .int 0, .int 0]))] := hD
    refine lv_aload_n hx hb dX9_next_60 rfl (lv_at hl 0 rfl) ?_
    refine va_get (D := (dC, dI)) (ci := 9) (v := .int 0) (C := RX9) (T := TX9) (N := 10) hx hb hts (fun w h => List.mem_cons_of_mem _ (List.mem_append_right _ (List.mem_append_left _ h))) hown hK hP 0 rfl rfl 5 (by decide) (hts (.fieldLink RX9 35 "SagMemory$Tape" "at" "I") (wl_mem 0 rfl)) (fun _ h9 => h9) rfl dX9_next_61 ?_
    refine lv_aload_n hx hb dX9_next_64 rfl (lv_at hl 0 rfl) ?_
    refine va_get (D := (dC, dI)) (ci := 9) (v := .int 0) (C := RX9) (T := TX9) (N := 10) hx hb hts (fun w h => List.mem_cons_of_mem _ (List.mem_append_right _ (List.mem_append_left _ h))) hown hK hP 0 rfl rfl 2 (by decide) (hts (.fieldLink RX9 26 "SagMemory$Tape" "length" "I") (wl_mem 1 rfl)) (fun _ h9 => h9) rfl dX9_next_65 ?_
    refine lv_icmp_lt (tgt := 77) hx hb dX9_next_68 (by decide) (fun cz2 => ?_) (fun cz2 => ?_)
    · skip
      exact absurd cz2 (by decide)
    · skip
      refine lv_aload_n hx hb dX9_next_71 rfl (lv_at hl 0 rfl) ?_
      refine lv_iconst (v := 0) hx hb dX9_next_72 (by decide) ?_
      refine va_put (D := (dC, dI)) (ci := 9) (v := .int 0) (ty := .int) (C := RX9) (T := TX9) (N := 10) hx hb hts (fun w h => List.mem_cons_of_mem _ (List.mem_append_right _ (List.mem_append_left _ h))) tyX9 tyX9_ok nmX9 hown hK hP hD hS 0 rfl rfl 6 (by decide) (hts (.fieldLink RX9 41 "SagMemory$Tape" "kind" "I") (wl_mem 3 rfl)) (fun _ h9 => h9) rfl (by decide +kernel) rfl rfl (Nat.le_of_ble_eq_true rfl) dX9_next_73 (fun H locs hP hD hS => ?_)
      have hP : va_P (dC, dI) vwCl [(h0, .inr (9, [.ref yb, .ref rd, .int 0, .int 0, .int (-1), .int 0, .int 0, .int 0, .int 0, .int 0]))] H := hP
      have hD : va_D A [(h0, .inr (9, [.ref yb, .ref rd, .int 0, .int 0, .int (-1), .int 0, .int 0, .int 0, .int 0, .int 0]))] := hD
      have hP9 := hP.sub (ws' := [(h0, .inr (9, [.ref yb, .ref rd, .int 0, .int 0, .int (-1), .int 0, .int 0, .int 0, .int 0, .int 0]))]) [0] rfl
      have hD9 := hD.sub (ws' := [(h0, .inr (9, [.ref yb, .ref rd, .int 0, .int 0, .int (-1), .int 0, .int 0, .int 0, .int 0, .int 0]))]) [0] (by decide) rfl
      have hK9 := hK.sub (tys' := []) [] rfl
      exact W.vret hx hb hr (fun t ht hW => ⟨⟨(), rfl, trivial, by rw [ht]; exact hP9, va_K.moved hW.alike hK9, hD9⟩, hS.F ht⟩) hS.2.2 dX9_next_76
  · skip
    exact absurd cz1 (by decide)
def wk_f_X9_parse : List Cond := .code yX9_parse cX9_parse 2 (some .boolean) :: ([.fieldLink RX9 18 "SagMemory$Tape" "read" "LSagMemory$Valley;", .methodLink RX9 29 yX10_clear, .instanceMethod yX10_clear, .selects RX10 yX10_clear yX10_clear, .initialized RX10, .fieldLink RX9 32 "SagMemory$Tape" "fault" "I", .fieldLink RX9 22 "SagMemory$Tape" "place" "I", .fieldLink RX9 35 "SagMemory$Tape" "at" "I", .methodLink RX9 38 yX9_next, .instanceMethod yX9_next, .selects RX9 yX9_next yX9_next, .initialized RX9, .fieldLink RX9 41 "SagMemory$Tape" "kind" "I"] ++ (wsX90 ++ (wk_f_X10_clear ++ (wk_f_X9_next ++ []))))
theorem wkg_f_X9_parse : wk_f_X9_parse.all goodWord = true := by decide +kernel
set_option maxHeartbeats 4000000 in
set_option maxRecDepth 100000 in
theorem f_X9_parse (l : Launch) (dC : Nat → ClassId) (dI : Nat → Nat → Nat) (sz : Nat) (h0 : Nat) (yb : Nat) (rd : Nat) (v0 : Nat) (v1 : Nat) (v2 : Nat) (v3 : Nat) (v4 : Nat) (v5 : Nat) (v6 : Nat) : Met l yX9_parse wk_f_X9_parse ({ frames := 1, cells := 0, slots := 0, locals := 20 }) (va_Pc [.ref h0] (fun U => U.heap.size = sz ∧ va_P (dC, dI) vwCl [(h0, .inr (9, [.ref yb, .ref rd, .int 0, .int 0, .int (-1), .int 0, .int 0, .int 0, .int 0, .int 0])), (rd, .inr (10, [.ref v0, .ref v1, .ref v2, .ref v3, .ref v4, .ref v5, .ref v6, .int 0, .int 0, .int 0, .int 0, .int 0, .int 0, .int 0, .int 0, .int 0]))] U.heap ∧ va_K (dC, dI) vwCl [] U ∧ va_D (fun _ => True) [(h0, .inr (9, [.ref yb, .ref rd, .int 0, .int 0, .int (-1), .int 0, .int 0, .int 0, .int 0, .int 0])), (rd, .inr (10, [.ref v0, .ref v1, .ref v2, .ref v3, .ref v4, .ref v5, .ref v6, .int 0, .int 0, .int 0, .int 0, .int 0, .int 0, .int 0, .int 0, .int 0]))])) (va_Qi (fun (r : Int32) (_ : Unit) => r = 1) (fun (_ : Unit) (t : State) => va_P (dC, dI) vwCl [(h0, .inr (9, [.ref yb, .ref rd, .int 0, .int 0, .int (-1), .int 0, .int 0, .int 0, .int 0, .int 0])), (rd, .inr (10, [.ref v0, .ref v1, .ref v2, .ref v3, .ref v4, .ref v5, .ref v6, .int 0, .int 0, .int 0, .int 0, .int 0, .int 0, .int 0, .int 0, .int 0]))] t.heap ∧ va_K (dC, dI) vwCl [] t ∧ va_D (va_A [(h0, .inr (9, [.ref yb, .ref rd, .int 0, .int 0, .int (-1), .int 0, .int 0, .int 0, .int 0, .int 0])), (rd, .inr (10, [.ref v0, .ref v1, .ref v2, .ref v3, .ref v4, .ref v5, .ref v6, .int 0, .int 0, .int 0, .int 0, .int 0, .int 0, .int 0, .int 0, .int 0]))] sz) [(h0, .inr (9, [.ref yb, .ref rd, .int 0, .int 0, .int (-1), .int 0, .int 0, .int 0, .int 0, .int 0])), (rd, .inr (10, [.ref v0, .ref v1, .ref v2, .ref v3, .ref v4, .ref v5, .ref v6, .int 0, .int 0, .int 0, .int 0, .int 0, .int 0, .int 0, .int 0, .int 0]))]) (va_A [(h0, .inr (9, [.ref yb, .ref rd, .int 0, .int 0, .int (-1), .int 0, .int 0, .int 0, .int 0, .int 0])), (rd, .inr (10, [.ref v0, .ref v1, .ref v2, .ref v3, .ref v4, .ref v5, .ref v6, .int 0, .int 0, .int 0, .int 0, .int 0, .int 0, .int 0, .int 0, .int 0]))] sz)) 0 0 (va_A [(h0, .inr (9, [.ref yb, .ref rd, .int 0, .int 0, .int (-1), .int 0, .int 0, .int 0, .int 0, .int 0])), (rd, .inr (10, [.ref v0, .ref v1, .ref v2, .ref v3, .ref v4, .ref v5, .ref v6, .int 0, .int 0, .int 0, .int 0, .int 0, .int 0, .int 0, .int 0, .int 0]))] sz) := by
  refine Met.ofW (cc := cX9_parse) (maxL := 2) (ret := (some .boolean)) (by decide) rfl ?_
  intro p e s m args below meth c s₁ B hml hv
  obtain ⟨rfl, hsz, hP, hK, hD0⟩ := hv
  have hx := B.exec
  have hb := B.bytes
  have hr := B.returns
  have hts := atoms_spec (ws := wk_f_X9_parse) B.pre
  have hown : s.vm.findClass RX9 = some m.cls := findClass_of_methodNamed B.named
  have hlocks := B.notSynchronized
  subst hsz
  have hD := hD0.self (sz := s.heap.size)
  generalize hAe : va_A [(h0, .inr (9, [.ref yb, .ref rd, .int 0, .int 0, .int (-1), .int 0, .int 0, .int 0, .int 0, .int 0])), (rd, .inr (10, [.ref v0, .ref v1, .ref v2, .ref v3, .ref v4, .ref v5, .ref v6, .int 0, .int 0, .int 0, .int 0, .int 0, .int 0, .int 0, .int 0, .int 0]))] s.heap.size = A at hD ⊢
  have hA : ∀ q : Nat, s.heap.size ≤ q → A q := fun q h => by rw [← hAe]; exact Or.inr h
  have hS : va_S A s.heap s.heap [] := va_S.rf
  have hP : va_P (dC, dI) vwCl [(h0, .inr (9, [.ref yb, .ref rd, .int 0, .int 0, .int (-1), .int 0, .int 0, .int 0, .int 0, .int 0])), (rd, .inr (10, [.ref v0, .ref v1, .ref v2, .ref v3, .ref v4, .ref v5, .ref v6, .int 0, .int 0, .int 0, .int 0, .int 0, .int 0, .int 0, .int 0, .int 0]))] s.heap := hP
  have hl := lv_entry ([.ref h0]) (n := 2) (Nat.le_of_ble_eq_true rfl)
  rw [lg_entry_eq]
  generalize (lg_sl ([.ref h0]) ++ List.replicate (2 - (lg_sl ([.ref h0])).length) Slot.unset).toArray = ls at hl ⊢
  have hl : lv_has ls 2 [(0, .ref h0)] := hl
  refine lv_aload_n hx hb dX9_parse_0 rfl (lv_at hl 0 rfl) ?_
  refine va_get (D := (dC, dI)) (ci := 9) (v := .ref rd) (C := RX9) (T := TX9) (N := 10) hx hb hts (fun w h => List.mem_cons_of_mem _ (List.mem_append_right _ (List.mem_append_left _ h))) hown hK hP 0 rfl rfl 1 (by decide) (hts (.fieldLink RX9 18 "SagMemory$Tape" "read" "LSagMemory$Valley;") (wl_mem 0 rfl)) (fun _ h9 => h9) rfl dX9_parse_1 ?_
  have hPc := hP.sub (ws' := [(rd, .inr (10, [.ref v0, .ref v1, .ref v2, .ref v3, .ref v4, .ref v5, .ref v6, .int 0, .int 0, .int 0, .int 0, .int 0, .int 0, .int 0, .int 0, .int 0]))]) [1] rfl
  have hKc := hK.sub (tys' := []) [] rfl
  have hDc := hD.sub (ws' := [(rd, .inr (10, [.ref v0, .ref v1, .ref v2, .ref v3, .ref v4, .ref v5, .ref v6, .int 0, .int 0, .int 0, .int 0, .int 0, .int 0, .int 0, .int 0, .int 0]))]) [1] (by decide) rfl
  have hFc := va_free (wc := [(rd, .inr (10, [.ref v0, .ref v1, .ref v2, .ref v3, .ref v4, .ref v5, .ref v6, .int 0, .int 0, .int 0, .int 0, .int 0, .int 0, .int 0, .int 0, .int 0]))]) hD hS hA [1] rfl
  refine va_callv (va_runV (As := []) (rest := []) ⟨hx, hb, hml, hown, hts⟩ (f_X10_clear l dC dI s.heap.size rd v0 v1 v2 v3 v4 v5 v6) (cwV 0 hts (gk_V (wl_mem 1 rfl) (wl_mem 2 rfl) (wl_mem 3 rfl) (wl_mem 4 rfl) (fun w h => List.mem_cons_of_mem _ (List.mem_append_right _ (List.mem_append_right _ (List.mem_append_left _ h)))) wkg_f_X10_clear) rfl rfl rfl (by decide +kernel) ⟨Nat.le_of_ble_eq_true rfl, Nat.le_of_ble_eq_true rfl⟩) ⟨fun a U g mk q => by obtain ⟨q0, q1, qP, qK, qD⟩ := q; exact ⟨q0, q1, qP, va_K.moved (u := U) (U := U.calling g mk a) (Vm.Alike.refl U.vm) qK, qD⟩, va_recv hKc hPc (ci := 10) (q0 := 0) rfl rfl, fun U hU hW => ⟨rfl, by rw [hU], by rw [hU]; exact hPc, va_K.moved hW.alike hKc, hDc.weaken (fun _ _ _ _ => trivial)⟩⟩ rfl rfl hl.1 rfl (lv_room (Nat.le_of_ble_eq_true rfl)) dX9_parse_4 ⟨Nat.le_of_ble_eq_true rfl, Nat.le_of_ble_eq_true rfl⟩) hS (fun q _ h => hFc q h) hFc (fun u t H1 locs ht hvm hz1 hB hz1 hk1 hS => ?_)
  obtain ⟨hP1, hK1, hD1⟩ := hB
  rw [ht] at hP1
  have hK1 := va_K.moved hvm.symm hK1
  obtain ⟨hP, hD⟩ := va_join (wr := [(h0, .inr (9, [.ref yb, .ref rd, .int 0, .int 0, .int (-1), .int 0, .int 0, .int 0, .int 0, .int 0]))]) (w1 := [(rd, .inr (10, [.ref v0, .ref v1, .ref v2, .ref v3, .ref v4, .ref v5, .ref v6, .int 0, .int 0, .int 0, .int 0, .int 0, .int 0, .int 0, .int 0, .int 0]))]) hP hD [1] [0] rfl rfl (by decide) (by decide) hk1 hFc hP1 hD1
  have hK := (hK.sub (tys' := []) [] rfl).app hK1
  generalize H1 = H at hP hS ⊢
  have hK : va_K (dC, dI) vwCl [] s := hK
  have hP : va_P (dC, dI) vwCl [(h0, .inr (9, [.ref yb, .ref rd, .int 0, .int 0, .int (-1), .int 0, .int 0, .int 0, .int 0, .int 0])), (rd, .inr (10, [.ref v0, .ref v1, .ref v2, .ref v3, .ref v4, .ref v5, .ref v6, .int 0, .int 0, .int 0, .int 0, .int 0, .int 0, .int 0, .int 0, .int 0]))] H := hP
  have hD : va_D A [(h0, .inr (9, [.ref yb, .ref rd, .int 0, .int 0, .int (-1), .int 0, .int 0, .int 0, .int 0, .int 0])), (rd, .inr (10, [.ref v0, .ref v1, .ref v2, .ref v3, .ref v4, .ref v5, .ref v6, .int 0, .int 0, .int 0, .int 0, .int 0, .int 0, .int 0, .int 0, .int 0]))] := hD
  refine W.widen (k := 0) (n := 0) (Nat.le_of_ble_eq_true rfl) (Nat.le_of_ble_eq_true rfl) ?_
  refine lv_aload_n hx hb dX9_parse_7 rfl (lv_at hl 0 rfl) ?_
  refine lv_iconst (v := 0) hx hb dX9_parse_8 (by decide) ?_
  refine va_put (D := (dC, dI)) (ci := 9) (v := .int 0) (ty := .int) (C := RX9) (T := TX9) (N := 10) hx hb hts (fun w h => List.mem_cons_of_mem _ (List.mem_append_right _ (List.mem_append_left _ h))) tyX9 tyX9_ok nmX9 hown hK hP hD hS 0 rfl rfl 3 (by decide) (hts (.fieldLink RX9 32 "SagMemory$Tape" "fault" "I") (wl_mem 5 rfl)) (fun _ h9 => h9) rfl (by decide +kernel) rfl rfl (Nat.le_of_ble_eq_true rfl) dX9_parse_9 (fun H locs hP hD hS => ?_)
  have hP : va_P (dC, dI) vwCl [(h0, .inr (9, [.ref yb, .ref rd, .int 0, .int 0, .int (-1), .int 0, .int 0, .int 0, .int 0, .int 0])), (rd, .inr (10, [.ref v0, .ref v1, .ref v2, .ref v3, .ref v4, .ref v5, .ref v6, .int 0, .int 0, .int 0, .int 0, .int 0, .int 0, .int 0, .int 0, .int 0]))] H := hP
  have hD : va_D A [(h0, .inr (9, [.ref yb, .ref rd, .int 0, .int 0, .int (-1), .int 0, .int 0, .int 0, .int 0, .int 0])), (rd, .inr (10, [.ref v0, .ref v1, .ref v2, .ref v3, .ref v4, .ref v5, .ref v6, .int 0, .int 0, .int 0, .int 0, .int 0, .int 0, .int 0, .int 0, .int 0]))] := hD
  refine lv_aload_n hx hb dX9_parse_12 rfl (lv_at hl 0 rfl) ?_
  refine lv_iconst (v := (-1)) hx hb dX9_parse_13 (by decide) ?_
  refine va_put (D := (dC, dI)) (ci := 9) (v := .int (-1)) (ty := .int) (C := RX9) (T := TX9) (N := 10) hx hb hts (fun w h => List.mem_cons_of_mem _ (List.mem_append_right _ (List.mem_append_left _ h))) tyX9 tyX9_ok nmX9 hown hK hP hD hS 0 rfl rfl 4 (by decide) (hts (.fieldLink RX9 22 "SagMemory$Tape" "place" "I") (wl_mem 6 rfl)) (fun _ h9 => h9) rfl (by decide +kernel) rfl rfl (Nat.le_of_ble_eq_true rfl) dX9_parse_14 (fun H locs hP hD hS => ?_)
  have hP : va_P (dC, dI) vwCl [(h0, .inr (9, [.ref yb, .ref rd, .int 0, .int 0, .int (-1), .int 0, .int 0, .int 0, .int 0, .int 0])), (rd, .inr (10, [.ref v0, .ref v1, .ref v2, .ref v3, .ref v4, .ref v5, .ref v6, .int 0, .int 0, .int 0, .int 0, .int 0, .int 0, .int 0, .int 0, .int 0]))] H := hP
  have hD : va_D A [(h0, .inr (9, [.ref yb, .ref rd, .int 0, .int 0, .int (-1), .int 0, .int 0, .int 0, .int 0, .int 0])), (rd, .inr (10, [.ref v0, .ref v1, .ref v2, .ref v3, .ref v4, .ref v5, .ref v6, .int 0, .int 0, .int 0, .int 0, .int 0, .int 0, .int 0, .int 0, .int 0]))] := hD
  refine lv_aload_n hx hb dX9_parse_17 rfl (lv_at hl 0 rfl) ?_
  refine lv_iconst (v := 0) hx hb dX9_parse_18 (by decide) ?_
  refine va_put (D := (dC, dI)) (ci := 9) (v := .int 0) (ty := .int) (C := RX9) (T := TX9) (N := 10) hx hb hts (fun w h => List.mem_cons_of_mem _ (List.mem_append_right _ (List.mem_append_left _ h))) tyX9 tyX9_ok nmX9 hown hK hP hD hS 0 rfl rfl 5 (by decide) (hts (.fieldLink RX9 35 "SagMemory$Tape" "at" "I") (wl_mem 7 rfl)) (fun _ h9 => h9) rfl (by decide +kernel) rfl rfl (Nat.le_of_ble_eq_true rfl) dX9_parse_19 (fun H locs hP hD hS => ?_)
  have hP : va_P (dC, dI) vwCl [(h0, .inr (9, [.ref yb, .ref rd, .int 0, .int 0, .int (-1), .int 0, .int 0, .int 0, .int 0, .int 0])), (rd, .inr (10, [.ref v0, .ref v1, .ref v2, .ref v3, .ref v4, .ref v5, .ref v6, .int 0, .int 0, .int 0, .int 0, .int 0, .int 0, .int 0, .int 0, .int 0]))] H := hP
  have hD : va_D A [(h0, .inr (9, [.ref yb, .ref rd, .int 0, .int 0, .int (-1), .int 0, .int 0, .int 0, .int 0, .int 0])), (rd, .inr (10, [.ref v0, .ref v1, .ref v2, .ref v3, .ref v4, .ref v5, .ref v6, .int 0, .int 0, .int 0, .int 0, .int 0, .int 0, .int 0, .int 0, .int 0]))] := hD
  refine lv_aload_n hx hb dX9_parse_22 rfl (lv_at hl 0 rfl) ?_
  have hPc := hP.sub (ws' := [(h0, .inr (9, [.ref yb, .ref rd, .int 0, .int 0, .int (-1), .int 0, .int 0, .int 0, .int 0, .int 0]))]) [0] rfl
  have hKc := hK.sub (tys' := []) [] rfl
  have hDc := hD.sub (ws' := [(h0, .inr (9, [.ref yb, .ref rd, .int 0, .int 0, .int (-1), .int 0, .int 0, .int 0, .int 0, .int 0]))]) [0] (by decide) rfl
  have hFc := va_free (wc := [(h0, .inr (9, [.ref yb, .ref rd, .int 0, .int 0, .int (-1), .int 0, .int 0, .int 0, .int 0, .int 0]))]) hD hS hA [0] rfl
  refine va_callv (va_runV (As := []) (rest := []) ⟨hx, hb, hml, hown, hts⟩ (f_X9_next l dC dI H.size h0 yb rd) (cwV 0 hts (gk_V (wl_mem 8 rfl) (wl_mem 9 rfl) (wl_mem 10 rfl) (wl_mem 11 rfl) (fun w h => List.mem_cons_of_mem _ (List.mem_append_right _ (List.mem_append_right _ (List.mem_append_right _ (List.mem_append_left _ h))))) wkg_f_X9_next) rfl rfl rfl (by decide +kernel) ⟨Nat.le_of_ble_eq_true rfl, Nat.le_of_ble_eq_true rfl⟩) ⟨fun a U g mk q => by obtain ⟨q0, q1, qP, qK, qD⟩ := q; exact ⟨q0, q1, qP, va_K.moved (u := U) (U := U.calling g mk a) (Vm.Alike.refl U.vm) qK, qD⟩, va_recv hKc hPc (ci := 9) (q0 := 0) rfl rfl, fun U hU hW => ⟨rfl, by rw [hU], by rw [hU]; exact hPc, va_K.moved hW.alike hKc, hDc.weaken (fun _ _ _ _ => trivial)⟩⟩ rfl rfl hl.1 rfl (lv_room (Nat.le_of_ble_eq_true rfl)) dX9_parse_23 ⟨Nat.le_of_ble_eq_true rfl, Nat.le_of_ble_eq_true rfl⟩) hS (fun q _ h => hFc q h) hFc (fun u t H1 locs ht hvm hz3 hB hz1 hk1 hS => ?_)
  obtain ⟨hP1, hK1, hD1⟩ := hB
  rw [ht] at hP1
  have hK1 := va_K.moved hvm.symm hK1
  obtain ⟨hP, hD⟩ := va_join (wr := [(rd, .inr (10, [.ref v0, .ref v1, .ref v2, .ref v3, .ref v4, .ref v5, .ref v6, .int 0, .int 0, .int 0, .int 0, .int 0, .int 0, .int 0, .int 0, .int 0]))]) (w1 := [(h0, .inr (9, [.ref yb, .ref rd, .int 0, .int 0, .int (-1), .int 0, .int 0, .int 0, .int 0, .int 0]))]) hP hD [0] [1] rfl rfl (by decide) (by decide) hk1 hFc hP1 hD1
  have hK := (hK.sub (tys' := []) [] rfl).app hK1
  generalize H1 = H at hP hS ⊢
  have hK : va_K (dC, dI) vwCl [] s := hK
  have hP : va_P (dC, dI) vwCl [(rd, .inr (10, [.ref v0, .ref v1, .ref v2, .ref v3, .ref v4, .ref v5, .ref v6, .int 0, .int 0, .int 0, .int 0, .int 0, .int 0, .int 0, .int 0, .int 0])), (h0, .inr (9, [.ref yb, .ref rd, .int 0, .int 0, .int (-1), .int 0, .int 0, .int 0, .int 0, .int 0]))] H := hP
  have hD : va_D A [(rd, .inr (10, [.ref v0, .ref v1, .ref v2, .ref v3, .ref v4, .ref v5, .ref v6, .int 0, .int 0, .int 0, .int 0, .int 0, .int 0, .int 0, .int 0, .int 0])), (h0, .inr (9, [.ref yb, .ref rd, .int 0, .int 0, .int (-1), .int 0, .int 0, .int 0, .int 0, .int 0]))] := hD
  refine W.widen (k := 0) (n := 0) (Nat.le_of_ble_eq_true rfl) (Nat.le_of_ble_eq_true rfl) ?_
  refine lv_iconst (v := 0) hx hb dX9_parse_26 (by decide) ?_
  refine lv_istore_n (lv' := [(1, .int 0), (0, .ref h0)]) hx hb dX9_parse_27 rfl hl (by decide) rfl (fun ls hl => ?_)
  refine lv_iload_n hx hb dX9_parse_28 rfl (lv_at hl 0 rfl) ?_
  refine lv_sipush (v := 700) hx hb dX9_parse_29 (by decide) ?_
  refine lv_icmp_ge (tgt := 75) hx hb dX9_parse_32 (by decide) (fun cz5 => ?_) (fun cz5 => ?_)
  · skip
    exact absurd cz5 (by decide)
  · skip
    refine lv_aload_n hx hb dX9_parse_35 rfl (lv_at hl 1 rfl) ?_
    refine va_get (D := (dC, dI)) (ci := 9) (v := .int 0) (C := RX9) (T := TX9) (N := 10) hx hb hts (fun w h => List.mem_cons_of_mem _ (List.mem_append_right _ (List.mem_append_left _ h))) hown hK hP 1 rfl rfl 6 (by decide) (hts (.fieldLink RX9 41 "SagMemory$Tape" "kind" "I") (wl_mem 12 rfl)) (fun _ h9 => h9) rfl dX9_parse_36 ?_
    refine lv_if_eq (tgt := 75) hx hb dX9_parse_39 (by decide) (fun cz6 => ?_) (fun cz6 => ?_)
    · skip
      refine lv_aload_n hx hb dX9_parse_75 rfl (lv_at hl 1 rfl) ?_
      refine va_get (D := (dC, dI)) (ci := 9) (v := .int 0) (C := RX9) (T := TX9) (N := 10) hx hb hts (fun w h => List.mem_cons_of_mem _ (List.mem_append_right _ (List.mem_append_left _ h))) hown hK hP 1 rfl rfl 3 (by decide) (hts (.fieldLink RX9 32 "SagMemory$Tape" "fault" "I") (wl_mem 5 rfl)) (fun _ h9 => h9) rfl dX9_parse_76 ?_
      refine lv_if_ne (tgt := 86) hx hb dX9_parse_79 (by decide) (fun cz7 => ?_) (fun cz7 => ?_)
      · skip
        exact absurd cz7 (by decide)
      · skip
        refine lv_iconst (v := 1) hx hb dX9_parse_82 (by decide) ?_
        refine lv_goto (tgt := 87) hx hb dX9_parse_83 (by decide) ?_
        have hP9 := hP.sub (ws' := [(h0, .inr (9, [.ref yb, .ref rd, .int 0, .int 0, .int (-1), .int 0, .int 0, .int 0, .int 0, .int 0])), (rd, .inr (10, [.ref v0, .ref v1, .ref v2, .ref v3, .ref v4, .ref v5, .ref v6, .int 0, .int 0, .int 0, .int 0, .int 0, .int 0, .int 0, .int 0, .int 0]))]) [1, 0] rfl
        have hD9 := hD.sub (ws' := [(h0, .inr (9, [.ref yb, .ref rd, .int 0, .int 0, .int (-1), .int 0, .int 0, .int 0, .int 0, .int 0])), (rd, .inr (10, [.ref v0, .ref v1, .ref v2, .ref v3, .ref v4, .ref v5, .ref v6, .int 0, .int 0, .int 0, .int 0, .int 0, .int 0, .int 0, .int 0, .int 0]))]) [1, 0] (by decide) rfl
        have hK9 := hK.sub (tys' := []) [] rfl
        exact W.zret (v := 1) hx hb hr rfl (fun t ht hW => ⟨⟨1, (), rfl, rfl, by rw [ht]; exact hP9, va_K.moved hW.alike hK9, hD9⟩, hS.F ht⟩) hS.2.2 dX9_parse_87
    · skip
      exact absurd cz6 (by decide)
def wk_f_X9_put_0 : List Cond := .code yX9_put cX9_put 3 none :: ([.fieldLink RX9 26 "SagMemory$Tape" "length" "I", .fieldLink RX9 9 "SagMemory$Tape" "bytes" "[I"] ++ (wsX90 ++ []))
theorem wkg_f_X9_put_0 : wk_f_X9_put_0.all goodWord = true := by decide +kernel
set_option maxHeartbeats 4000000 in
set_option maxRecDepth 100000 in
theorem f_X9_put_0 (l : Launch) (dC : Nat → ClassId) (dI : Nat → Nat → Nat) (sz : Nat) (h0 : Nat) (yb : Nat) (rd : Nat) (k0 : ClassId) (f0 : Nat → Int32) (p1 : Int32) : Met l yX9_put wk_f_X9_put_0 ({ frames := 0, cells := 0, slots := 0, locals := 0 }) (va_Pc [.ref h0, .int p1] (fun U => U.heap.size = sz ∧ va_P (dC, dI) vwCl [(h0, .inr (9, [.ref yb, .ref rd, .int 0, .int 0, .int (-1), .int 0, .int 0, .int 0, .int 0, .int 0])), (yb, .inl (k0, 700, .inl f0))] U.heap ∧ va_K (dC, dI) vwCl [(k0, .int)] U ∧ va_D (fun _ => True) [(h0, .inr (9, [.ref yb, .ref rd, .int 0, .int 0, .int (-1), .int 0, .int 0, .int 0, .int 0, .int 0])), (yb, .inl (k0, 700, .inl f0))])) (va_Qv (fun _ : Unit => True) (fun (_ : Unit) (t : State) => ∃ (e0 : Nat → Int32), va_P (dC, dI) vwCl [(h0, .inr (9, [.ref yb, .ref rd, .int 4, .int 0, .int (-1), .int 0, .int 0, .int 0, .int 0, .int 0])), (yb, .inl (k0, 700, .inl e0))] t.heap ∧ va_K (dC, dI) vwCl [(k0, .int)] t ∧ va_D (va_A [(h0, .inr (9, [.ref yb, .ref rd, .int 0, .int 0, .int (-1), .int 0, .int 0, .int 0, .int 0, .int 0])), (yb, .inl (k0, 700, .inl f0))] sz) [(h0, .inr (9, [.ref yb, .ref rd, .int 4, .int 0, .int (-1), .int 0, .int 0, .int 0, .int 0, .int 0])), (yb, .inl (k0, 700, .inl e0))]) (va_A [(h0, .inr (9, [.ref yb, .ref rd, .int 0, .int 0, .int (-1), .int 0, .int 0, .int 0, .int 0, .int 0])), (yb, .inl (k0, 700, .inl f0))] sz)) 0 0 (va_A [(h0, .inr (9, [.ref yb, .ref rd, .int 0, .int 0, .int (-1), .int 0, .int 0, .int 0, .int 0, .int 0])), (yb, .inl (k0, 700, .inl f0))] sz) := by
  refine Met.ofW (cc := cX9_put) (maxL := 3) (ret := none) (by decide) rfl ?_
  intro p e s m args below meth c s₁ B hml hv
  obtain ⟨rfl, hsz, hP, hK, hD0⟩ := hv
  have hx := B.exec
  have hb := B.bytes
  have hr := B.returns
  have hts := atoms_spec (ws := wk_f_X9_put_0) B.pre
  have hown : s.vm.findClass RX9 = some m.cls := findClass_of_methodNamed B.named
  have hlocks := B.notSynchronized
  subst hsz
  have hD := hD0.self (sz := s.heap.size)
  generalize hAe : va_A [(h0, .inr (9, [.ref yb, .ref rd, .int 0, .int 0, .int (-1), .int 0, .int 0, .int 0, .int 0, .int 0])), (yb, .inl (k0, 700, .inl f0))] s.heap.size = A at hD ⊢
  have hA : ∀ q : Nat, s.heap.size ≤ q → A q := fun q h => by rw [← hAe]; exact Or.inr h
  have hS : va_S A s.heap s.heap [] := va_S.rf
  have hP : va_P (dC, dI) vwCl [(h0, .inr (9, [.ref yb, .ref rd, .int 0, .int 0, .int (-1), .int 0, .int 0, .int 0, .int 0, .int 0])), (yb, .inl (k0, 700, .inl f0))] s.heap := hP
  have hl := lv_entry ([.ref h0, .int p1]) (n := 3) (Nat.le_of_ble_eq_true rfl)
  rw [lg_entry_eq]
  generalize (lg_sl ([.ref h0, .int p1]) ++ List.replicate (3 - (lg_sl ([.ref h0, .int p1])).length) Slot.unset).toArray = ls at hl ⊢
  have hl : lv_has ls 3 [(0, .ref h0), (1, .int p1)] := hl
  refine lv_bipush (v := 24) hx hb dX9_put_0 (by decide) ?_
  refine lv_istore_n (lv' := [(2, .int 24), (0, .ref h0), (1, .int p1)]) hx hb dX9_put_2 rfl hl (by decide) rfl (fun ls hl => ?_)
  refine lv_iload_n hx hb dX9_put_3 rfl (lv_at hl 0 rfl) ?_
  refine lv_if_lt (tgt := 49) hx hb dX9_put_4 (by decide) (fun cz1 => ?_) (fun cz1 => ?_)
  · skip
    exact absurd cz1 (by decide)
  · skip
    refine lv_aload_n hx hb dX9_put_7 rfl (lv_at hl 1 rfl) ?_
    refine va_get (D := (dC, dI)) (ci := 9) (v := .int 0) (C := RX9) (T := TX9) (N := 10) hx hb hts (fun w h => List.mem_cons_of_mem _ (List.mem_append_right _ (List.mem_append_left _ h))) hown hK hP 0 rfl rfl 2 (by decide) (hts (.fieldLink RX9 26 "SagMemory$Tape" "length" "I") (wl_mem 0 rfl)) (fun _ h9 => h9) rfl dX9_put_8 ?_
    refine lv_sipush (v := 700) hx hb dX9_put_11 (by decide) ?_
    refine lv_icmp_ge (tgt := 43) hx hb dX9_put_14 (by decide) (fun cz2 => ?_) (fun cz2 => ?_)
    · skip
      exact absurd cz2 (by decide)
    · skip
      refine lv_aload_n hx hb dX9_put_17 rfl (lv_at hl 1 rfl) ?_
      refine va_get (D := (dC, dI)) (ci := 9) (v := .ref yb) (C := RX9) (T := TX9) (N := 10) hx hb hts (fun w h => List.mem_cons_of_mem _ (List.mem_append_right _ (List.mem_append_left _ h))) hown hK hP 0 rfl rfl 0 (by decide) (hts (.fieldLink RX9 9 "SagMemory$Tape" "bytes" "[I") (wl_mem 1 rfl)) (fun _ h9 => h9) rfl dX9_put_18 ?_
      refine lv_aload_n hx hb dX9_put_21 rfl (lv_at hl 1 rfl) ?_
      refine va_get (D := (dC, dI)) (ci := 9) (v := .int 0) (C := RX9) (T := TX9) (N := 10) hx hb hts (fun w h => List.mem_cons_of_mem _ (List.mem_append_right _ (List.mem_append_left _ h))) hown hK hP 0 rfl rfl 2 (by decide) (hts (.fieldLink RX9 26 "SagMemory$Tape" "length" "I") (wl_mem 0 rfl)) (fun _ h9 => h9) rfl dX9_put_22 ?_
      refine lv_iload_n hx hb dX9_put_25 rfl (lv_at hl 2 rfl) ?_
      refine lv_iload_n hx hb dX9_put_26 rfl (lv_at hl 0 rfl) ?_
      refine lv_iushr hx hb dX9_put_27 rfl ?_
      refine lv_topi (fun xz3 exz3 => ?_)
      refine lv_sipush (v := 255) hx hb dX9_put_28 (by decide) ?_
      refine lv_iand hx hb dX9_put_31 ?_
      refine lv_topi (fun xz4 exz4 => ?_)
      refine va_iast hx hb hK hP hD hS 1 0 rfl rfl (by unfold vp_in; decide) dX9_put_32 (fun H locs hP hD hS => ?_)
      obtain ⟨fz5, hP, hD⟩ : ∃ fz5 : Nat → Int32, va_P (dC, dI) vwCl [(h0, .inr (9, [.ref yb, .ref rd, .int 0, .int 0, .int (-1), .int 0, .int 0, .int 0, .int 0, .int 0])), (yb, .inl (k0, 700, .inl fz5))] H ∧ va_D A [(h0, .inr (9, [.ref yb, .ref rd, .int 0, .int 0, .int (-1), .int 0, .int 0, .int 0, .int 0, .int 0])), (yb, .inl (k0, 700, .inl fz5))] := ⟨_, hP, hD⟩
      refine lv_aload_n hx hb dX9_put_33 rfl (lv_at hl 1 rfl) ?_
      refine lv_dup hx hb dX9_put_34 rfl ?_
      refine va_get (D := (dC, dI)) (ci := 9) (v := .int 0) (C := RX9) (T := TX9) (N := 10) hx hb hts (fun w h => List.mem_cons_of_mem _ (List.mem_append_right _ (List.mem_append_left _ h))) hown hK hP 0 rfl rfl 2 (by decide) (hts (.fieldLink RX9 26 "SagMemory$Tape" "length" "I") (wl_mem 0 rfl)) (fun _ h9 => h9) rfl dX9_put_35 ?_
      refine lv_iconst (v := 1) hx hb dX9_put_38 (by decide) ?_
      refine lv_iadd hx hb dX9_put_39 ?_
      refine lv_topi (fun xz6 exz6 => ?_)
      obtain rfl : xz6 = 1 := exz6.trans (by decide)
      refine va_put (D := (dC, dI)) (ci := 9) (v := .int 1) (ty := .int) (C := RX9) (T := TX9) (N := 10) hx hb hts (fun w h => List.mem_cons_of_mem _ (List.mem_append_right _ (List.mem_append_left _ h))) tyX9 tyX9_ok nmX9 hown hK hP hD hS 0 rfl rfl 2 (by decide) (hts (.fieldLink RX9 26 "SagMemory$Tape" "length" "I") (wl_mem 0 rfl)) (fun _ h9 => h9) rfl (by decide +kernel) rfl rfl (Nat.le_of_ble_eq_true rfl) dX9_put_40 (fun H locs hP hD hS => ?_)
      have hP : va_P (dC, dI) vwCl [(h0, .inr (9, [.ref yb, .ref rd, .int 1, .int 0, .int (-1), .int 0, .int 0, .int 0, .int 0, .int 0])), (yb, .inl (k0, 700, .inl fz5))] H := hP
      have hD : va_D A [(h0, .inr (9, [.ref yb, .ref rd, .int 1, .int 0, .int (-1), .int 0, .int 0, .int 0, .int 0, .int 0])), (yb, .inl (k0, 700, .inl fz5))] := hD
      refine lv_iinc (v := 16) (lv' := [(2, .int 16), (0, .ref h0), (1, .int p1)]) hx hb dX9_put_43 hl (k := 0) rfl (by decide) (by decide) rfl (fun ls hl => ?_)
      refine lv_goto (tgt := 3) hx hb dX9_put_46 (by decide) ?_
      refine lv_iload_n hx hb dX9_put_3 rfl (lv_at hl 0 rfl) ?_
      refine lv_if_lt (tgt := 49) hx hb dX9_put_4 (by decide) (fun cz7 => ?_) (fun cz7 => ?_)
      · skip
        exact absurd cz7 (by decide)
      · skip
        refine lv_aload_n hx hb dX9_put_7 rfl (lv_at hl 1 rfl) ?_
        refine va_get (D := (dC, dI)) (ci := 9) (v := .int 1) (C := RX9) (T := TX9) (N := 10) hx hb hts (fun w h => List.mem_cons_of_mem _ (List.mem_append_right _ (List.mem_append_left _ h))) hown hK hP 0 rfl rfl 2 (by decide) (hts (.fieldLink RX9 26 "SagMemory$Tape" "length" "I") (wl_mem 0 rfl)) (fun _ h9 => h9) rfl dX9_put_8 ?_
        refine lv_sipush (v := 700) hx hb dX9_put_11 (by decide) ?_
        refine lv_icmp_ge (tgt := 43) hx hb dX9_put_14 (by decide) (fun cz8 => ?_) (fun cz8 => ?_)
        · skip
          exact absurd cz8 (by decide)
        · skip
          refine lv_aload_n hx hb dX9_put_17 rfl (lv_at hl 1 rfl) ?_
          refine va_get (D := (dC, dI)) (ci := 9) (v := .ref yb) (C := RX9) (T := TX9) (N := 10) hx hb hts (fun w h => List.mem_cons_of_mem _ (List.mem_append_right _ (List.mem_append_left _ h))) hown hK hP 0 rfl rfl 0 (by decide) (hts (.fieldLink RX9 9 "SagMemory$Tape" "bytes" "[I") (wl_mem 1 rfl)) (fun _ h9 => h9) rfl dX9_put_18 ?_
          refine lv_aload_n hx hb dX9_put_21 rfl (lv_at hl 1 rfl) ?_
          refine va_get (D := (dC, dI)) (ci := 9) (v := .int 1) (C := RX9) (T := TX9) (N := 10) hx hb hts (fun w h => List.mem_cons_of_mem _ (List.mem_append_right _ (List.mem_append_left _ h))) hown hK hP 0 rfl rfl 2 (by decide) (hts (.fieldLink RX9 26 "SagMemory$Tape" "length" "I") (wl_mem 0 rfl)) (fun _ h9 => h9) rfl dX9_put_22 ?_
          refine lv_iload_n hx hb dX9_put_25 rfl (lv_at hl 2 rfl) ?_
          refine lv_iload_n hx hb dX9_put_26 rfl (lv_at hl 0 rfl) ?_
          refine lv_iushr hx hb dX9_put_27 rfl ?_
          refine lv_topi (fun xz9 exz9 => ?_)
          refine lv_sipush (v := 255) hx hb dX9_put_28 (by decide) ?_
          refine lv_iand hx hb dX9_put_31 ?_
          refine lv_topi (fun xz10 exz10 => ?_)
          refine va_iast hx hb hK hP hD hS 1 0 rfl rfl (by unfold vp_in; decide) dX9_put_32 (fun H locs hP hD hS => ?_)
          obtain ⟨fz11, hP, hD⟩ : ∃ fz11 : Nat → Int32, va_P (dC, dI) vwCl [(h0, .inr (9, [.ref yb, .ref rd, .int 1, .int 0, .int (-1), .int 0, .int 0, .int 0, .int 0, .int 0])), (yb, .inl (k0, 700, .inl fz11))] H ∧ va_D A [(h0, .inr (9, [.ref yb, .ref rd, .int 1, .int 0, .int (-1), .int 0, .int 0, .int 0, .int 0, .int 0])), (yb, .inl (k0, 700, .inl fz11))] := ⟨_, hP, hD⟩
          refine lv_aload_n hx hb dX9_put_33 rfl (lv_at hl 1 rfl) ?_
          refine lv_dup hx hb dX9_put_34 rfl ?_
          refine va_get (D := (dC, dI)) (ci := 9) (v := .int 1) (C := RX9) (T := TX9) (N := 10) hx hb hts (fun w h => List.mem_cons_of_mem _ (List.mem_append_right _ (List.mem_append_left _ h))) hown hK hP 0 rfl rfl 2 (by decide) (hts (.fieldLink RX9 26 "SagMemory$Tape" "length" "I") (wl_mem 0 rfl)) (fun _ h9 => h9) rfl dX9_put_35 ?_
          refine lv_iconst (v := 1) hx hb dX9_put_38 (by decide) ?_
          refine lv_iadd hx hb dX9_put_39 ?_
          refine lv_topi (fun xz12 exz12 => ?_)
          obtain rfl : xz12 = 2 := exz12.trans (by decide)
          refine va_put (D := (dC, dI)) (ci := 9) (v := .int 2) (ty := .int) (C := RX9) (T := TX9) (N := 10) hx hb hts (fun w h => List.mem_cons_of_mem _ (List.mem_append_right _ (List.mem_append_left _ h))) tyX9 tyX9_ok nmX9 hown hK hP hD hS 0 rfl rfl 2 (by decide) (hts (.fieldLink RX9 26 "SagMemory$Tape" "length" "I") (wl_mem 0 rfl)) (fun _ h9 => h9) rfl (by decide +kernel) rfl rfl (Nat.le_of_ble_eq_true rfl) dX9_put_40 (fun H locs hP hD hS => ?_)
          have hP : va_P (dC, dI) vwCl [(h0, .inr (9, [.ref yb, .ref rd, .int 2, .int 0, .int (-1), .int 0, .int 0, .int 0, .int 0, .int 0])), (yb, .inl (k0, 700, .inl fz11))] H := hP
          have hD : va_D A [(h0, .inr (9, [.ref yb, .ref rd, .int 2, .int 0, .int (-1), .int 0, .int 0, .int 0, .int 0, .int 0])), (yb, .inl (k0, 700, .inl fz11))] := hD
          refine lv_iinc (v := 8) (lv' := [(2, .int 8), (0, .ref h0), (1, .int p1)]) hx hb dX9_put_43 hl (k := 0) rfl (by decide) (by decide) rfl (fun ls hl => ?_)
          refine lv_goto (tgt := 3) hx hb dX9_put_46 (by decide) ?_
          refine lv_iload_n hx hb dX9_put_3 rfl (lv_at hl 0 rfl) ?_
          refine lv_if_lt (tgt := 49) hx hb dX9_put_4 (by decide) (fun cz13 => ?_) (fun cz13 => ?_)
          · skip
            exact absurd cz13 (by decide)
          · skip
            refine lv_aload_n hx hb dX9_put_7 rfl (lv_at hl 1 rfl) ?_
            refine va_get (D := (dC, dI)) (ci := 9) (v := .int 2) (C := RX9) (T := TX9) (N := 10) hx hb hts (fun w h => List.mem_cons_of_mem _ (List.mem_append_right _ (List.mem_append_left _ h))) hown hK hP 0 rfl rfl 2 (by decide) (hts (.fieldLink RX9 26 "SagMemory$Tape" "length" "I") (wl_mem 0 rfl)) (fun _ h9 => h9) rfl dX9_put_8 ?_
            refine lv_sipush (v := 700) hx hb dX9_put_11 (by decide) ?_
            refine lv_icmp_ge (tgt := 43) hx hb dX9_put_14 (by decide) (fun cz14 => ?_) (fun cz14 => ?_)
            · skip
              exact absurd cz14 (by decide)
            · skip
              refine lv_aload_n hx hb dX9_put_17 rfl (lv_at hl 1 rfl) ?_
              refine va_get (D := (dC, dI)) (ci := 9) (v := .ref yb) (C := RX9) (T := TX9) (N := 10) hx hb hts (fun w h => List.mem_cons_of_mem _ (List.mem_append_right _ (List.mem_append_left _ h))) hown hK hP 0 rfl rfl 0 (by decide) (hts (.fieldLink RX9 9 "SagMemory$Tape" "bytes" "[I") (wl_mem 1 rfl)) (fun _ h9 => h9) rfl dX9_put_18 ?_
              refine lv_aload_n hx hb dX9_put_21 rfl (lv_at hl 1 rfl) ?_
              refine va_get (D := (dC, dI)) (ci := 9) (v := .int 2) (C := RX9) (T := TX9) (N := 10) hx hb hts (fun w h => List.mem_cons_of_mem _ (List.mem_append_right _ (List.mem_append_left _ h))) hown hK hP 0 rfl rfl 2 (by decide) (hts (.fieldLink RX9 26 "SagMemory$Tape" "length" "I") (wl_mem 0 rfl)) (fun _ h9 => h9) rfl dX9_put_22 ?_
              refine lv_iload_n hx hb dX9_put_25 rfl (lv_at hl 2 rfl) ?_
              refine lv_iload_n hx hb dX9_put_26 rfl (lv_at hl 0 rfl) ?_
              refine lv_iushr hx hb dX9_put_27 rfl ?_
              refine lv_topi (fun xz15 exz15 => ?_)
              refine lv_sipush (v := 255) hx hb dX9_put_28 (by decide) ?_
              refine lv_iand hx hb dX9_put_31 ?_
              refine lv_topi (fun xz16 exz16 => ?_)
              refine va_iast hx hb hK hP hD hS 1 0 rfl rfl (by unfold vp_in; decide) dX9_put_32 (fun H locs hP hD hS => ?_)
              obtain ⟨fz17, hP, hD⟩ : ∃ fz17 : Nat → Int32, va_P (dC, dI) vwCl [(h0, .inr (9, [.ref yb, .ref rd, .int 2, .int 0, .int (-1), .int 0, .int 0, .int 0, .int 0, .int 0])), (yb, .inl (k0, 700, .inl fz17))] H ∧ va_D A [(h0, .inr (9, [.ref yb, .ref rd, .int 2, .int 0, .int (-1), .int 0, .int 0, .int 0, .int 0, .int 0])), (yb, .inl (k0, 700, .inl fz17))] := ⟨_, hP, hD⟩
              refine lv_aload_n hx hb dX9_put_33 rfl (lv_at hl 1 rfl) ?_
              refine lv_dup hx hb dX9_put_34 rfl ?_
              refine va_get (D := (dC, dI)) (ci := 9) (v := .int 2) (C := RX9) (T := TX9) (N := 10) hx hb hts (fun w h => List.mem_cons_of_mem _ (List.mem_append_right _ (List.mem_append_left _ h))) hown hK hP 0 rfl rfl 2 (by decide) (hts (.fieldLink RX9 26 "SagMemory$Tape" "length" "I") (wl_mem 0 rfl)) (fun _ h9 => h9) rfl dX9_put_35 ?_
              refine lv_iconst (v := 1) hx hb dX9_put_38 (by decide) ?_
              refine lv_iadd hx hb dX9_put_39 ?_
              refine lv_topi (fun xz18 exz18 => ?_)
              obtain rfl : xz18 = 3 := exz18.trans (by decide)
              refine va_put (D := (dC, dI)) (ci := 9) (v := .int 3) (ty := .int) (C := RX9) (T := TX9) (N := 10) hx hb hts (fun w h => List.mem_cons_of_mem _ (List.mem_append_right _ (List.mem_append_left _ h))) tyX9 tyX9_ok nmX9 hown hK hP hD hS 0 rfl rfl 2 (by decide) (hts (.fieldLink RX9 26 "SagMemory$Tape" "length" "I") (wl_mem 0 rfl)) (fun _ h9 => h9) rfl (by decide +kernel) rfl rfl (Nat.le_of_ble_eq_true rfl) dX9_put_40 (fun H locs hP hD hS => ?_)
              have hP : va_P (dC, dI) vwCl [(h0, .inr (9, [.ref yb, .ref rd, .int 3, .int 0, .int (-1), .int 0, .int 0, .int 0, .int 0, .int 0])), (yb, .inl (k0, 700, .inl fz17))] H := hP
              have hD : va_D A [(h0, .inr (9, [.ref yb, .ref rd, .int 3, .int 0, .int (-1), .int 0, .int 0, .int 0, .int 0, .int 0])), (yb, .inl (k0, 700, .inl fz17))] := hD
              refine lv_iinc (v := 0) (lv' := [(2, .int 0), (0, .ref h0), (1, .int p1)]) hx hb dX9_put_43 hl (k := 0) rfl (by decide) (by decide) rfl (fun ls hl => ?_)
              refine lv_goto (tgt := 3) hx hb dX9_put_46 (by decide) ?_
              refine lv_iload_n hx hb dX9_put_3 rfl (lv_at hl 0 rfl) ?_
              refine lv_if_lt (tgt := 49) hx hb dX9_put_4 (by decide) (fun cz19 => ?_) (fun cz19 => ?_)
              · skip
                exact absurd cz19 (by decide)
              · skip
                refine lv_aload_n hx hb dX9_put_7 rfl (lv_at hl 1 rfl) ?_
                refine va_get (D := (dC, dI)) (ci := 9) (v := .int 3) (C := RX9) (T := TX9) (N := 10) hx hb hts (fun w h => List.mem_cons_of_mem _ (List.mem_append_right _ (List.mem_append_left _ h))) hown hK hP 0 rfl rfl 2 (by decide) (hts (.fieldLink RX9 26 "SagMemory$Tape" "length" "I") (wl_mem 0 rfl)) (fun _ h9 => h9) rfl dX9_put_8 ?_
                refine lv_sipush (v := 700) hx hb dX9_put_11 (by decide) ?_
                refine lv_icmp_ge (tgt := 43) hx hb dX9_put_14 (by decide) (fun cz20 => ?_) (fun cz20 => ?_)
                · skip
                  exact absurd cz20 (by decide)
                · skip
                  refine lv_aload_n hx hb dX9_put_17 rfl (lv_at hl 1 rfl) ?_
                  refine va_get (D := (dC, dI)) (ci := 9) (v := .ref yb) (C := RX9) (T := TX9) (N := 10) hx hb hts (fun w h => List.mem_cons_of_mem _ (List.mem_append_right _ (List.mem_append_left _ h))) hown hK hP 0 rfl rfl 0 (by decide) (hts (.fieldLink RX9 9 "SagMemory$Tape" "bytes" "[I") (wl_mem 1 rfl)) (fun _ h9 => h9) rfl dX9_put_18 ?_
                  refine lv_aload_n hx hb dX9_put_21 rfl (lv_at hl 1 rfl) ?_
                  refine va_get (D := (dC, dI)) (ci := 9) (v := .int 3) (C := RX9) (T := TX9) (N := 10) hx hb hts (fun w h => List.mem_cons_of_mem _ (List.mem_append_right _ (List.mem_append_left _ h))) hown hK hP 0 rfl rfl 2 (by decide) (hts (.fieldLink RX9 26 "SagMemory$Tape" "length" "I") (wl_mem 0 rfl)) (fun _ h9 => h9) rfl dX9_put_22 ?_
                  refine lv_iload_n hx hb dX9_put_25 rfl (lv_at hl 2 rfl) ?_
                  refine lv_iload_n hx hb dX9_put_26 rfl (lv_at hl 0 rfl) ?_
                  refine lv_iushr hx hb dX9_put_27 rfl ?_
                  refine lv_topi (fun xz21 exz21 => ?_)
                  refine lv_sipush (v := 255) hx hb dX9_put_28 (by decide) ?_
                  refine lv_iand hx hb dX9_put_31 ?_
                  refine lv_topi (fun xz22 exz22 => ?_)
                  refine va_iast hx hb hK hP hD hS 1 0 rfl rfl (by unfold vp_in; decide) dX9_put_32 (fun H locs hP hD hS => ?_)
                  obtain ⟨fz23, hP, hD⟩ : ∃ fz23 : Nat → Int32, va_P (dC, dI) vwCl [(h0, .inr (9, [.ref yb, .ref rd, .int 3, .int 0, .int (-1), .int 0, .int 0, .int 0, .int 0, .int 0])), (yb, .inl (k0, 700, .inl fz23))] H ∧ va_D A [(h0, .inr (9, [.ref yb, .ref rd, .int 3, .int 0, .int (-1), .int 0, .int 0, .int 0, .int 0, .int 0])), (yb, .inl (k0, 700, .inl fz23))] := ⟨_, hP, hD⟩
                  refine lv_aload_n hx hb dX9_put_33 rfl (lv_at hl 1 rfl) ?_
                  refine lv_dup hx hb dX9_put_34 rfl ?_
                  refine va_get (D := (dC, dI)) (ci := 9) (v := .int 3) (C := RX9) (T := TX9) (N := 10) hx hb hts (fun w h => List.mem_cons_of_mem _ (List.mem_append_right _ (List.mem_append_left _ h))) hown hK hP 0 rfl rfl 2 (by decide) (hts (.fieldLink RX9 26 "SagMemory$Tape" "length" "I") (wl_mem 0 rfl)) (fun _ h9 => h9) rfl dX9_put_35 ?_
                  refine lv_iconst (v := 1) hx hb dX9_put_38 (by decide) ?_
                  refine lv_iadd hx hb dX9_put_39 ?_
                  refine lv_topi (fun xz24 exz24 => ?_)
                  obtain rfl : xz24 = 4 := exz24.trans (by decide)
                  refine va_put (D := (dC, dI)) (ci := 9) (v := .int 4) (ty := .int) (C := RX9) (T := TX9) (N := 10) hx hb hts (fun w h => List.mem_cons_of_mem _ (List.mem_append_right _ (List.mem_append_left _ h))) tyX9 tyX9_ok nmX9 hown hK hP hD hS 0 rfl rfl 2 (by decide) (hts (.fieldLink RX9 26 "SagMemory$Tape" "length" "I") (wl_mem 0 rfl)) (fun _ h9 => h9) rfl (by decide +kernel) rfl rfl (Nat.le_of_ble_eq_true rfl) dX9_put_40 (fun H locs hP hD hS => ?_)
                  have hP : va_P (dC, dI) vwCl [(h0, .inr (9, [.ref yb, .ref rd, .int 4, .int 0, .int (-1), .int 0, .int 0, .int 0, .int 0, .int 0])), (yb, .inl (k0, 700, .inl fz23))] H := hP
                  have hD : va_D A [(h0, .inr (9, [.ref yb, .ref rd, .int 4, .int 0, .int (-1), .int 0, .int 0, .int 0, .int 0, .int 0])), (yb, .inl (k0, 700, .inl fz23))] := hD
                  refine lv_iinc (v := (-8)) (lv' := [(2, .int (-8)), (0, .ref h0), (1, .int p1)]) hx hb dX9_put_43 hl (k := 0) rfl (by decide) (by decide) rfl (fun ls hl => ?_)
                  refine lv_goto (tgt := 3) hx hb dX9_put_46 (by decide) ?_
                  refine lv_iload_n hx hb dX9_put_3 rfl (lv_at hl 0 rfl) ?_
                  refine lv_if_lt (tgt := 49) hx hb dX9_put_4 (by decide) (fun cz25 => ?_) (fun cz25 => ?_)
                  · skip
                    have hP9 := hP.sub (ws' := [(h0, .inr (9, [.ref yb, .ref rd, .int 4, .int 0, .int (-1), .int 0, .int 0, .int 0, .int 0, .int 0])), (yb, .inl (k0, 700, .inl fz23))]) [0, 1] rfl
                    have hD9 := hD.sub (ws' := [(h0, .inr (9, [.ref yb, .ref rd, .int 4, .int 0, .int (-1), .int 0, .int 0, .int 0, .int 0, .int 0])), (yb, .inl (k0, 700, .inl fz23))]) [0, 1] (by decide) rfl
                    have hK9 := hK.sub (tys' := [(k0, .int)]) [0] rfl
                    exact W.vret hx hb hr (fun t ht hW => ⟨⟨(), rfl, trivial, fz23, by rw [ht]; exact hP9, va_K.moved hW.alike hK9, hD9⟩, hS.F ht⟩) hS.2.2 dX9_put_49
                  · skip
                    exact absurd cz25 (by decide)
def wk_f_X9_put_4 : List Cond := .code yX9_put cX9_put 3 none :: ([.fieldLink RX9 26 "SagMemory$Tape" "length" "I", .fieldLink RX9 9 "SagMemory$Tape" "bytes" "[I"] ++ (wsX90 ++ []))
theorem wkg_f_X9_put_4 : wk_f_X9_put_4.all goodWord = true := by decide +kernel
set_option maxHeartbeats 4000000 in
set_option maxRecDepth 100000 in
theorem f_X9_put_4 (l : Launch) (dC : Nat → ClassId) (dI : Nat → Nat → Nat) (sz : Nat) (h0 : Nat) (yb : Nat) (rd : Nat) (k0 : ClassId) (f0 : Nat → Int32) (p1 : Int32) : Met l yX9_put wk_f_X9_put_4 ({ frames := 0, cells := 0, slots := 0, locals := 0 }) (va_Pc [.ref h0, .int p1] (fun U => U.heap.size = sz ∧ va_P (dC, dI) vwCl [(h0, .inr (9, [.ref yb, .ref rd, .int 4, .int 0, .int (-1), .int 0, .int 0, .int 0, .int 0, .int 0])), (yb, .inl (k0, 700, .inl f0))] U.heap ∧ va_K (dC, dI) vwCl [(k0, .int)] U ∧ va_D (fun _ => True) [(h0, .inr (9, [.ref yb, .ref rd, .int 4, .int 0, .int (-1), .int 0, .int 0, .int 0, .int 0, .int 0])), (yb, .inl (k0, 700, .inl f0))])) (va_Qv (fun _ : Unit => True) (fun (_ : Unit) (t : State) => ∃ (e0 : Nat → Int32), va_P (dC, dI) vwCl [(h0, .inr (9, [.ref yb, .ref rd, .int 8, .int 0, .int (-1), .int 0, .int 0, .int 0, .int 0, .int 0])), (yb, .inl (k0, 700, .inl e0))] t.heap ∧ va_K (dC, dI) vwCl [(k0, .int)] t ∧ va_D (va_A [(h0, .inr (9, [.ref yb, .ref rd, .int 4, .int 0, .int (-1), .int 0, .int 0, .int 0, .int 0, .int 0])), (yb, .inl (k0, 700, .inl f0))] sz) [(h0, .inr (9, [.ref yb, .ref rd, .int 8, .int 0, .int (-1), .int 0, .int 0, .int 0, .int 0, .int 0])), (yb, .inl (k0, 700, .inl e0))]) (va_A [(h0, .inr (9, [.ref yb, .ref rd, .int 4, .int 0, .int (-1), .int 0, .int 0, .int 0, .int 0, .int 0])), (yb, .inl (k0, 700, .inl f0))] sz)) 0 0 (va_A [(h0, .inr (9, [.ref yb, .ref rd, .int 4, .int 0, .int (-1), .int 0, .int 0, .int 0, .int 0, .int 0])), (yb, .inl (k0, 700, .inl f0))] sz) := by
  refine Met.ofW (cc := cX9_put) (maxL := 3) (ret := none) (by decide) rfl ?_
  intro p e s m args below meth c s₁ B hml hv
  obtain ⟨rfl, hsz, hP, hK, hD0⟩ := hv
  have hx := B.exec
  have hb := B.bytes
  have hr := B.returns
  have hts := atoms_spec (ws := wk_f_X9_put_4) B.pre
  have hown : s.vm.findClass RX9 = some m.cls := findClass_of_methodNamed B.named
  have hlocks := B.notSynchronized
  subst hsz
  have hD := hD0.self (sz := s.heap.size)
  generalize hAe : va_A [(h0, .inr (9, [.ref yb, .ref rd, .int 4, .int 0, .int (-1), .int 0, .int 0, .int 0, .int 0, .int 0])), (yb, .inl (k0, 700, .inl f0))] s.heap.size = A at hD ⊢
  have hA : ∀ q : Nat, s.heap.size ≤ q → A q := fun q h => by rw [← hAe]; exact Or.inr h
  have hS : va_S A s.heap s.heap [] := va_S.rf
  have hP : va_P (dC, dI) vwCl [(h0, .inr (9, [.ref yb, .ref rd, .int 4, .int 0, .int (-1), .int 0, .int 0, .int 0, .int 0, .int 0])), (yb, .inl (k0, 700, .inl f0))] s.heap := hP
  have hl := lv_entry ([.ref h0, .int p1]) (n := 3) (Nat.le_of_ble_eq_true rfl)
  rw [lg_entry_eq]
  generalize (lg_sl ([.ref h0, .int p1]) ++ List.replicate (3 - (lg_sl ([.ref h0, .int p1])).length) Slot.unset).toArray = ls at hl ⊢
  have hl : lv_has ls 3 [(0, .ref h0), (1, .int p1)] := hl
  refine lv_bipush (v := 24) hx hb dX9_put_0 (by decide) ?_
  refine lv_istore_n (lv' := [(2, .int 24), (0, .ref h0), (1, .int p1)]) hx hb dX9_put_2 rfl hl (by decide) rfl (fun ls hl => ?_)
  refine lv_iload_n hx hb dX9_put_3 rfl (lv_at hl 0 rfl) ?_
  refine lv_if_lt (tgt := 49) hx hb dX9_put_4 (by decide) (fun cz1 => ?_) (fun cz1 => ?_)
  · skip
    exact absurd cz1 (by decide)
  · skip
    refine lv_aload_n hx hb dX9_put_7 rfl (lv_at hl 1 rfl) ?_
    refine va_get (D := (dC, dI)) (ci := 9) (v := .int 4) (C := RX9) (T := TX9) (N := 10) hx hb hts (fun w h => List.mem_cons_of_mem _ (List.mem_append_right _ (List.mem_append_left _ h))) hown hK hP 0 rfl rfl 2 (by decide) (hts (.fieldLink RX9 26 "SagMemory$Tape" "length" "I") (wl_mem 0 rfl)) (fun _ h9 => h9) rfl dX9_put_8 ?_
    refine lv_sipush (v := 700) hx hb dX9_put_11 (by decide) ?_
    refine lv_icmp_ge (tgt := 43) hx hb dX9_put_14 (by decide) (fun cz2 => ?_) (fun cz2 => ?_)
    · skip
      exact absurd cz2 (by decide)
    · skip
      refine lv_aload_n hx hb dX9_put_17 rfl (lv_at hl 1 rfl) ?_
      refine va_get (D := (dC, dI)) (ci := 9) (v := .ref yb) (C := RX9) (T := TX9) (N := 10) hx hb hts (fun w h => List.mem_cons_of_mem _ (List.mem_append_right _ (List.mem_append_left _ h))) hown hK hP 0 rfl rfl 0 (by decide) (hts (.fieldLink RX9 9 "SagMemory$Tape" "bytes" "[I") (wl_mem 1 rfl)) (fun _ h9 => h9) rfl dX9_put_18 ?_
      refine lv_aload_n hx hb dX9_put_21 rfl (lv_at hl 1 rfl) ?_
      refine va_get (D := (dC, dI)) (ci := 9) (v := .int 4) (C := RX9) (T := TX9) (N := 10) hx hb hts (fun w h => List.mem_cons_of_mem _ (List.mem_append_right _ (List.mem_append_left _ h))) hown hK hP 0 rfl rfl 2 (by decide) (hts (.fieldLink RX9 26 "SagMemory$Tape" "length" "I") (wl_mem 0 rfl)) (fun _ h9 => h9) rfl dX9_put_22 ?_
      refine lv_iload_n hx hb dX9_put_25 rfl (lv_at hl 2 rfl) ?_
      refine lv_iload_n hx hb dX9_put_26 rfl (lv_at hl 0 rfl) ?_
      refine lv_iushr hx hb dX9_put_27 rfl ?_
      refine lv_topi (fun xz3 exz3 => ?_)
      refine lv_sipush (v := 255) hx hb dX9_put_28 (by decide) ?_
      refine lv_iand hx hb dX9_put_31 ?_
      refine lv_topi (fun xz4 exz4 => ?_)
      refine va_iast hx hb hK hP hD hS 1 0 rfl rfl (by unfold vp_in; decide) dX9_put_32 (fun H locs hP hD hS => ?_)
      obtain ⟨fz5, hP, hD⟩ : ∃ fz5 : Nat → Int32, va_P (dC, dI) vwCl [(h0, .inr (9, [.ref yb, .ref rd, .int 4, .int 0, .int (-1), .int 0, .int 0, .int 0, .int 0, .int 0])), (yb, .inl (k0, 700, .inl fz5))] H ∧ va_D A [(h0, .inr (9, [.ref yb, .ref rd, .int 4, .int 0, .int (-1), .int 0, .int 0, .int 0, .int 0, .int 0])), (yb, .inl (k0, 700, .inl fz5))] := ⟨_, hP, hD⟩
      refine lv_aload_n hx hb dX9_put_33 rfl (lv_at hl 1 rfl) ?_
      refine lv_dup hx hb dX9_put_34 rfl ?_
      refine va_get (D := (dC, dI)) (ci := 9) (v := .int 4) (C := RX9) (T := TX9) (N := 10) hx hb hts (fun w h => List.mem_cons_of_mem _ (List.mem_append_right _ (List.mem_append_left _ h))) hown hK hP 0 rfl rfl 2 (by decide) (hts (.fieldLink RX9 26 "SagMemory$Tape" "length" "I") (wl_mem 0 rfl)) (fun _ h9 => h9) rfl dX9_put_35 ?_
      refine lv_iconst (v := 1) hx hb dX9_put_38 (by decide) ?_
      refine lv_iadd hx hb dX9_put_39 ?_
      refine lv_topi (fun xz6 exz6 => ?_)
      obtain rfl : xz6 = 5 := exz6.trans (by decide)
      refine va_put (D := (dC, dI)) (ci := 9) (v := .int 5) (ty := .int) (C := RX9) (T := TX9) (N := 10) hx hb hts (fun w h => List.mem_cons_of_mem _ (List.mem_append_right _ (List.mem_append_left _ h))) tyX9 tyX9_ok nmX9 hown hK hP hD hS 0 rfl rfl 2 (by decide) (hts (.fieldLink RX9 26 "SagMemory$Tape" "length" "I") (wl_mem 0 rfl)) (fun _ h9 => h9) rfl (by decide +kernel) rfl rfl (Nat.le_of_ble_eq_true rfl) dX9_put_40 (fun H locs hP hD hS => ?_)
      have hP : va_P (dC, dI) vwCl [(h0, .inr (9, [.ref yb, .ref rd, .int 5, .int 0, .int (-1), .int 0, .int 0, .int 0, .int 0, .int 0])), (yb, .inl (k0, 700, .inl fz5))] H := hP
      have hD : va_D A [(h0, .inr (9, [.ref yb, .ref rd, .int 5, .int 0, .int (-1), .int 0, .int 0, .int 0, .int 0, .int 0])), (yb, .inl (k0, 700, .inl fz5))] := hD
      refine lv_iinc (v := 16) (lv' := [(2, .int 16), (0, .ref h0), (1, .int p1)]) hx hb dX9_put_43 hl (k := 0) rfl (by decide) (by decide) rfl (fun ls hl => ?_)
      refine lv_goto (tgt := 3) hx hb dX9_put_46 (by decide) ?_
      refine lv_iload_n hx hb dX9_put_3 rfl (lv_at hl 0 rfl) ?_
      refine lv_if_lt (tgt := 49) hx hb dX9_put_4 (by decide) (fun cz7 => ?_) (fun cz7 => ?_)
      · skip
        exact absurd cz7 (by decide)
      · skip
        refine lv_aload_n hx hb dX9_put_7 rfl (lv_at hl 1 rfl) ?_
        refine va_get (D := (dC, dI)) (ci := 9) (v := .int 5) (C := RX9) (T := TX9) (N := 10) hx hb hts (fun w h => List.mem_cons_of_mem _ (List.mem_append_right _ (List.mem_append_left _ h))) hown hK hP 0 rfl rfl 2 (by decide) (hts (.fieldLink RX9 26 "SagMemory$Tape" "length" "I") (wl_mem 0 rfl)) (fun _ h9 => h9) rfl dX9_put_8 ?_
        refine lv_sipush (v := 700) hx hb dX9_put_11 (by decide) ?_
        refine lv_icmp_ge (tgt := 43) hx hb dX9_put_14 (by decide) (fun cz8 => ?_) (fun cz8 => ?_)
        · skip
          exact absurd cz8 (by decide)
        · skip
          refine lv_aload_n hx hb dX9_put_17 rfl (lv_at hl 1 rfl) ?_
          refine va_get (D := (dC, dI)) (ci := 9) (v := .ref yb) (C := RX9) (T := TX9) (N := 10) hx hb hts (fun w h => List.mem_cons_of_mem _ (List.mem_append_right _ (List.mem_append_left _ h))) hown hK hP 0 rfl rfl 0 (by decide) (hts (.fieldLink RX9 9 "SagMemory$Tape" "bytes" "[I") (wl_mem 1 rfl)) (fun _ h9 => h9) rfl dX9_put_18 ?_
          refine lv_aload_n hx hb dX9_put_21 rfl (lv_at hl 1 rfl) ?_
          refine va_get (D := (dC, dI)) (ci := 9) (v := .int 5) (C := RX9) (T := TX9) (N := 10) hx hb hts (fun w h => List.mem_cons_of_mem _ (List.mem_append_right _ (List.mem_append_left _ h))) hown hK hP 0 rfl rfl 2 (by decide) (hts (.fieldLink RX9 26 "SagMemory$Tape" "length" "I") (wl_mem 0 rfl)) (fun _ h9 => h9) rfl dX9_put_22 ?_
          refine lv_iload_n hx hb dX9_put_25 rfl (lv_at hl 2 rfl) ?_
          refine lv_iload_n hx hb dX9_put_26 rfl (lv_at hl 0 rfl) ?_
          refine lv_iushr hx hb dX9_put_27 rfl ?_
          refine lv_topi (fun xz9 exz9 => ?_)
          refine lv_sipush (v := 255) hx hb dX9_put_28 (by decide) ?_
          refine lv_iand hx hb dX9_put_31 ?_
          refine lv_topi (fun xz10 exz10 => ?_)
          refine va_iast hx hb hK hP hD hS 1 0 rfl rfl (by unfold vp_in; decide) dX9_put_32 (fun H locs hP hD hS => ?_)
          obtain ⟨fz11, hP, hD⟩ : ∃ fz11 : Nat → Int32, va_P (dC, dI) vwCl [(h0, .inr (9, [.ref yb, .ref rd, .int 5, .int 0, .int (-1), .int 0, .int 0, .int 0, .int 0, .int 0])), (yb, .inl (k0, 700, .inl fz11))] H ∧ va_D A [(h0, .inr (9, [.ref yb, .ref rd, .int 5, .int 0, .int (-1), .int 0, .int 0, .int 0, .int 0, .int 0])), (yb, .inl (k0, 700, .inl fz11))] := ⟨_, hP, hD⟩
          refine lv_aload_n hx hb dX9_put_33 rfl (lv_at hl 1 rfl) ?_
          refine lv_dup hx hb dX9_put_34 rfl ?_
          refine va_get (D := (dC, dI)) (ci := 9) (v := .int 5) (C := RX9) (T := TX9) (N := 10) hx hb hts (fun w h => List.mem_cons_of_mem _ (List.mem_append_right _ (List.mem_append_left _ h))) hown hK hP 0 rfl rfl 2 (by decide) (hts (.fieldLink RX9 26 "SagMemory$Tape" "length" "I") (wl_mem 0 rfl)) (fun _ h9 => h9) rfl dX9_put_35 ?_
          refine lv_iconst (v := 1) hx hb dX9_put_38 (by decide) ?_
          refine lv_iadd hx hb dX9_put_39 ?_
          refine lv_topi (fun xz12 exz12 => ?_)
          obtain rfl : xz12 = 6 := exz12.trans (by decide)
          refine va_put (D := (dC, dI)) (ci := 9) (v := .int 6) (ty := .int) (C := RX9) (T := TX9) (N := 10) hx hb hts (fun w h => List.mem_cons_of_mem _ (List.mem_append_right _ (List.mem_append_left _ h))) tyX9 tyX9_ok nmX9 hown hK hP hD hS 0 rfl rfl 2 (by decide) (hts (.fieldLink RX9 26 "SagMemory$Tape" "length" "I") (wl_mem 0 rfl)) (fun _ h9 => h9) rfl (by decide +kernel) rfl rfl (Nat.le_of_ble_eq_true rfl) dX9_put_40 (fun H locs hP hD hS => ?_)
          have hP : va_P (dC, dI) vwCl [(h0, .inr (9, [.ref yb, .ref rd, .int 6, .int 0, .int (-1), .int 0, .int 0, .int 0, .int 0, .int 0])), (yb, .inl (k0, 700, .inl fz11))] H := hP
          have hD : va_D A [(h0, .inr (9, [.ref yb, .ref rd, .int 6, .int 0, .int (-1), .int 0, .int 0, .int 0, .int 0, .int 0])), (yb, .inl (k0, 700, .inl fz11))] := hD
          refine lv_iinc (v := 8) (lv' := [(2, .int 8), (0, .ref h0), (1, .int p1)]) hx hb dX9_put_43 hl (k := 0) rfl (by decide) (by decide) rfl (fun ls hl => ?_)
          refine lv_goto (tgt := 3) hx hb dX9_put_46 (by decide) ?_
          refine lv_iload_n hx hb dX9_put_3 rfl (lv_at hl 0 rfl) ?_
          refine lv_if_lt (tgt := 49) hx hb dX9_put_4 (by decide) (fun cz13 => ?_) (fun cz13 => ?_)
          · skip
            exact absurd cz13 (by decide)
          · skip
            refine lv_aload_n hx hb dX9_put_7 rfl (lv_at hl 1 rfl) ?_
            refine va_get (D := (dC, dI)) (ci := 9) (v := .int 6) (C := RX9) (T := TX9) (N := 10) hx hb hts (fun w h => List.mem_cons_of_mem _ (List.mem_append_right _ (List.mem_append_left _ h))) hown hK hP 0 rfl rfl 2 (by decide) (hts (.fieldLink RX9 26 "SagMemory$Tape" "length" "I") (wl_mem 0 rfl)) (fun _ h9 => h9) rfl dX9_put_8 ?_
            refine lv_sipush (v := 700) hx hb dX9_put_11 (by decide) ?_
            refine lv_icmp_ge (tgt := 43) hx hb dX9_put_14 (by decide) (fun cz14 => ?_) (fun cz14 => ?_)
            · skip
              exact absurd cz14 (by decide)
            · skip
              refine lv_aload_n hx hb dX9_put_17 rfl (lv_at hl 1 rfl) ?_
              refine va_get (D := (dC, dI)) (ci := 9) (v := .ref yb) (C := RX9) (T := TX9) (N := 10) hx hb hts (fun w h => List.mem_cons_of_mem _ (List.mem_append_right _ (List.mem_append_left _ h))) hown hK hP 0 rfl rfl 0 (by decide) (hts (.fieldLink RX9 9 "SagMemory$Tape" "bytes" "[I") (wl_mem 1 rfl)) (fun _ h9 => h9) rfl dX9_put_18 ?_
              refine lv_aload_n hx hb dX9_put_21 rfl (lv_at hl 1 rfl) ?_
              refine va_get (D := (dC, dI)) (ci := 9) (v := .int 6) (C := RX9) (T := TX9) (N := 10) hx hb hts (fun w h => List.mem_cons_of_mem _ (List.mem_append_right _ (List.mem_append_left _ h))) hown hK hP 0 rfl rfl 2 (by decide) (hts (.fieldLink RX9 26 "SagMemory$Tape" "length" "I") (wl_mem 0 rfl)) (fun _ h9 => h9) rfl dX9_put_22 ?_
              refine lv_iload_n hx hb dX9_put_25 rfl (lv_at hl 2 rfl) ?_
              refine lv_iload_n hx hb dX9_put_26 rfl (lv_at hl 0 rfl) ?_
              refine lv_iushr hx hb dX9_put_27 rfl ?_
              refine lv_topi (fun xz15 exz15 => ?_)
              refine lv_sipush (v := 255) hx hb dX9_put_28 (by decide) ?_
              refine lv_iand hx hb dX9_put_31 ?_
              refine lv_topi (fun xz16 exz16 => ?_)
              refine va_iast hx hb hK hP hD hS 1 0 rfl rfl (by unfold vp_in; decide) dX9_put_32 (fun H locs hP hD hS => ?_)
              obtain ⟨fz17, hP, hD⟩ : ∃ fz17 : Nat → Int32, va_P (dC, dI) vwCl [(h0, .inr (9, [.ref yb, .ref rd, .int 6, .int 0, .int (-1), .int 0, .int 0, .int 0, .int 0, .int 0])), (yb, .inl (k0, 700, .inl fz17))] H ∧ va_D A [(h0, .inr (9, [.ref yb, .ref rd, .int 6, .int 0, .int (-1), .int 0, .int 0, .int 0, .int 0, .int 0])), (yb, .inl (k0, 700, .inl fz17))] := ⟨_, hP, hD⟩
              refine lv_aload_n hx hb dX9_put_33 rfl (lv_at hl 1 rfl) ?_
              refine lv_dup hx hb dX9_put_34 rfl ?_
              refine va_get (D := (dC, dI)) (ci := 9) (v := .int 6) (C := RX9) (T := TX9) (N := 10) hx hb hts (fun w h => List.mem_cons_of_mem _ (List.mem_append_right _ (List.mem_append_left _ h))) hown hK hP 0 rfl rfl 2 (by decide) (hts (.fieldLink RX9 26 "SagMemory$Tape" "length" "I") (wl_mem 0 rfl)) (fun _ h9 => h9) rfl dX9_put_35 ?_
              refine lv_iconst (v := 1) hx hb dX9_put_38 (by decide) ?_
              refine lv_iadd hx hb dX9_put_39 ?_
              refine lv_topi (fun xz18 exz18 => ?_)
              obtain rfl : xz18 = 7 := exz18.trans (by decide)
              refine va_put (D := (dC, dI)) (ci := 9) (v := .int 7) (ty := .int) (C := RX9) (T := TX9) (N := 10) hx hb hts (fun w h => List.mem_cons_of_mem _ (List.mem_append_right _ (List.mem_append_left _ h))) tyX9 tyX9_ok nmX9 hown hK hP hD hS 0 rfl rfl 2 (by decide) (hts (.fieldLink RX9 26 "SagMemory$Tape" "length" "I") (wl_mem 0 rfl)) (fun _ h9 => h9) rfl (by decide +kernel) rfl rfl (Nat.le_of_ble_eq_true rfl) dX9_put_40 (fun H locs hP hD hS => ?_)
              have hP : va_P (dC, dI) vwCl [(h0, .inr (9, [.ref yb, .ref rd, .int 7, .int 0, .int (-1), .int 0, .int 0, .int 0, .int 0, .int 0])), (yb, .inl (k0, 700, .inl fz17))] H := hP
              have hD : va_D A [(h0, .inr (9, [.ref yb, .ref rd, .int 7, .int 0, .int (-1), .int 0, .int 0, .int 0, .int 0, .int 0])), (yb, .inl (k0, 700, .inl fz17))] := hD
              refine lv_iinc (v := 0) (lv' := [(2, .int 0), (0, .ref h0), (1, .int p1)]) hx hb dX9_put_43 hl (k := 0) rfl (by decide) (by decide) rfl (fun ls hl => ?_)
              refine lv_goto (tgt := 3) hx hb dX9_put_46 (by decide) ?_
              refine lv_iload_n hx hb dX9_put_3 rfl (lv_at hl 0 rfl) ?_
              refine lv_if_lt (tgt := 49) hx hb dX9_put_4 (by decide) (fun cz19 => ?_) (fun cz19 => ?_)
              · skip
                exact absurd cz19 (by decide)
              · skip
                refine lv_aload_n hx hb dX9_put_7 rfl (lv_at hl 1 rfl) ?_
                refine va_get (D := (dC, dI)) (ci := 9) (v := .int 7) (C := RX9) (T := TX9) (N := 10) hx hb hts (fun w h => List.mem_cons_of_mem _ (List.mem_append_right _ (List.mem_append_left _ h))) hown hK hP 0 rfl rfl 2 (by decide) (hts (.fieldLink RX9 26 "SagMemory$Tape" "length" "I") (wl_mem 0 rfl)) (fun _ h9 => h9) rfl dX9_put_8 ?_
                refine lv_sipush (v := 700) hx hb dX9_put_11 (by decide) ?_
                refine lv_icmp_ge (tgt := 43) hx hb dX9_put_14 (by decide) (fun cz20 => ?_) (fun cz20 => ?_)
                · skip
                  exact absurd cz20 (by decide)
                · skip
                  refine lv_aload_n hx hb dX9_put_17 rfl (lv_at hl 1 rfl) ?_
                  refine va_get (D := (dC, dI)) (ci := 9) (v := .ref yb) (C := RX9) (T := TX9) (N := 10) hx hb hts (fun w h => List.mem_cons_of_mem _ (List.mem_append_right _ (List.mem_append_left _ h))) hown hK hP 0 rfl rfl 0 (by decide) (hts (.fieldLink RX9 9 "SagMemory$Tape" "bytes" "[I") (wl_mem 1 rfl)) (fun _ h9 => h9) rfl dX9_put_18 ?_
                  refine lv_aload_n hx hb dX9_put_21 rfl (lv_at hl 1 rfl) ?_
                  refine va_get (D := (dC, dI)) (ci := 9) (v := .int 7) (C := RX9) (T := TX9) (N := 10) hx hb hts (fun w h => List.mem_cons_of_mem _ (List.mem_append_right _ (List.mem_append_left _ h))) hown hK hP 0 rfl rfl 2 (by decide) (hts (.fieldLink RX9 26 "SagMemory$Tape" "length" "I") (wl_mem 0 rfl)) (fun _ h9 => h9) rfl dX9_put_22 ?_
                  refine lv_iload_n hx hb dX9_put_25 rfl (lv_at hl 2 rfl) ?_
                  refine lv_iload_n hx hb dX9_put_26 rfl (lv_at hl 0 rfl) ?_
                  refine lv_iushr hx hb dX9_put_27 rfl ?_
                  refine lv_topi (fun xz21 exz21 => ?_)
                  refine lv_sipush (v := 255) hx hb dX9_put_28 (by decide) ?_
                  refine lv_iand hx hb dX9_put_31 ?_
                  refine lv_topi (fun xz22 exz22 => ?_)
                  refine va_iast hx hb hK hP hD hS 1 0 rfl rfl (by unfold vp_in; decide) dX9_put_32 (fun H locs hP hD hS => ?_)
                  obtain ⟨fz23, hP, hD⟩ : ∃ fz23 : Nat → Int32, va_P (dC, dI) vwCl [(h0, .inr (9, [.ref yb, .ref rd, .int 7, .int 0, .int (-1), .int 0, .int 0, .int 0, .int 0, .int 0])), (yb, .inl (k0, 700, .inl fz23))] H ∧ va_D A [(h0, .inr (9, [.ref yb, .ref rd, .int 7, .int 0, .int (-1), .int 0, .int 0, .int 0, .int 0, .int 0])), (yb, .inl (k0, 700, .inl fz23))] := ⟨_, hP, hD⟩
                  refine lv_aload_n hx hb dX9_put_33 rfl (lv_at hl 1 rfl) ?_
                  refine lv_dup hx hb dX9_put_34 rfl ?_
                  refine va_get (D := (dC, dI)) (ci := 9) (v := .int 7) (C := RX9) (T := TX9) (N := 10) hx hb hts (fun w h => List.mem_cons_of_mem _ (List.mem_append_right _ (List.mem_append_left _ h))) hown hK hP 0 rfl rfl 2 (by decide) (hts (.fieldLink RX9 26 "SagMemory$Tape" "length" "I") (wl_mem 0 rfl)) (fun _ h9 => h9) rfl dX9_put_35 ?_
                  refine lv_iconst (v := 1) hx hb dX9_put_38 (by decide) ?_
                  refine lv_iadd hx hb dX9_put_39 ?_
                  refine lv_topi (fun xz24 exz24 => ?_)
                  obtain rfl : xz24 = 8 := exz24.trans (by decide)
                  refine va_put (D := (dC, dI)) (ci := 9) (v := .int 8) (ty := .int) (C := RX9) (T := TX9) (N := 10) hx hb hts (fun w h => List.mem_cons_of_mem _ (List.mem_append_right _ (List.mem_append_left _ h))) tyX9 tyX9_ok nmX9 hown hK hP hD hS 0 rfl rfl 2 (by decide) (hts (.fieldLink RX9 26 "SagMemory$Tape" "length" "I") (wl_mem 0 rfl)) (fun _ h9 => h9) rfl (by decide +kernel) rfl rfl (Nat.le_of_ble_eq_true rfl) dX9_put_40 (fun H locs hP hD hS => ?_)
                  have hP : va_P (dC, dI) vwCl [(h0, .inr (9, [.ref yb, .ref rd, .int 8, .int 0, .int (-1), .int 0, .int 0, .int 0, .int 0, .int 0])), (yb, .inl (k0, 700, .inl fz23))] H := hP
                  have hD : va_D A [(h0, .inr (9, [.ref yb, .ref rd, .int 8, .int 0, .int (-1), .int 0, .int 0, .int 0, .int 0, .int 0])), (yb, .inl (k0, 700, .inl fz23))] := hD
                  refine lv_iinc (v := (-8)) (lv' := [(2, .int (-8)), (0, .ref h0), (1, .int p1)]) hx hb dX9_put_43 hl (k := 0) rfl (by decide) (by decide) rfl (fun ls hl => ?_)
                  refine lv_goto (tgt := 3) hx hb dX9_put_46 (by decide) ?_
                  refine lv_iload_n hx hb dX9_put_3 rfl (lv_at hl 0 rfl) ?_
                  refine lv_if_lt (tgt := 49) hx hb dX9_put_4 (by decide) (fun cz25 => ?_) (fun cz25 => ?_)
                  · skip
                    have hP9 := hP.sub (ws' := [(h0, .inr (9, [.ref yb, .ref rd, .int 8, .int 0, .int (-1), .int 0, .int 0, .int 0, .int 0, .int 0])), (yb, .inl (k0, 700, .inl fz23))]) [0, 1] rfl
                    have hD9 := hD.sub (ws' := [(h0, .inr (9, [.ref yb, .ref rd, .int 8, .int 0, .int (-1), .int 0, .int 0, .int 0, .int 0, .int 0])), (yb, .inl (k0, 700, .inl fz23))]) [0, 1] (by decide) rfl
                    have hK9 := hK.sub (tys' := [(k0, .int)]) [0] rfl
                    exact W.vret hx hb hr (fun t ht hW => ⟨⟨(), rfl, trivial, fz23, by rw [ht]; exact hP9, va_K.moved hW.alike hK9, hD9⟩, hS.F ht⟩) hS.2.2 dX9_put_49
                  · skip
                    exact absurd cz25 (by decide)
def wk_f_X9_put_8 : List Cond := .code yX9_put cX9_put 3 none :: ([.fieldLink RX9 26 "SagMemory$Tape" "length" "I", .fieldLink RX9 9 "SagMemory$Tape" "bytes" "[I"] ++ (wsX90 ++ []))
theorem wkg_f_X9_put_8 : wk_f_X9_put_8.all goodWord = true := by decide +kernel
set_option maxHeartbeats 4000000 in
set_option maxRecDepth 100000 in
theorem f_X9_put_8 (l : Launch) (dC : Nat → ClassId) (dI : Nat → Nat → Nat) (sz : Nat) (h0 : Nat) (yb : Nat) (rd : Nat) (k0 : ClassId) (f0 : Nat → Int32) (p1 : Int32) : Met l yX9_put wk_f_X9_put_8 ({ frames := 0, cells := 0, slots := 0, locals := 0 }) (va_Pc [.ref h0, .int p1] (fun U => U.heap.size = sz ∧ va_P (dC, dI) vwCl [(h0, .inr (9, [.ref yb, .ref rd, .int 8, .int 0, .int (-1), .int 0, .int 0, .int 0, .int 0, .int 0])), (yb, .inl (k0, 700, .inl f0))] U.heap ∧ va_K (dC, dI) vwCl [(k0, .int)] U ∧ va_D (fun _ => True) [(h0, .inr (9, [.ref yb, .ref rd, .int 8, .int 0, .int (-1), .int 0, .int 0, .int 0, .int 0, .int 0])), (yb, .inl (k0, 700, .inl f0))])) (va_Qv (fun _ : Unit => True) (fun (_ : Unit) (t : State) => ∃ (e0 : Nat → Int32), va_P (dC, dI) vwCl [(h0, .inr (9, [.ref yb, .ref rd, .int 12, .int 0, .int (-1), .int 0, .int 0, .int 0, .int 0, .int 0])), (yb, .inl (k0, 700, .inl e0))] t.heap ∧ va_K (dC, dI) vwCl [(k0, .int)] t ∧ va_D (va_A [(h0, .inr (9, [.ref yb, .ref rd, .int 8, .int 0, .int (-1), .int 0, .int 0, .int 0, .int 0, .int 0])), (yb, .inl (k0, 700, .inl f0))] sz) [(h0, .inr (9, [.ref yb, .ref rd, .int 12, .int 0, .int (-1), .int 0, .int 0, .int 0, .int 0, .int 0])), (yb, .inl (k0, 700, .inl e0))]) (va_A [(h0, .inr (9, [.ref yb, .ref rd, .int 8, .int 0, .int (-1), .int 0, .int 0, .int 0, .int 0, .int 0])), (yb, .inl (k0, 700, .inl f0))] sz)) 0 0 (va_A [(h0, .inr (9, [.ref yb, .ref rd, .int 8, .int 0, .int (-1), .int 0, .int 0, .int 0, .int 0, .int 0])), (yb, .inl (k0, 700, .inl f0))] sz) := by
  refine Met.ofW (cc := cX9_put) (maxL := 3) (ret := none) (by decide) rfl ?_
  intro p e s m args below meth c s₁ B hml hv
  obtain ⟨rfl, hsz, hP, hK, hD0⟩ := hv
  have hx := B.exec
  have hb := B.bytes
  have hr := B.returns
  have hts := atoms_spec (ws := wk_f_X9_put_8) B.pre
  have hown : s.vm.findClass RX9 = some m.cls := findClass_of_methodNamed B.named
  have hlocks := B.notSynchronized
  subst hsz
  have hD := hD0.self (sz := s.heap.size)
  generalize hAe : va_A [(h0, .inr (9, [.ref yb, .ref rd, .int 8, .int 0, .int (-1), .int 0, .int 0, .int 0, .int 0, .int 0])), (yb, .inl (k0, 700, .inl f0))] s.heap.size = A at hD ⊢
  have hA : ∀ q : Nat, s.heap.size ≤ q → A q := fun q h => by rw [← hAe]; exact Or.inr h
  have hS : va_S A s.heap s.heap [] := va_S.rf
  have hP : va_P (dC, dI) vwCl [(h0, .inr (9, [.ref yb, .ref rd, .int 8, .int 0, .int (-1), .int 0, .int 0, .int 0, .int 0, .int 0])), (yb, .inl (k0, 700, .inl f0))] s.heap := hP
  have hl := lv_entry ([.ref h0, .int p1]) (n := 3) (Nat.le_of_ble_eq_true rfl)
  rw [lg_entry_eq]
  generalize (lg_sl ([.ref h0, .int p1]) ++ List.replicate (3 - (lg_sl ([.ref h0, .int p1])).length) Slot.unset).toArray = ls at hl ⊢
  have hl : lv_has ls 3 [(0, .ref h0), (1, .int p1)] := hl
  refine lv_bipush (v := 24) hx hb dX9_put_0 (by decide) ?_
  refine lv_istore_n (lv' := [(2, .int 24), (0, .ref h0), (1, .int p1)]) hx hb dX9_put_2 rfl hl (by decide) rfl (fun ls hl => ?_)
  refine lv_iload_n hx hb dX9_put_3 rfl (lv_at hl 0 rfl) ?_
  refine lv_if_lt (tgt := 49) hx hb dX9_put_4 (by decide) (fun cz1 => ?_) (fun cz1 => ?_)
  · skip
    exact absurd cz1 (by decide)
  · skip
    refine lv_aload_n hx hb dX9_put_7 rfl (lv_at hl 1 rfl) ?_
    refine va_get (D := (dC, dI)) (ci := 9) (v := .int 8) (C := RX9) (T := TX9) (N := 10) hx hb hts (fun w h => List.mem_cons_of_mem _ (List.mem_append_right _ (List.mem_append_left _ h))) hown hK hP 0 rfl rfl 2 (by decide) (hts (.fieldLink RX9 26 "SagMemory$Tape" "length" "I") (wl_mem 0 rfl)) (fun _ h9 => h9) rfl dX9_put_8 ?_
    refine lv_sipush (v := 700) hx hb dX9_put_11 (by decide) ?_
    refine lv_icmp_ge (tgt := 43) hx hb dX9_put_14 (by decide) (fun cz2 => ?_) (fun cz2 => ?_)
    · skip
      exact absurd cz2 (by decide)
    · skip
      refine lv_aload_n hx hb dX9_put_17 rfl (lv_at hl 1 rfl) ?_
      refine va_get (D := (dC, dI)) (ci := 9) (v := .ref yb) (C := RX9) (T := TX9) (N := 10) hx hb hts (fun w h => List.mem_cons_of_mem _ (List.mem_append_right _ (List.mem_append_left _ h))) hown hK hP 0 rfl rfl 0 (by decide) (hts (.fieldLink RX9 9 "SagMemory$Tape" "bytes" "[I") (wl_mem 1 rfl)) (fun _ h9 => h9) rfl dX9_put_18 ?_
      refine lv_aload_n hx hb dX9_put_21 rfl (lv_at hl 1 rfl) ?_
      refine va_get (D := (dC, dI)) (ci := 9) (v := .int 8) (C := RX9) (T := TX9) (N := 10) hx hb hts (fun w h => List.mem_cons_of_mem _ (List.mem_append_right _ (List.mem_append_left _ h))) hown hK hP 0 rfl rfl 2 (by decide) (hts (.fieldLink RX9 26 "SagMemory$Tape" "length" "I") (wl_mem 0 rfl)) (fun _ h9 => h9) rfl dX9_put_22 ?_
      refine lv_iload_n hx hb dX9_put_25 rfl (lv_at hl 2 rfl) ?_
      refine lv_iload_n hx hb dX9_put_26 rfl (lv_at hl 0 rfl) ?_
      refine lv_iushr hx hb dX9_put_27 rfl ?_
      refine lv_topi (fun xz3 exz3 => ?_)
      refine lv_sipush (v := 255) hx hb dX9_put_28 (by decide) ?_
      refine lv_iand hx hb dX9_put_31 ?_
      refine lv_topi (fun xz4 exz4 => ?_)
      refine va_iast hx hb hK hP hD hS 1 0 rfl rfl (by unfold vp_in; decide) dX9_put_32 (fun H locs hP hD hS => ?_)
      obtain ⟨fz5, hP, hD⟩ : ∃ fz5 : Nat → Int32, va_P (dC, dI) vwCl [(h0, .inr (9, [.ref yb, .ref rd, .int 8, .int 0, .int (-1), .int 0, .int 0, .int 0, .int 0, .int 0])), (yb, .inl (k0, 700, .inl fz5))] H ∧ va_D A [(h0, .inr (9, [.ref yb, .ref rd, .int 8, .int 0, .int (-1), .int 0, .int 0, .int 0, .int 0, .int 0])), (yb, .inl (k0, 700, .inl fz5))] := ⟨_, hP, hD⟩
      refine lv_aload_n hx hb dX9_put_33 rfl (lv_at hl 1 rfl) ?_
      refine lv_dup hx hb dX9_put_34 rfl ?_
      refine va_get (D := (dC, dI)) (ci := 9) (v := .int 8) (C := RX9) (T := TX9) (N := 10) hx hb hts (fun w h => List.mem_cons_of_mem _ (List.mem_append_right _ (List.mem_append_left _ h))) hown hK hP 0 rfl rfl 2 (by decide) (hts (.fieldLink RX9 26 "SagMemory$Tape" "length" "I") (wl_mem 0 rfl)) (fun _ h9 => h9) rfl dX9_put_35 ?_
      refine lv_iconst (v := 1) hx hb dX9_put_38 (by decide) ?_
      refine lv_iadd hx hb dX9_put_39 ?_
      refine lv_topi (fun xz6 exz6 => ?_)
      obtain rfl : xz6 = 9 := exz6.trans (by decide)
      refine va_put (D := (dC, dI)) (ci := 9) (v := .int 9) (ty := .int) (C := RX9) (T := TX9) (N := 10) hx hb hts (fun w h => List.mem_cons_of_mem _ (List.mem_append_right _ (List.mem_append_left _ h))) tyX9 tyX9_ok nmX9 hown hK hP hD hS 0 rfl rfl 2 (by decide) (hts (.fieldLink RX9 26 "SagMemory$Tape" "length" "I") (wl_mem 0 rfl)) (fun _ h9 => h9) rfl (by decide +kernel) rfl rfl (Nat.le_of_ble_eq_true rfl) dX9_put_40 (fun H locs hP hD hS => ?_)
      have hP : va_P (dC, dI) vwCl [(h0, .inr (9, [.ref yb, .ref rd, .int 9, .int 0, .int (-1), .int 0, .int 0, .int 0, .int 0, .int 0])), (yb, .inl (k0, 700, .inl fz5))] H := hP
      have hD : va_D A [(h0, .inr (9, [.ref yb, .ref rd, .int 9, .int 0, .int (-1), .int 0, .int 0, .int 0, .int 0, .int 0])), (yb, .inl (k0, 700, .inl fz5))] := hD
      refine lv_iinc (v := 16) (lv' := [(2, .int 16), (0, .ref h0), (1, .int p1)]) hx hb dX9_put_43 hl (k := 0) rfl (by decide) (by decide) rfl (fun ls hl => ?_)
      refine lv_goto (tgt := 3) hx hb dX9_put_46 (by decide) ?_
      refine lv_iload_n hx hb dX9_put_3 rfl (lv_at hl 0 rfl) ?_
      refine lv_if_lt (tgt := 49) hx hb dX9_put_4 (by decide) (fun cz7 => ?_) (fun cz7 => ?_)
      · skip
        exact absurd cz7 (by decide)
      · skip
        refine lv_aload_n hx hb dX9_put_7 rfl (lv_at hl 1 rfl) ?_
        refine va_get (D := (dC, dI)) (ci := 9) (v := .int 9) (C := RX9) (T := TX9) (N := 10) hx hb hts (fun w h => List.mem_cons_of_mem _ (List.mem_append_right _ (List.mem_append_left _ h))) hown hK hP 0 rfl rfl 2 (by decide) (hts (.fieldLink RX9 26 "SagMemory$Tape" "length" "I") (wl_mem 0 rfl)) (fun _ h9 => h9) rfl dX9_put_8 ?_
        refine lv_sipush (v := 700) hx hb dX9_put_11 (by decide) ?_
        refine lv_icmp_ge (tgt := 43) hx hb dX9_put_14 (by decide) (fun cz8 => ?_) (fun cz8 => ?_)
        · skip
          exact absurd cz8 (by decide)
        · skip
          refine lv_aload_n hx hb dX9_put_17 rfl (lv_at hl 1 rfl) ?_
          refine va_get (D := (dC, dI)) (ci := 9) (v := .ref yb) (C := RX9) (T := TX9) (N := 10) hx hb hts (fun w h => List.mem_cons_of_mem _ (List.mem_append_right _ (List.mem_append_left _ h))) hown hK hP 0 rfl rfl 0 (by decide) (hts (.fieldLink RX9 9 "SagMemory$Tape" "bytes" "[I") (wl_mem 1 rfl)) (fun _ h9 => h9) rfl dX9_put_18 ?_
          refine lv_aload_n hx hb dX9_put_21 rfl (lv_at hl 1 rfl) ?_
          refine va_get (D := (dC, dI)) (ci := 9) (v := .int 9) (C := RX9) (T := TX9) (N := 10) hx hb hts (fun w h => List.mem_cons_of_mem _ (List.mem_append_right _ (List.mem_append_left _ h))) hown hK hP 0 rfl rfl 2 (by decide) (hts (.fieldLink RX9 26 "SagMemory$Tape" "length" "I") (wl_mem 0 rfl)) (fun _ h9 => h9) rfl dX9_put_22 ?_
          refine lv_iload_n hx hb dX9_put_25 rfl (lv_at hl 2 rfl) ?_
          refine lv_iload_n hx hb dX9_put_26 rfl (lv_at hl 0 rfl) ?_
          refine lv_iushr hx hb dX9_put_27 rfl ?_
          refine lv_topi (fun xz9 exz9 => ?_)
          refine lv_sipush (v := 255) hx hb dX9_put_28 (by decide) ?_
          refine lv_iand hx hb dX9_put_31 ?_
          refine lv_topi (fun xz10 exz10 => ?_)
          refine va_iast hx hb hK hP hD hS 1 0 rfl rfl (by unfold vp_in; decide) dX9_put_32 (fun H locs hP hD hS => ?_)
          obtain ⟨fz11, hP, hD⟩ : ∃ fz11 : Nat → Int32, va_P (dC, dI) vwCl [(h0, .inr (9, [.ref yb, .ref rd, .int 9, .int 0, .int (-1), .int 0, .int 0, .int 0, .int 0, .int 0])), (yb, .inl (k0, 700, .inl fz11))] H ∧ va_D A [(h0, .inr (9, [.ref yb, .ref rd, .int 9, .int 0, .int (-1), .int 0, .int 0, .int 0, .int 0, .int 0])), (yb, .inl (k0, 700, .inl fz11))] := ⟨_, hP, hD⟩
          refine lv_aload_n hx hb dX9_put_33 rfl (lv_at hl 1 rfl) ?_
          refine lv_dup hx hb dX9_put_34 rfl ?_
          refine va_get (D := (dC, dI)) (ci := 9) (v := .int 9) (C := RX9) (T := TX9) (N := 10) hx hb hts (fun w h => List.mem_cons_of_mem _ (List.mem_append_right _ (List.mem_append_left _ h))) hown hK hP 0 rfl rfl 2 (by decide) (hts (.fieldLink RX9 26 "SagMemory$Tape" "length" "I") (wl_mem 0 rfl)) (fun _ h9 => h9) rfl dX9_put_35 ?_
          refine lv_iconst (v := 1) hx hb dX9_put_38 (by decide) ?_
          refine lv_iadd hx hb dX9_put_39 ?_
          refine lv_topi (fun xz12 exz12 => ?_)
          obtain rfl : xz12 = 10 := exz12.trans (by decide)
          refine va_put (D := (dC, dI)) (ci := 9) (v := .int 10) (ty := .int) (C := RX9) (T := TX9) (N := 10) hx hb hts (fun w h => List.mem_cons_of_mem _ (List.mem_append_right _ (List.mem_append_left _ h))) tyX9 tyX9_ok nmX9 hown hK hP hD hS 0 rfl rfl 2 (by decide) (hts (.fieldLink RX9 26 "SagMemory$Tape" "length" "I") (wl_mem 0 rfl)) (fun _ h9 => h9) rfl (by decide +kernel) rfl rfl (Nat.le_of_ble_eq_true rfl) dX9_put_40 (fun H locs hP hD hS => ?_)
          have hP : va_P (dC, dI) vwCl [(h0, .inr (9, [.ref yb, .ref rd, .int 10, .int 0, .int (-1), .int 0, .int 0, .int 0, .int 0, .int 0])), (yb, .inl (k0, 700, .inl fz11))] H := hP
          have hD : va_D A [(h0, .inr (9, [.ref yb, .ref rd, .int 10, .int 0, .int (-1), .int 0, .int 0, .int 0, .int 0, .int 0])), (yb, .inl (k0, 700, .inl fz11))] := hD
          refine lv_iinc (v := 8) (lv' := [(2, .int 8), (0, .ref h0), (1, .int p1)]) hx hb dX9_put_43 hl (k := 0) rfl (by decide) (by decide) rfl (fun ls hl => ?_)
          refine lv_goto (tgt := 3) hx hb dX9_put_46 (by decide) ?_
          refine lv_iload_n hx hb dX9_put_3 rfl (lv_at hl 0 rfl) ?_
          refine lv_if_lt (tgt := 49) hx hb dX9_put_4 (by decide) (fun cz13 => ?_) (fun cz13 => ?_)
          · skip
            exact absurd cz13 (by decide)
          · skip
            refine lv_aload_n hx hb dX9_put_7 rfl (lv_at hl 1 rfl) ?_
            refine va_get (D := (dC, dI)) (ci := 9) (v := .int 10) (C := RX9) (T := TX9) (N := 10) hx hb hts (fun w h => List.mem_cons_of_mem _ (List.mem_append_right _ (List.mem_append_left _ h))) hown hK hP 0 rfl rfl 2 (by decide) (hts (.fieldLink RX9 26 "SagMemory$Tape" "length" "I") (wl_mem 0 rfl)) (fun _ h9 => h9) rfl dX9_put_8 ?_
            refine lv_sipush (v := 700) hx hb dX9_put_11 (by decide) ?_
            refine lv_icmp_ge (tgt := 43) hx hb dX9_put_14 (by decide) (fun cz14 => ?_) (fun cz14 => ?_)
            · skip
              exact absurd cz14 (by decide)
            · skip
              refine lv_aload_n hx hb dX9_put_17 rfl (lv_at hl 1 rfl) ?_
              refine va_get (D := (dC, dI)) (ci := 9) (v := .ref yb) (C := RX9) (T := TX9) (N := 10) hx hb hts (fun w h => List.mem_cons_of_mem _ (List.mem_append_right _ (List.mem_append_left _ h))) hown hK hP 0 rfl rfl 0 (by decide) (hts (.fieldLink RX9 9 "SagMemory$Tape" "bytes" "[I") (wl_mem 1 rfl)) (fun _ h9 => h9) rfl dX9_put_18 ?_
              refine lv_aload_n hx hb dX9_put_21 rfl (lv_at hl 1 rfl) ?_
              refine va_get (D := (dC, dI)) (ci := 9) (v := .int 10) (C := RX9) (T := TX9) (N := 10) hx hb hts (fun w h => List.mem_cons_of_mem _ (List.mem_append_right _ (List.mem_append_left _ h))) hown hK hP 0 rfl rfl 2 (by decide) (hts (.fieldLink RX9 26 "SagMemory$Tape" "length" "I") (wl_mem 0 rfl)) (fun _ h9 => h9) rfl dX9_put_22 ?_
              refine lv_iload_n hx hb dX9_put_25 rfl (lv_at hl 2 rfl) ?_
              refine lv_iload_n hx hb dX9_put_26 rfl (lv_at hl 0 rfl) ?_
              refine lv_iushr hx hb dX9_put_27 rfl ?_
              refine lv_topi (fun xz15 exz15 => ?_)
              refine lv_sipush (v := 255) hx hb dX9_put_28 (by decide) ?_
              refine lv_iand hx hb dX9_put_31 ?_
              refine lv_topi (fun xz16 exz16 => ?_)
              refine va_iast hx hb hK hP hD hS 1 0 rfl rfl (by unfold vp_in; decide) dX9_put_32 (fun H locs hP hD hS => ?_)
              obtain ⟨fz17, hP, hD⟩ : ∃ fz17 : Nat → Int32, va_P (dC, dI) vwCl [(h0, .inr (9, [.ref yb, .ref rd, .int 10, .int 0, .int (-1), .int 0, .int 0, .int 0, .int 0, .int 0])), (yb, .inl (k0, 700, .inl fz17))] H ∧ va_D A [(h0, .inr (9, [.ref yb, .ref rd, .int 10, .int 0, .int (-1), .int 0, .int 0, .int 0, .int 0, .int 0])), (yb, .inl (k0, 700, .inl fz17))] := ⟨_, hP, hD⟩
              refine lv_aload_n hx hb dX9_put_33 rfl (lv_at hl 1 rfl) ?_
              refine lv_dup hx hb dX9_put_34 rfl ?_
              refine va_get (D := (dC, dI)) (ci := 9) (v := .int 10) (C := RX9) (T := TX9) (N := 10) hx hb hts (fun w h => List.mem_cons_of_mem _ (List.mem_append_right _ (List.mem_append_left _ h))) hown hK hP 0 rfl rfl 2 (by decide) (hts (.fieldLink RX9 26 "SagMemory$Tape" "length" "I") (wl_mem 0 rfl)) (fun _ h9 => h9) rfl dX9_put_35 ?_
              refine lv_iconst (v := 1) hx hb dX9_put_38 (by decide) ?_
              refine lv_iadd hx hb dX9_put_39 ?_
              refine lv_topi (fun xz18 exz18 => ?_)
              obtain rfl : xz18 = 11 := exz18.trans (by decide)
              refine va_put (D := (dC, dI)) (ci := 9) (v := .int 11) (ty := .int) (C := RX9) (T := TX9) (N := 10) hx hb hts (fun w h => List.mem_cons_of_mem _ (List.mem_append_right _ (List.mem_append_left _ h))) tyX9 tyX9_ok nmX9 hown hK hP hD hS 0 rfl rfl 2 (by decide) (hts (.fieldLink RX9 26 "SagMemory$Tape" "length" "I") (wl_mem 0 rfl)) (fun _ h9 => h9) rfl (by decide +kernel) rfl rfl (Nat.le_of_ble_eq_true rfl) dX9_put_40 (fun H locs hP hD hS => ?_)
              have hP : va_P (dC, dI) vwCl [(h0, .inr (9, [.ref yb, .ref rd, .int 11, .int 0, .int (-1), .int 0, .int 0, .int 0, .int 0, .int 0])), (yb, .inl (k0, 700, .inl fz17))] H := hP
              have hD : va_D A [(h0, .inr (9, [.ref yb, .ref rd, .int 11, .int 0, .int (-1), .int 0, .int 0, .int 0, .int 0, .int 0])), (yb, .inl (k0, 700, .inl fz17))] := hD
              refine lv_iinc (v := 0) (lv' := [(2, .int 0), (0, .ref h0), (1, .int p1)]) hx hb dX9_put_43 hl (k := 0) rfl (by decide) (by decide) rfl (fun ls hl => ?_)
              refine lv_goto (tgt := 3) hx hb dX9_put_46 (by decide) ?_
              refine lv_iload_n hx hb dX9_put_3 rfl (lv_at hl 0 rfl) ?_
              refine lv_if_lt (tgt := 49) hx hb dX9_put_4 (by decide) (fun cz19 => ?_) (fun cz19 => ?_)
              · skip
                exact absurd cz19 (by decide)
              · skip
                refine lv_aload_n hx hb dX9_put_7 rfl (lv_at hl 1 rfl) ?_
                refine va_get (D := (dC, dI)) (ci := 9) (v := .int 11) (C := RX9) (T := TX9) (N := 10) hx hb hts (fun w h => List.mem_cons_of_mem _ (List.mem_append_right _ (List.mem_append_left _ h))) hown hK hP 0 rfl rfl 2 (by decide) (hts (.fieldLink RX9 26 "SagMemory$Tape" "length" "I") (wl_mem 0 rfl)) (fun _ h9 => h9) rfl dX9_put_8 ?_
                refine lv_sipush (v := 700) hx hb dX9_put_11 (by decide) ?_
                refine lv_icmp_ge (tgt := 43) hx hb dX9_put_14 (by decide) (fun cz20 => ?_) (fun cz20 => ?_)
                · skip
                  exact absurd cz20 (by decide)
                · skip
                  refine lv_aload_n hx hb dX9_put_17 rfl (lv_at hl 1 rfl) ?_
                  refine va_get (D := (dC, dI)) (ci := 9) (v := .ref yb) (C := RX9) (T := TX9) (N := 10) hx hb hts (fun w h => List.mem_cons_of_mem _ (List.mem_append_right _ (List.mem_append_left _ h))) hown hK hP 0 rfl rfl 0 (by decide) (hts (.fieldLink RX9 9 "SagMemory$Tape" "bytes" "[I") (wl_mem 1 rfl)) (fun _ h9 => h9) rfl dX9_put_18 ?_
                  refine lv_aload_n hx hb dX9_put_21 rfl (lv_at hl 1 rfl) ?_
                  refine va_get (D := (dC, dI)) (ci := 9) (v := .int 11) (C := RX9) (T := TX9) (N := 10) hx hb hts (fun w h => List.mem_cons_of_mem _ (List.mem_append_right _ (List.mem_append_left _ h))) hown hK hP 0 rfl rfl 2 (by decide) (hts (.fieldLink RX9 26 "SagMemory$Tape" "length" "I") (wl_mem 0 rfl)) (fun _ h9 => h9) rfl dX9_put_22 ?_
                  refine lv_iload_n hx hb dX9_put_25 rfl (lv_at hl 2 rfl) ?_
                  refine lv_iload_n hx hb dX9_put_26 rfl (lv_at hl 0 rfl) ?_
                  refine lv_iushr hx hb dX9_put_27 rfl ?_
                  refine lv_topi (fun xz21 exz21 => ?_)
                  refine lv_sipush (v := 255) hx hb dX9_put_28 (by decide) ?_
                  refine lv_iand hx hb dX9_put_31 ?_
                  refine lv_topi (fun xz22 exz22 => ?_)
                  refine va_iast hx hb hK hP hD hS 1 0 rfl rfl (by unfold vp_in; decide) dX9_put_32 (fun H locs hP hD hS => ?_)
                  obtain ⟨fz23, hP, hD⟩ : ∃ fz23 : Nat → Int32, va_P (dC, dI) vwCl [(h0, .inr (9, [.ref yb, .ref rd, .int 11, .int 0, .int (-1), .int 0, .int 0, .int 0, .int 0, .int 0])), (yb, .inl (k0, 700, .inl fz23))] H ∧ va_D A [(h0, .inr (9, [.ref yb, .ref rd, .int 11, .int 0, .int (-1), .int 0, .int 0, .int 0, .int 0, .int 0])), (yb, .inl (k0, 700, .inl fz23))] := ⟨_, hP, hD⟩
                  refine lv_aload_n hx hb dX9_put_33 rfl (lv_at hl 1 rfl) ?_
                  refine lv_dup hx hb dX9_put_34 rfl ?_
                  refine va_get (D := (dC, dI)) (ci := 9) (v := .int 11) (C := RX9) (T := TX9) (N := 10) hx hb hts (fun w h => List.mem_cons_of_mem _ (List.mem_append_right _ (List.mem_append_left _ h))) hown hK hP 0 rfl rfl 2 (by decide) (hts (.fieldLink RX9 26 "SagMemory$Tape" "length" "I") (wl_mem 0 rfl)) (fun _ h9 => h9) rfl dX9_put_35 ?_
                  refine lv_iconst (v := 1) hx hb dX9_put_38 (by decide) ?_
                  refine lv_iadd hx hb dX9_put_39 ?_
                  refine lv_topi (fun xz24 exz24 => ?_)
                  obtain rfl : xz24 = 12 := exz24.trans (by decide)
                  refine va_put (D := (dC, dI)) (ci := 9) (v := .int 12) (ty := .int) (C := RX9) (T := TX9) (N := 10) hx hb hts (fun w h => List.mem_cons_of_mem _ (List.mem_append_right _ (List.mem_append_left _ h))) tyX9 tyX9_ok nmX9 hown hK hP hD hS 0 rfl rfl 2 (by decide) (hts (.fieldLink RX9 26 "SagMemory$Tape" "length" "I") (wl_mem 0 rfl)) (fun _ h9 => h9) rfl (by decide +kernel) rfl rfl (Nat.le_of_ble_eq_true rfl) dX9_put_40 (fun H locs hP hD hS => ?_)
                  have hP : va_P (dC, dI) vwCl [(h0, .inr (9, [.ref yb, .ref rd, .int 12, .int 0, .int (-1), .int 0, .int 0, .int 0, .int 0, .int 0])), (yb, .inl (k0, 700, .inl fz23))] H := hP
                  have hD : va_D A [(h0, .inr (9, [.ref yb, .ref rd, .int 12, .int 0, .int (-1), .int 0, .int 0, .int 0, .int 0, .int 0])), (yb, .inl (k0, 700, .inl fz23))] := hD
                  refine lv_iinc (v := (-8)) (lv' := [(2, .int (-8)), (0, .ref h0), (1, .int p1)]) hx hb dX9_put_43 hl (k := 0) rfl (by decide) (by decide) rfl (fun ls hl => ?_)
                  refine lv_goto (tgt := 3) hx hb dX9_put_46 (by decide) ?_
                  refine lv_iload_n hx hb dX9_put_3 rfl (lv_at hl 0 rfl) ?_
                  refine lv_if_lt (tgt := 49) hx hb dX9_put_4 (by decide) (fun cz25 => ?_) (fun cz25 => ?_)
                  · skip
                    have hP9 := hP.sub (ws' := [(h0, .inr (9, [.ref yb, .ref rd, .int 12, .int 0, .int (-1), .int 0, .int 0, .int 0, .int 0, .int 0])), (yb, .inl (k0, 700, .inl fz23))]) [0, 1] rfl
                    have hD9 := hD.sub (ws' := [(h0, .inr (9, [.ref yb, .ref rd, .int 12, .int 0, .int (-1), .int 0, .int 0, .int 0, .int 0, .int 0])), (yb, .inl (k0, 700, .inl fz23))]) [0, 1] (by decide) rfl
                    have hK9 := hK.sub (tys' := [(k0, .int)]) [0] rfl
                    exact W.vret hx hb hr (fun t ht hW => ⟨⟨(), rfl, trivial, fz23, by rw [ht]; exact hP9, va_K.moved hW.alike hK9, hD9⟩, hS.F ht⟩) hS.2.2 dX9_put_49
                  · skip
                    exact absurd cz25 (by decide)
def wk_f_X9_put_12 : List Cond := .code yX9_put cX9_put 3 none :: ([.fieldLink RX9 26 "SagMemory$Tape" "length" "I", .fieldLink RX9 9 "SagMemory$Tape" "bytes" "[I"] ++ (wsX90 ++ []))
theorem wkg_f_X9_put_12 : wk_f_X9_put_12.all goodWord = true := by decide +kernel
set_option maxHeartbeats 4000000 in
set_option maxRecDepth 100000 in
theorem f_X9_put_12 (l : Launch) (dC : Nat → ClassId) (dI : Nat → Nat → Nat) (sz : Nat) (h0 : Nat) (yb : Nat) (rd : Nat) (k0 : ClassId) (f0 : Nat → Int32) (p1 : Int32) : Met l yX9_put wk_f_X9_put_12 ({ frames := 0, cells := 0, slots := 0, locals := 0 }) (va_Pc [.ref h0, .int p1] (fun U => U.heap.size = sz ∧ va_P (dC, dI) vwCl [(h0, .inr (9, [.ref yb, .ref rd, .int 12, .int 0, .int (-1), .int 0, .int 0, .int 0, .int 0, .int 0])), (yb, .inl (k0, 700, .inl f0))] U.heap ∧ va_K (dC, dI) vwCl [(k0, .int)] U ∧ va_D (fun _ => True) [(h0, .inr (9, [.ref yb, .ref rd, .int 12, .int 0, .int (-1), .int 0, .int 0, .int 0, .int 0, .int 0])), (yb, .inl (k0, 700, .inl f0))])) (va_Qv (fun _ : Unit => True) (fun (_ : Unit) (t : State) => ∃ (e0 : Nat → Int32), va_P (dC, dI) vwCl [(h0, .inr (9, [.ref yb, .ref rd, .int 16, .int 0, .int (-1), .int 0, .int 0, .int 0, .int 0, .int 0])), (yb, .inl (k0, 700, .inl e0))] t.heap ∧ va_K (dC, dI) vwCl [(k0, .int)] t ∧ va_D (va_A [(h0, .inr (9, [.ref yb, .ref rd, .int 12, .int 0, .int (-1), .int 0, .int 0, .int 0, .int 0, .int 0])), (yb, .inl (k0, 700, .inl f0))] sz) [(h0, .inr (9, [.ref yb, .ref rd, .int 16, .int 0, .int (-1), .int 0, .int 0, .int 0, .int 0, .int 0])), (yb, .inl (k0, 700, .inl e0))]) (va_A [(h0, .inr (9, [.ref yb, .ref rd, .int 12, .int 0, .int (-1), .int 0, .int 0, .int 0, .int 0, .int 0])), (yb, .inl (k0, 700, .inl f0))] sz)) 0 0 (va_A [(h0, .inr (9, [.ref yb, .ref rd, .int 12, .int 0, .int (-1), .int 0, .int 0, .int 0, .int 0, .int 0])), (yb, .inl (k0, 700, .inl f0))] sz) := by
  refine Met.ofW (cc := cX9_put) (maxL := 3) (ret := none) (by decide) rfl ?_
  intro p e s m args below meth c s₁ B hml hv
  obtain ⟨rfl, hsz, hP, hK, hD0⟩ := hv
  have hx := B.exec
  have hb := B.bytes
  have hr := B.returns
  have hts := atoms_spec (ws := wk_f_X9_put_12) B.pre
  have hown : s.vm.findClass RX9 = some m.cls := findClass_of_methodNamed B.named
  have hlocks := B.notSynchronized
  subst hsz
  have hD := hD0.self (sz := s.heap.size)
  generalize hAe : va_A [(h0, .inr (9, [.ref yb, .ref rd, .int 12, .int 0, .int (-1), .int 0, .int 0, .int 0, .int 0, .int 0])), (yb, .inl (k0, 700, .inl f0))] s.heap.size = A at hD ⊢
  have hA : ∀ q : Nat, s.heap.size ≤ q → A q := fun q h => by rw [← hAe]; exact Or.inr h
  have hS : va_S A s.heap s.heap [] := va_S.rf
  have hP : va_P (dC, dI) vwCl [(h0, .inr (9, [.ref yb, .ref rd, .int 12, .int 0, .int (-1), .int 0, .int 0, .int 0, .int 0, .int 0])), (yb, .inl (k0, 700, .inl f0))] s.heap := hP
  have hl := lv_entry ([.ref h0, .int p1]) (n := 3) (Nat.le_of_ble_eq_true rfl)
  rw [lg_entry_eq]
  generalize (lg_sl ([.ref h0, .int p1]) ++ List.replicate (3 - (lg_sl ([.ref h0, .int p1])).length) Slot.unset).toArray = ls at hl ⊢
  have hl : lv_has ls 3 [(0, .ref h0), (1, .int p1)] := hl
  refine lv_bipush (v := 24) hx hb dX9_put_0 (by decide) ?_
  refine lv_istore_n (lv' := [(2, .int 24), (0, .ref h0), (1, .int p1)]) hx hb dX9_put_2 rfl hl (by decide) rfl (fun ls hl => ?_)
  refine lv_iload_n hx hb dX9_put_3 rfl (lv_at hl 0 rfl) ?_
  refine lv_if_lt (tgt := 49) hx hb dX9_put_4 (by decide) (fun cz1 => ?_) (fun cz1 => ?_)
  · skip
    exact absurd cz1 (by decide)
  · skip
    refine lv_aload_n hx hb dX9_put_7 rfl (lv_at hl 1 rfl) ?_
    refine va_get (D := (dC, dI)) (ci := 9) (v := .int 12) (C := RX9) (T := TX9) (N := 10) hx hb hts (fun w h => List.mem_cons_of_mem _ (List.mem_append_right _ (List.mem_append_left _ h))) hown hK hP 0 rfl rfl 2 (by decide) (hts (.fieldLink RX9 26 "SagMemory$Tape" "length" "I") (wl_mem 0 rfl)) (fun _ h9 => h9) rfl dX9_put_8 ?_
    refine lv_sipush (v := 700) hx hb dX9_put_11 (by decide) ?_
    refine lv_icmp_ge (tgt := 43) hx hb dX9_put_14 (by decide) (fun cz2 => ?_) (fun cz2 => ?_)
    · skip
      exact absurd cz2 (by decide)
    · skip
      refine lv_aload_n hx hb dX9_put_17 rfl (lv_at hl 1 rfl) ?_
      refine va_get (D := (dC, dI)) (ci := 9) (v := .ref yb) (C := RX9) (T := TX9) (N := 10) hx hb hts (fun w h => List.mem_cons_of_mem _ (List.mem_append_right _ (List.mem_append_left _ h))) hown hK hP 0 rfl rfl 0 (by decide) (hts (.fieldLink RX9 9 "SagMemory$Tape" "bytes" "[I") (wl_mem 1 rfl)) (fun _ h9 => h9) rfl dX9_put_18 ?_
      refine lv_aload_n hx hb dX9_put_21 rfl (lv_at hl 1 rfl) ?_
      refine va_get (D := (dC, dI)) (ci := 9) (v := .int 12) (C := RX9) (T := TX9) (N := 10) hx hb hts (fun w h => List.mem_cons_of_mem _ (List.mem_append_right _ (List.mem_append_left _ h))) hown hK hP 0 rfl rfl 2 (by decide) (hts (.fieldLink RX9 26 "SagMemory$Tape" "length" "I") (wl_mem 0 rfl)) (fun _ h9 => h9) rfl dX9_put_22 ?_
      refine lv_iload_n hx hb dX9_put_25 rfl (lv_at hl 2 rfl) ?_
      refine lv_iload_n hx hb dX9_put_26 rfl (lv_at hl 0 rfl) ?_
      refine lv_iushr hx hb dX9_put_27 rfl ?_
      refine lv_topi (fun xz3 exz3 => ?_)
      refine lv_sipush (v := 255) hx hb dX9_put_28 (by decide) ?_
      refine lv_iand hx hb dX9_put_31 ?_
      refine lv_topi (fun xz4 exz4 => ?_)
      refine va_iast hx hb hK hP hD hS 1 0 rfl rfl (by unfold vp_in; decide) dX9_put_32 (fun H locs hP hD hS => ?_)
      obtain ⟨fz5, hP, hD⟩ : ∃ fz5 : Nat → Int32, va_P (dC, dI) vwCl [(h0, .inr (9, [.ref yb, .ref rd, .int 12, .int 0, .int (-1), .int 0, .int 0, .int 0, .int 0, .int 0])), (yb, .inl (k0, 700, .inl fz5))] H ∧ va_D A [(h0, .inr (9, [.ref yb, .ref rd, .int 12, .int 0, .int (-1), .int 0, .int 0, .int 0, .int 0, .int 0])), (yb, .inl (k0, 700, .inl fz5))] := ⟨_, hP, hD⟩
      refine lv_aload_n hx hb dX9_put_33 rfl (lv_at hl 1 rfl) ?_
      refine lv_dup hx hb dX9_put_34 rfl ?_
      refine va_get (D := (dC, dI)) (ci := 9) (v := .int 12) (C := RX9) (T := TX9) (N := 10) hx hb hts (fun w h => List.mem_cons_of_mem _ (List.mem_append_right _ (List.mem_append_left _ h))) hown hK hP 0 rfl rfl 2 (by decide) (hts (.fieldLink RX9 26 "SagMemory$Tape" "length" "I") (wl_mem 0 rfl)) (fun _ h9 => h9) rfl dX9_put_35 ?_
      refine lv_iconst (v := 1) hx hb dX9_put_38 (by decide) ?_
      refine lv_iadd hx hb dX9_put_39 ?_
      refine lv_topi (fun xz6 exz6 => ?_)
      obtain rfl : xz6 = 13 := exz6.trans (by decide)
      refine va_put (D := (dC, dI)) (ci := 9) (v := .int 13) (ty := .int) (C := RX9) (T := TX9) (N := 10) hx hb hts (fun w h => List.mem_cons_of_mem _ (List.mem_append_right _ (List.mem_append_left _ h))) tyX9 tyX9_ok nmX9 hown hK hP hD hS 0 rfl rfl 2 (by decide) (hts (.fieldLink RX9 26 "SagMemory$Tape" "length" "I") (wl_mem 0 rfl)) (fun _ h9 => h9) rfl (by decide +kernel) rfl rfl (Nat.le_of_ble_eq_true rfl) dX9_put_40 (fun H locs hP hD hS => ?_)
      have hP : va_P (dC, dI) vwCl [(h0, .inr (9, [.ref yb, .ref rd, .int 13, .int 0, .int (-1), .int 0, .int 0, .int 0, .int 0, .int 0])), (yb, .inl (k0, 700, .inl fz5))] H := hP
      have hD : va_D A [(h0, .inr (9, [.ref yb, .ref rd, .int 13, .int 0, .int (-1), .int 0, .int 0, .int 0, .int 0, .int 0])), (yb, .inl (k0, 700, .inl fz5))] := hD
      refine lv_iinc (v := 16) (lv' := [(2, .int 16), (0, .ref h0), (1, .int p1)]) hx hb dX9_put_43 hl (k := 0) rfl (by decide) (by decide) rfl (fun ls hl => ?_)
      refine lv_goto (tgt := 3) hx hb dX9_put_46 (by decide) ?_
      refine lv_iload_n hx hb dX9_put_3 rfl (lv_at hl 0 rfl) ?_
      refine lv_if_lt (tgt := 49) hx hb dX9_put_4 (by decide) (fun cz7 => ?_) (fun cz7 => ?_)
      · skip
        exact absurd cz7 (by decide)
      · skip
        refine lv_aload_n hx hb dX9_put_7 rfl (lv_at hl 1 rfl) ?_
        refine va_get (D := (dC, dI)) (ci := 9) (v := .int 13) (C := RX9) (T := TX9) (N := 10) hx hb hts (fun w h => List.mem_cons_of_mem _ (List.mem_append_right _ (List.mem_append_left _ h))) hown hK hP 0 rfl rfl 2 (by decide) (hts (.fieldLink RX9 26 "SagMemory$Tape" "length" "I") (wl_mem 0 rfl)) (fun _ h9 => h9) rfl dX9_put_8 ?_
        refine lv_sipush (v := 700) hx hb dX9_put_11 (by decide) ?_
        refine lv_icmp_ge (tgt := 43) hx hb dX9_put_14 (by decide) (fun cz8 => ?_) (fun cz8 => ?_)
        · skip
          exact absurd cz8 (by decide)
        · skip
          refine lv_aload_n hx hb dX9_put_17 rfl (lv_at hl 1 rfl) ?_
          refine va_get (D := (dC, dI)) (ci := 9) (v := .ref yb) (C := RX9) (T := TX9) (N := 10) hx hb hts (fun w h => List.mem_cons_of_mem _ (List.mem_append_right _ (List.mem_append_left _ h))) hown hK hP 0 rfl rfl 0 (by decide) (hts (.fieldLink RX9 9 "SagMemory$Tape" "bytes" "[I") (wl_mem 1 rfl)) (fun _ h9 => h9) rfl dX9_put_18 ?_
          refine lv_aload_n hx hb dX9_put_21 rfl (lv_at hl 1 rfl) ?_
          refine va_get (D := (dC, dI)) (ci := 9) (v := .int 13) (C := RX9) (T := TX9) (N := 10) hx hb hts (fun w h => List.mem_cons_of_mem _ (List.mem_append_right _ (List.mem_append_left _ h))) hown hK hP 0 rfl rfl 2 (by decide) (hts (.fieldLink RX9 26 "SagMemory$Tape" "length" "I") (wl_mem 0 rfl)) (fun _ h9 => h9) rfl dX9_put_22 ?_
          refine lv_iload_n hx hb dX9_put_25 rfl (lv_at hl 2 rfl) ?_
          refine lv_iload_n hx hb dX9_put_26 rfl (lv_at hl 0 rfl) ?_
          refine lv_iushr hx hb dX9_put_27 rfl ?_
          refine lv_topi (fun xz9 exz9 => ?_)
          refine lv_sipush (v := 255) hx hb dX9_put_28 (by decide) ?_
          refine lv_iand hx hb dX9_put_31 ?_
          refine lv_topi (fun xz10 exz10 => ?_)
          refine va_iast hx hb hK hP hD hS 1 0 rfl rfl (by unfold vp_in; decide) dX9_put_32 (fun H locs hP hD hS => ?_)
          obtain ⟨fz11, hP, hD⟩ : ∃ fz11 : Nat → Int32, va_P (dC, dI) vwCl [(h0, .inr (9, [.ref yb, .ref rd, .int 13, .int 0, .int (-1), .int 0, .int 0, .int 0, .int 0, .int 0])), (yb, .inl (k0, 700, .inl fz11))] H ∧ va_D A [(h0, .inr (9, [.ref yb, .ref rd, .int 13, .int 0, .int (-1), .int 0, .int 0, .int 0, .int 0, .int 0])), (yb, .inl (k0, 700, .inl fz11))] := ⟨_, hP, hD⟩
          refine lv_aload_n hx hb dX9_put_33 rfl (lv_at hl 1 rfl) ?_
          refine lv_dup hx hb dX9_put_34 rfl ?_
          refine va_get (D := (dC, dI)) (ci := 9) (v := .int 13) (C := RX9) (T := TX9) (N := 10) hx hb hts (fun w h => List.mem_cons_of_mem _ (List.mem_append_right _ (List.mem_append_left _ h))) hown hK hP 0 rfl rfl 2 (by decide) (hts (.fieldLink RX9 26 "SagMemory$Tape" "length" "I") (wl_mem 0 rfl)) (fun _ h9 => h9) rfl dX9_put_35 ?_
          refine lv_iconst (v := 1) hx hb dX9_put_38 (by decide) ?_
          refine lv_iadd hx hb dX9_put_39 ?_
          refine lv_topi (fun xz12 exz12 => ?_)
          obtain rfl : xz12 = 14 := exz12.trans (by decide)
          refine va_put (D := (dC, dI)) (ci := 9) (v := .int 14) (ty := .int) (C := RX9) (T := TX9) (N := 10) hx hb hts (fun w h => List.mem_cons_of_mem _ (List.mem_append_right _ (List.mem_append_left _ h))) tyX9 tyX9_ok nmX9 hown hK hP hD hS 0 rfl rfl 2 (by decide) (hts (.fieldLink RX9 26 "SagMemory$Tape" "length" "I") (wl_mem 0 rfl)) (fun _ h9 => h9) rfl (by decide +kernel) rfl rfl (Nat.le_of_ble_eq_true rfl) dX9_put_40 (fun H locs hP hD hS => ?_)
          have hP : va_P (dC, dI) vwCl [(h0, .inr (9, [.ref yb, .ref rd, .int 14, .int 0, .int (-1), .int 0, .int 0, .int 0, .int 0, .int 0])), (yb, .inl (k0, 700, .inl fz11))] H := hP
          have hD : va_D A [(h0, .inr (9, [.ref yb, .ref rd, .int 14, .int 0, .int (-1), .int 0, .int 0, .int 0, .int 0, .int 0])), (yb, .inl (k0, 700, .inl fz11))] := hD
          refine lv_iinc (v := 8) (lv' := [(2, .int 8), (0, .ref h0), (1, .int p1)]) hx hb dX9_put_43 hl (k := 0) rfl (by decide) (by decide) rfl (fun ls hl => ?_)
          refine lv_goto (tgt := 3) hx hb dX9_put_46 (by decide) ?_
          refine lv_iload_n hx hb dX9_put_3 rfl (lv_at hl 0 rfl) ?_
          refine lv_if_lt (tgt := 49) hx hb dX9_put_4 (by decide) (fun cz13 => ?_) (fun cz13 => ?_)
          · skip
            exact absurd cz13 (by decide)
          · skip
            refine lv_aload_n hx hb dX9_put_7 rfl (lv_at hl 1 rfl) ?_
            refine va_get (D := (dC, dI)) (ci := 9) (v := .int 14) (C := RX9) (T := TX9) (N := 10) hx hb hts (fun w h => List.mem_cons_of_mem _ (List.mem_append_right _ (List.mem_append_left _ h))) hown hK hP 0 rfl rfl 2 (by decide) (hts (.fieldLink RX9 26 "SagMemory$Tape" "length" "I") (wl_mem 0 rfl)) (fun _ h9 => h9) rfl dX9_put_8 ?_
            refine lv_sipush (v := 700) hx hb dX9_put_11 (by decide) ?_
            refine lv_icmp_ge (tgt := 43) hx hb dX9_put_14 (by decide) (fun cz14 => ?_) (fun cz14 => ?_)
            · skip
              exact absurd cz14 (by decide)
            · skip
              refine lv_aload_n hx hb dX9_put_17 rfl (lv_at hl 1 rfl) ?_
              refine va_get (D := (dC, dI)) (ci := 9) (v := .ref yb) (C := RX9) (T := TX9) (N := 10) hx hb hts (fun w h => List.mem_cons_of_mem _ (List.mem_append_right _ (List.mem_append_left _ h))) hown hK hP 0 rfl rfl 0 (by decide) (hts (.fieldLink RX9 9 "SagMemory$Tape" "bytes" "[I") (wl_mem 1 rfl)) (fun _ h9 => h9) rfl dX9_put_18 ?_
              refine lv_aload_n hx hb dX9_put_21 rfl (lv_at hl 1 rfl) ?_
              refine va_get (D := (dC, dI)) (ci := 9) (v := .int 14) (C := RX9) (T := TX9) (N := 10) hx hb hts (fun w h => List.mem_cons_of_mem _ (List.mem_append_right _ (List.mem_append_left _ h))) hown hK hP 0 rfl rfl 2 (by decide) (hts (.fieldLink RX9 26 "SagMemory$Tape" "length" "I") (wl_mem 0 rfl)) (fun _ h9 => h9) rfl dX9_put_22 ?_
              refine lv_iload_n hx hb dX9_put_25 rfl (lv_at hl 2 rfl) ?_
              refine lv_iload_n hx hb dX9_put_26 rfl (lv_at hl 0 rfl) ?_
              refine lv_iushr hx hb dX9_put_27 rfl ?_
              refine lv_topi (fun xz15 exz15 => ?_)
              refine lv_sipush (v := 255) hx hb dX9_put_28 (by decide) ?_
              refine lv_iand hx hb dX9_put_31 ?_
              refine lv_topi (fun xz16 exz16 => ?_)
              refine va_iast hx hb hK hP hD hS 1 0 rfl rfl (by unfold vp_in; decide) dX9_put_32 (fun H locs hP hD hS => ?_)
              obtain ⟨fz17, hP, hD⟩ : ∃ fz17 : Nat → Int32, va_P (dC, dI) vwCl [(h0, .inr (9, [.ref yb, .ref rd, .int 14, .int 0, .int (-1), .int 0, .int 0, .int 0, .int 0, .int 0])), (yb, .inl (k0, 700, .inl fz17))] H ∧ va_D A [(h0, .inr (9, [.ref yb, .ref rd, .int 14, .int 0, .int (-1), .int 0, .int 0, .int 0, .int 0, .int 0])), (yb, .inl (k0, 700, .inl fz17))] := ⟨_, hP, hD⟩
              refine lv_aload_n hx hb dX9_put_33 rfl (lv_at hl 1 rfl) ?_
              refine lv_dup hx hb dX9_put_34 rfl ?_
              refine va_get (D := (dC, dI)) (ci := 9) (v := .int 14) (C := RX9) (T := TX9) (N := 10) hx hb hts (fun w h => List.mem_cons_of_mem _ (List.mem_append_right _ (List.mem_append_left _ h))) hown hK hP 0 rfl rfl 2 (by decide) (hts (.fieldLink RX9 26 "SagMemory$Tape" "length" "I") (wl_mem 0 rfl)) (fun _ h9 => h9) rfl dX9_put_35 ?_
              refine lv_iconst (v := 1) hx hb dX9_put_38 (by decide) ?_
              refine lv_iadd hx hb dX9_put_39 ?_
              refine lv_topi (fun xz18 exz18 => ?_)
              obtain rfl : xz18 = 15 := exz18.trans (by decide)
              refine va_put (D := (dC, dI)) (ci := 9) (v := .int 15) (ty := .int) (C := RX9) (T := TX9) (N := 10) hx hb hts (fun w h => List.mem_cons_of_mem _ (List.mem_append_right _ (List.mem_append_left _ h))) tyX9 tyX9_ok nmX9 hown hK hP hD hS 0 rfl rfl 2 (by decide) (hts (.fieldLink RX9 26 "SagMemory$Tape" "length" "I") (wl_mem 0 rfl)) (fun _ h9 => h9) rfl (by decide +kernel) rfl rfl (Nat.le_of_ble_eq_true rfl) dX9_put_40 (fun H locs hP hD hS => ?_)
              have hP : va_P (dC, dI) vwCl [(h0, .inr (9, [.ref yb, .ref rd, .int 15, .int 0, .int (-1), .int 0, .int 0, .int 0, .int 0, .int 0])), (yb, .inl (k0, 700, .inl fz17))] H := hP
              have hD : va_D A [(h0, .inr (9, [.ref yb, .ref rd, .int 15, .int 0, .int (-1), .int 0, .int 0, .int 0, .int 0, .int 0])), (yb, .inl (k0, 700, .inl fz17))] := hD
              refine lv_iinc (v := 0) (lv' := [(2, .int 0), (0, .ref h0), (1, .int p1)]) hx hb dX9_put_43 hl (k := 0) rfl (by decide) (by decide) rfl (fun ls hl => ?_)
              refine lv_goto (tgt := 3) hx hb dX9_put_46 (by decide) ?_
              refine lv_iload_n hx hb dX9_put_3 rfl (lv_at hl 0 rfl) ?_
              refine lv_if_lt (tgt := 49) hx hb dX9_put_4 (by decide) (fun cz19 => ?_) (fun cz19 => ?_)
              · skip
                exact absurd cz19 (by decide)
              · skip
                refine lv_aload_n hx hb dX9_put_7 rfl (lv_at hl 1 rfl) ?_
                refine va_get (D := (dC, dI)) (ci := 9) (v := .int 15) (C := RX9) (T := TX9) (N := 10) hx hb hts (fun w h => List.mem_cons_of_mem _ (List.mem_append_right _ (List.mem_append_left _ h))) hown hK hP 0 rfl rfl 2 (by decide) (hts (.fieldLink RX9 26 "SagMemory$Tape" "length" "I") (wl_mem 0 rfl)) (fun _ h9 => h9) rfl dX9_put_8 ?_
                refine lv_sipush (v := 700) hx hb dX9_put_11 (by decide) ?_
                refine lv_icmp_ge (tgt := 43) hx hb dX9_put_14 (by decide) (fun cz20 => ?_) (fun cz20 => ?_)
                · skip
                  exact absurd cz20 (by decide)
                · skip
                  refine lv_aload_n hx hb dX9_put_17 rfl (lv_at hl 1 rfl) ?_
                  refine va_get (D := (dC, dI)) (ci := 9) (v := .ref yb) (C := RX9) (T := TX9) (N := 10) hx hb hts (fun w h => List.mem_cons_of_mem _ (List.mem_append_right _ (List.mem_append_left _ h))) hown hK hP 0 rfl rfl 0 (by decide) (hts (.fieldLink RX9 9 "SagMemory$Tape" "bytes" "[I") (wl_mem 1 rfl)) (fun _ h9 => h9) rfl dX9_put_18 ?_
                  refine lv_aload_n hx hb dX9_put_21 rfl (lv_at hl 1 rfl) ?_
                  refine va_get (D := (dC, dI)) (ci := 9) (v := .int 15) (C := RX9) (T := TX9) (N := 10) hx hb hts (fun w h => List.mem_cons_of_mem _ (List.mem_append_right _ (List.mem_append_left _ h))) hown hK hP 0 rfl rfl 2 (by decide) (hts (.fieldLink RX9 26 "SagMemory$Tape" "length" "I") (wl_mem 0 rfl)) (fun _ h9 => h9) rfl dX9_put_22 ?_
                  refine lv_iload_n hx hb dX9_put_25 rfl (lv_at hl 2 rfl) ?_
                  refine lv_iload_n hx hb dX9_put_26 rfl (lv_at hl 0 rfl) ?_
                  refine lv_iushr hx hb dX9_put_27 rfl ?_
                  refine lv_topi (fun xz21 exz21 => ?_)
                  refine lv_sipush (v := 255) hx hb dX9_put_28 (by decide) ?_
                  refine lv_iand hx hb dX9_put_31 ?_
                  refine lv_topi (fun xz22 exz22 => ?_)
                  refine va_iast hx hb hK hP hD hS 1 0 rfl rfl (by unfold vp_in; decide) dX9_put_32 (fun H locs hP hD hS => ?_)
                  obtain ⟨fz23, hP, hD⟩ : ∃ fz23 : Nat → Int32, va_P (dC, dI) vwCl [(h0, .inr (9, [.ref yb, .ref rd, .int 15, .int 0, .int (-1), .int 0, .int 0, .int 0, .int 0, .int 0])), (yb, .inl (k0, 700, .inl fz23))] H ∧ va_D A [(h0, .inr (9, [.ref yb, .ref rd, .int 15, .int 0, .int (-1), .int 0, .int 0, .int 0, .int 0, .int 0])), (yb, .inl (k0, 700, .inl fz23))] := ⟨_, hP, hD⟩
                  refine lv_aload_n hx hb dX9_put_33 rfl (lv_at hl 1 rfl) ?_
                  refine lv_dup hx hb dX9_put_34 rfl ?_
                  refine va_get (D := (dC, dI)) (ci := 9) (v := .int 15) (C := RX9) (T := TX9) (N := 10) hx hb hts (fun w h => List.mem_cons_of_mem _ (List.mem_append_right _ (List.mem_append_left _ h))) hown hK hP 0 rfl rfl 2 (by decide) (hts (.fieldLink RX9 26 "SagMemory$Tape" "length" "I") (wl_mem 0 rfl)) (fun _ h9 => h9) rfl dX9_put_35 ?_
                  refine lv_iconst (v := 1) hx hb dX9_put_38 (by decide) ?_
                  refine lv_iadd hx hb dX9_put_39 ?_
                  refine lv_topi (fun xz24 exz24 => ?_)
                  obtain rfl : xz24 = 16 := exz24.trans (by decide)
                  refine va_put (D := (dC, dI)) (ci := 9) (v := .int 16) (ty := .int) (C := RX9) (T := TX9) (N := 10) hx hb hts (fun w h => List.mem_cons_of_mem _ (List.mem_append_right _ (List.mem_append_left _ h))) tyX9 tyX9_ok nmX9 hown hK hP hD hS 0 rfl rfl 2 (by decide) (hts (.fieldLink RX9 26 "SagMemory$Tape" "length" "I") (wl_mem 0 rfl)) (fun _ h9 => h9) rfl (by decide +kernel) rfl rfl (Nat.le_of_ble_eq_true rfl) dX9_put_40 (fun H locs hP hD hS => ?_)
                  have hP : va_P (dC, dI) vwCl [(h0, .inr (9, [.ref yb, .ref rd, .int 16, .int 0, .int (-1), .int 0, .int 0, .int 0, .int 0, .int 0])), (yb, .inl (k0, 700, .inl fz23))] H := hP
                  have hD : va_D A [(h0, .inr (9, [.ref yb, .ref rd, .int 16, .int 0, .int (-1), .int 0, .int 0, .int 0, .int 0, .int 0])), (yb, .inl (k0, 700, .inl fz23))] := hD
                  refine lv_iinc (v := (-8)) (lv' := [(2, .int (-8)), (0, .ref h0), (1, .int p1)]) hx hb dX9_put_43 hl (k := 0) rfl (by decide) (by decide) rfl (fun ls hl => ?_)
                  refine lv_goto (tgt := 3) hx hb dX9_put_46 (by decide) ?_
                  refine lv_iload_n hx hb dX9_put_3 rfl (lv_at hl 0 rfl) ?_
                  refine lv_if_lt (tgt := 49) hx hb dX9_put_4 (by decide) (fun cz25 => ?_) (fun cz25 => ?_)
                  · skip
                    have hP9 := hP.sub (ws' := [(h0, .inr (9, [.ref yb, .ref rd, .int 16, .int 0, .int (-1), .int 0, .int 0, .int 0, .int 0, .int 0])), (yb, .inl (k0, 700, .inl fz23))]) [0, 1] rfl
                    have hD9 := hD.sub (ws' := [(h0, .inr (9, [.ref yb, .ref rd, .int 16, .int 0, .int (-1), .int 0, .int 0, .int 0, .int 0, .int 0])), (yb, .inl (k0, 700, .inl fz23))]) [0, 1] (by decide) rfl
                    have hK9 := hK.sub (tys' := [(k0, .int)]) [0] rfl
                    exact W.vret hx hb hr (fun t ht hW => ⟨⟨(), rfl, trivial, fz23, by rw [ht]; exact hP9, va_K.moved hW.alike hK9, hD9⟩, hS.F ht⟩) hS.2.2 dX9_put_49
                  · skip
                    exact absurd cz25 (by decide)
def wk_f_X9_put_16 : List Cond := .code yX9_put cX9_put 3 none :: ([.fieldLink RX9 26 "SagMemory$Tape" "length" "I", .fieldLink RX9 9 "SagMemory$Tape" "bytes" "[I"] ++ (wsX90 ++ []))
theorem wkg_f_X9_put_16 : wk_f_X9_put_16.all goodWord = true := by decide +kernel
set_option maxHeartbeats 4000000 in
set_option maxRecDepth 100000 in
theorem f_X9_put_16 (l : Launch) (dC : Nat → ClassId) (dI : Nat → Nat → Nat) (sz : Nat) (h0 : Nat) (yb : Nat) (rd : Nat) (k0 : ClassId) (f0 : Nat → Int32) (p1 : Int32) : Met l yX9_put wk_f_X9_put_16 ({ frames := 0, cells := 0, slots := 0, locals := 0 }) (va_Pc [.ref h0, .int p1] (fun U => U.heap.size = sz ∧ va_P (dC, dI) vwCl [(h0, .inr (9, [.ref yb, .ref rd, .int 16, .int 0, .int (-1), .int 0, .int 0, .int 0, .int 0, .int 0])), (yb, .inl (k0, 700, .inl f0))] U.heap ∧ va_K (dC, dI) vwCl [(k0, .int)] U ∧ va_D (fun _ => True) [(h0, .inr (9, [.ref yb, .ref rd, .int 16, .int 0, .int (-1), .int 0, .int 0, .int 0, .int 0, .int 0])), (yb, .inl (k0, 700, .inl f0))])) (va_Qv (fun _ : Unit => True) (fun (_ : Unit) (t : State) => ∃ (e0 : Nat → Int32), va_P (dC, dI) vwCl [(h0, .inr (9, [.ref yb, .ref rd, .int 20, .int 0, .int (-1), .int 0, .int 0, .int 0, .int 0, .int 0])), (yb, .inl (k0, 700, .inl e0))] t.heap ∧ va_K (dC, dI) vwCl [(k0, .int)] t ∧ va_D (va_A [(h0, .inr (9, [.ref yb, .ref rd, .int 16, .int 0, .int (-1), .int 0, .int 0, .int 0, .int 0, .int 0])), (yb, .inl (k0, 700, .inl f0))] sz) [(h0, .inr (9, [.ref yb, .ref rd, .int 20, .int 0, .int (-1), .int 0, .int 0, .int 0, .int 0, .int 0])), (yb, .inl (k0, 700, .inl e0))]) (va_A [(h0, .inr (9, [.ref yb, .ref rd, .int 16, .int 0, .int (-1), .int 0, .int 0, .int 0, .int 0, .int 0])), (yb, .inl (k0, 700, .inl f0))] sz)) 0 0 (va_A [(h0, .inr (9, [.ref yb, .ref rd, .int 16, .int 0, .int (-1), .int 0, .int 0, .int 0, .int 0, .int 0])), (yb, .inl (k0, 700, .inl f0))] sz) := by
  refine Met.ofW (cc := cX9_put) (maxL := 3) (ret := none) (by decide) rfl ?_
  intro p e s m args below meth c s₁ B hml hv
  obtain ⟨rfl, hsz, hP, hK, hD0⟩ := hv
  have hx := B.exec
  have hb := B.bytes
  have hr := B.returns
  have hts := atoms_spec (ws := wk_f_X9_put_16) B.pre
  have hown : s.vm.findClass RX9 = some m.cls := findClass_of_methodNamed B.named
  have hlocks := B.notSynchronized
  subst hsz
  have hD := hD0.self (sz := s.heap.size)
  generalize hAe : va_A [(h0, .inr (9, [.ref yb, .ref rd, .int 16, .int 0, .int (-1), .int 0, .int 0, .int 0, .int 0, .int 0])), (yb, .inl (k0, 700, .inl f0))] s.heap.size = A at hD ⊢
  have hA : ∀ q : Nat, s.heap.size ≤ q → A q := fun q h => by rw [← hAe]; exact Or.inr h
  have hS : va_S A s.heap s.heap [] := va_S.rf
  have hP : va_P (dC, dI) vwCl [(h0, .inr (9, [.ref yb, .ref rd, .int 16, .int 0, .int (-1), .int 0, .int 0, .int 0, .int 0, .int 0])), (yb, .inl (k0, 700, .inl f0))] s.heap := hP
  have hl := lv_entry ([.ref h0, .int p1]) (n := 3) (Nat.le_of_ble_eq_true rfl)
  rw [lg_entry_eq]
  generalize (lg_sl ([.ref h0, .int p1]) ++ List.replicate (3 - (lg_sl ([.ref h0, .int p1])).length) Slot.unset).toArray = ls at hl ⊢
  have hl : lv_has ls 3 [(0, .ref h0), (1, .int p1)] := hl
  refine lv_bipush (v := 24) hx hb dX9_put_0 (by decide) ?_
  refine lv_istore_n (lv' := [(2, .int 24), (0, .ref h0), (1, .int p1)]) hx hb dX9_put_2 rfl hl (by decide) rfl (fun ls hl => ?_)
  refine lv_iload_n hx hb dX9_put_3 rfl (lv_at hl 0 rfl) ?_
  refine lv_if_lt (tgt := 49) hx hb dX9_put_4 (by decide) (fun cz1 => ?_) (fun cz1 => ?_)
  · skip
    exact absurd cz1 (by decide)
  · skip
    refine lv_aload_n hx hb dX9_put_7 rfl (lv_at hl 1 rfl) ?_
    refine va_get (D := (dC, dI)) (ci := 9) (v := .int 16) (C := RX9) (T := TX9) (N := 10) hx hb hts (fun w h => List.mem_cons_of_mem _ (List.mem_append_right _ (List.mem_append_left _ h))) hown hK hP 0 rfl rfl 2 (by decide) (hts (.fieldLink RX9 26 "SagMemory$Tape" "length" "I") (wl_mem 0 rfl)) (fun _ h9 => h9) rfl dX9_put_8 ?_
    refine lv_sipush (v := 700) hx hb dX9_put_11 (by decide) ?_
    refine lv_icmp_ge (tgt := 43) hx hb dX9_put_14 (by decide) (fun cz2 => ?_) (fun cz2 => ?_)
    · skip
      exact absurd cz2 (by decide)
    · skip
      refine lv_aload_n hx hb dX9_put_17 rfl (lv_at hl 1 rfl) ?_
      refine va_get (D := (dC, dI)) (ci := 9) (v := .ref yb) (C := RX9) (T := TX9) (N := 10) hx hb hts (fun w h => List.mem_cons_of_mem _ (List.mem_append_right _ (List.mem_append_left _ h))) hown hK hP 0 rfl rfl 0 (by decide) (hts (.fieldLink RX9 9 "SagMemory$Tape" "bytes" "[I") (wl_mem 1 rfl)) (fun _ h9 => h9) rfl dX9_put_18 ?_
      refine lv_aload_n hx hb dX9_put_21 rfl (lv_at hl 1 rfl) ?_
      refine va_get (D := (dC, dI)) (ci := 9) (v := .int 16) (C := RX9) (T := TX9) (N := 10) hx hb hts (fun w h => List.mem_cons_of_mem _ (List.mem_append_right _ (List.mem_append_left _ h))) hown hK hP 0 rfl rfl 2 (by decide) (hts (.fieldLink RX9 26 "SagMemory$Tape" "length" "I") (wl_mem 0 rfl)) (fun _ h9 => h9) rfl dX9_put_22 ?_
      refine lv_iload_n hx hb dX9_put_25 rfl (lv_at hl 2 rfl) ?_
      refine lv_iload_n hx hb dX9_put_26 rfl (lv_at hl 0 rfl) ?_
      refine lv_iushr hx hb dX9_put_27 rfl ?_
      refine lv_topi (fun xz3 exz3 => ?_)
      refine lv_sipush (v := 255) hx hb dX9_put_28 (by decide) ?_
      refine lv_iand hx hb dX9_put_31 ?_
      refine lv_topi (fun xz4 exz4 => ?_)
      refine va_iast hx hb hK hP hD hS 1 0 rfl rfl (by unfold vp_in; decide) dX9_put_32 (fun H locs hP hD hS => ?_)
      obtain ⟨fz5, hP, hD⟩ : ∃ fz5 : Nat → Int32, va_P (dC, dI) vwCl [(h0, .inr (9, [.ref yb, .ref rd, .int 16, .int 0, .int (-1), .int 0, .int 0, .int 0, .int 0, .int 0])), (yb, .inl (k0, 700, .inl fz5))] H ∧ va_D A [(h0, .inr (9, [.ref yb, .ref rd, .int 16, .int 0, .int (-1), .int 0, .int 0, .int 0, .int 0, .int 0])), (yb, .inl (k0, 700, .inl fz5))] := ⟨_, hP, hD⟩
      refine lv_aload_n hx hb dX9_put_33 rfl (lv_at hl 1 rfl) ?_
      refine lv_dup hx hb dX9_put_34 rfl ?_
      refine va_get (D := (dC, dI)) (ci := 9) (v := .int 16) (C := RX9) (T := TX9) (N := 10) hx hb hts (fun w h => List.mem_cons_of_mem _ (List.mem_append_right _ (List.mem_append_left _ h))) hown hK hP 0 rfl rfl 2 (by decide) (hts (.fieldLink RX9 26 "SagMemory$Tape" "length" "I") (wl_mem 0 rfl)) (fun _ h9 => h9) rfl dX9_put_35 ?_
      refine lv_iconst (v := 1) hx hb dX9_put_38 (by decide) ?_
      refine lv_iadd hx hb dX9_put_39 ?_
      refine lv_topi (fun xz6 exz6 => ?_)
      obtain rfl : xz6 = 17 := exz6.trans (by decide)
      refine va_put (D := (dC, dI)) (ci := 9) (v := .int 17) (ty := .int) (C := RX9) (T := TX9) (N := 10) hx hb hts (fun w h => List.mem_cons_of_mem _ (List.mem_append_right _ (List.mem_append_left _ h))) tyX9 tyX9_ok nmX9 hown hK hP hD hS 0 rfl rfl 2 (by decide) (hts (.fieldLink RX9 26 "SagMemory$Tape" "length" "I") (wl_mem 0 rfl)) (fun _ h9 => h9) rfl (by decide +kernel) rfl rfl (Nat.le_of_ble_eq_true rfl) dX9_put_40 (fun H locs hP hD hS => ?_)
      have hP : va_P (dC, dI) vwCl [(h0, .inr (9, [.ref yb, .ref rd, .int 17, .int 0, .int (-1), .int 0, .int 0, .int 0, .int 0, .int 0])), (yb, .inl (k0, 700, .inl fz5))] H := hP
      have hD : va_D A [(h0, .inr (9, [.ref yb, .ref rd, .int 17, .int 0, .int (-1), .int 0, .int 0, .int 0, .int 0, .int 0])), (yb, .inl (k0, 700, .inl fz5))] := hD
      refine lv_iinc (v := 16) (lv' := [(2, .int 16), (0, .ref h0), (1, .int p1)]) hx hb dX9_put_43 hl (k := 0) rfl (by decide) (by decide) rfl (fun ls hl => ?_)
      refine lv_goto (tgt := 3) hx hb dX9_put_46 (by decide) ?_
      refine lv_iload_n hx hb dX9_put_3 rfl (lv_at hl 0 rfl) ?_
      refine lv_if_lt (tgt := 49) hx hb dX9_put_4 (by decide) (fun cz7 => ?_) (fun cz7 => ?_)
      · skip
        exact absurd cz7 (by decide)
      · skip
        refine lv_aload_n hx hb dX9_put_7 rfl (lv_at hl 1 rfl) ?_
        refine va_get (D := (dC, dI)) (ci := 9) (v := .int 17) (C := RX9) (T := TX9) (N := 10) hx hb hts (fun w h => List.mem_cons_of_mem _ (List.mem_append_right _ (List.mem_append_left _ h))) hown hK hP 0 rfl rfl 2 (by decide) (hts (.fieldLink RX9 26 "SagMemory$Tape" "length" "I") (wl_mem 0 rfl)) (fun _ h9 => h9) rfl dX9_put_8 ?_
        refine lv_sipush (v := 700) hx hb dX9_put_11 (by decide) ?_
        refine lv_icmp_ge (tgt := 43) hx hb dX9_put_14 (by decide) (fun cz8 => ?_) (fun cz8 => ?_)
        · skip
          exact absurd cz8 (by decide)
        · skip
          refine lv_aload_n hx hb dX9_put_17 rfl (lv_at hl 1 rfl) ?_
          refine va_get (D := (dC, dI)) (ci := 9) (v := .ref yb) (C := RX9) (T := TX9) (N := 10) hx hb hts (fun w h => List.mem_cons_of_mem _ (List.mem_append_right _ (List.mem_append_left _ h))) hown hK hP 0 rfl rfl 0 (by decide) (hts (.fieldLink RX9 9 "SagMemory$Tape" "bytes" "[I") (wl_mem 1 rfl)) (fun _ h9 => h9) rfl dX9_put_18 ?_
          refine lv_aload_n hx hb dX9_put_21 rfl (lv_at hl 1 rfl) ?_
          refine va_get (D := (dC, dI)) (ci := 9) (v := .int 17) (C := RX9) (T := TX9) (N := 10) hx hb hts (fun w h => List.mem_cons_of_mem _ (List.mem_append_right _ (List.mem_append_left _ h))) hown hK hP 0 rfl rfl 2 (by decide) (hts (.fieldLink RX9 26 "SagMemory$Tape" "length" "I") (wl_mem 0 rfl)) (fun _ h9 => h9) rfl dX9_put_22 ?_
          refine lv_iload_n hx hb dX9_put_25 rfl (lv_at hl 2 rfl) ?_
          refine lv_iload_n hx hb dX9_put_26 rfl (lv_at hl 0 rfl) ?_
          refine lv_iushr hx hb dX9_put_27 rfl ?_
          refine lv_topi (fun xz9 exz9 => ?_)
          refine lv_sipush (v := 255) hx hb dX9_put_28 (by decide) ?_
          refine lv_iand hx hb dX9_put_31 ?_
          refine lv_topi (fun xz10 exz10 => ?_)
          refine va_iast hx hb hK hP hD hS 1 0 rfl rfl (by unfold vp_in; decide) dX9_put_32 (fun H locs hP hD hS => ?_)
          obtain ⟨fz11, hP, hD⟩ : ∃ fz11 : Nat → Int32, va_P (dC, dI) vwCl [(h0, .inr (9, [.ref yb, .ref rd, .int 17, .int 0, .int (-1), .int 0, .int 0, .int 0, .int 0, .int 0])), (yb, .inl (k0, 700, .inl fz11))] H ∧ va_D A [(h0, .inr (9, [.ref yb, .ref rd, .int 17, .int 0, .int (-1), .int 0, .int 0, .int 0, .int 0, .int 0])), (yb, .inl (k0, 700, .inl fz11))] := ⟨_, hP, hD⟩
          refine lv_aload_n hx hb dX9_put_33 rfl (lv_at hl 1 rfl) ?_
          refine lv_dup hx hb dX9_put_34 rfl ?_
          refine va_get (D := (dC, dI)) (ci := 9) (v := .int 17) (C := RX9) (T := TX9) (N := 10) hx hb hts (fun w h => List.mem_cons_of_mem _ (List.mem_append_right _ (List.mem_append_left _ h))) hown hK hP 0 rfl rfl 2 (by decide) (hts (.fieldLink RX9 26 "SagMemory$Tape" "length" "I") (wl_mem 0 rfl)) (fun _ h9 => h9) rfl dX9_put_35 ?_
          refine lv_iconst (v := 1) hx hb dX9_put_38 (by decide) ?_
          refine lv_iadd hx hb dX9_put_39 ?_
          refine lv_topi (fun xz12 exz12 => ?_)
          obtain rfl : xz12 = 18 := exz12.trans (by decide)
          refine va_put (D := (dC, dI)) (ci := 9) (v := .int 18) (ty := .int) (C := RX9) (T := TX9) (N := 10) hx hb hts (fun w h => List.mem_cons_of_mem _ (List.mem_append_right _ (List.mem_append_left _ h))) tyX9 tyX9_ok nmX9 hown hK hP hD hS 0 rfl rfl 2 (by decide) (hts (.fieldLink RX9 26 "SagMemory$Tape" "length" "I") (wl_mem 0 rfl)) (fun _ h9 => h9) rfl (by decide +kernel) rfl rfl (Nat.le_of_ble_eq_true rfl) dX9_put_40 (fun H locs hP hD hS => ?_)
          have hP : va_P (dC, dI) vwCl [(h0, .inr (9, [.ref yb, .ref rd, .int 18, .int 0, .int (-1), .int 0, .int 0, .int 0, .int 0, .int 0])), (yb, .inl (k0, 700, .inl fz11))] H := hP
          have hD : va_D A [(h0, .inr (9, [.ref yb, .ref rd, .int 18, .int 0, .int (-1), .int 0, .int 0, .int 0, .int 0, .int 0])), (yb, .inl (k0, 700, .inl fz11))] := hD
          refine lv_iinc (v := 8) (lv' := [(2, .int 8), (0, .ref h0), (1, .int p1)]) hx hb dX9_put_43 hl (k := 0) rfl (by decide) (by decide) rfl (fun ls hl => ?_)
          refine lv_goto (tgt := 3) hx hb dX9_put_46 (by decide) ?_
          refine lv_iload_n hx hb dX9_put_3 rfl (lv_at hl 0 rfl) ?_
          refine lv_if_lt (tgt := 49) hx hb dX9_put_4 (by decide) (fun cz13 => ?_) (fun cz13 => ?_)
          · skip
            exact absurd cz13 (by decide)
          · skip
            refine lv_aload_n hx hb dX9_put_7 rfl (lv_at hl 1 rfl) ?_
            refine va_get (D := (dC, dI)) (ci := 9) (v := .int 18) (C := RX9) (T := TX9) (N := 10) hx hb hts (fun w h => List.mem_cons_of_mem _ (List.mem_append_right _ (List.mem_append_left _ h))) hown hK hP 0 rfl rfl 2 (by decide) (hts (.fieldLink RX9 26 "SagMemory$Tape" "length" "I") (wl_mem 0 rfl)) (fun _ h9 => h9) rfl dX9_put_8 ?_
            refine lv_sipush (v := 700) hx hb dX9_put_11 (by decide) ?_
            refine lv_icmp_ge (tgt := 43) hx hb dX9_put_14 (by decide) (fun cz14 => ?_) (fun cz14 => ?_)
            · skip
              exact absurd cz14 (by decide)
            · skip
              refine lv_aload_n hx hb dX9_put_17 rfl (lv_at hl 1 rfl) ?_
              refine va_get (D := (dC, dI)) (ci := 9) (v := .ref yb) (C := RX9) (T := TX9) (N := 10) hx hb hts (fun w h => List.mem_cons_of_mem _ (List.mem_append_right _ (List.mem_append_left _ h))) hown hK hP 0 rfl rfl 0 (by decide) (hts (.fieldLink RX9 9 "SagMemory$Tape" "bytes" "[I") (wl_mem 1 rfl)) (fun _ h9 => h9) rfl dX9_put_18 ?_
              refine lv_aload_n hx hb dX9_put_21 rfl (lv_at hl 1 rfl) ?_
              refine va_get (D := (dC, dI)) (ci := 9) (v := .int 18) (C := RX9) (T := TX9) (N := 10) hx hb hts (fun w h => List.mem_cons_of_mem _ (List.mem_append_right _ (List.mem_append_left _ h))) hown hK hP 0 rfl rfl 2 (by decide) (hts (.fieldLink RX9 26 "SagMemory$Tape" "length" "I") (wl_mem 0 rfl)) (fun _ h9 => h9) rfl dX9_put_22 ?_
              refine lv_iload_n hx hb dX9_put_25 rfl (lv_at hl 2 rfl) ?_
              refine lv_iload_n hx hb dX9_put_26 rfl (lv_at hl 0 rfl) ?_
              refine lv_iushr hx hb dX9_put_27 rfl ?_
              refine lv_topi (fun xz15 exz15 => ?_)
              refine lv_sipush (v := 255) hx hb dX9_put_28 (by decide) ?_
              refine lv_iand hx hb dX9_put_31 ?_
              refine lv_topi (fun xz16 exz16 => ?_)
              refine va_iast hx hb hK hP hD hS 1 0 rfl rfl (by unfold vp_in; decide) dX9_put_32 (fun H locs hP hD hS => ?_)
              obtain ⟨fz17, hP, hD⟩ : ∃ fz17 : Nat → Int32, va_P (dC, dI) vwCl [(h0, .inr (9, [.ref yb, .ref rd, .int 18, .int 0, .int (-1), .int 0, .int 0, .int 0, .int 0, .int 0])), (yb, .inl (k0, 700, .inl fz17))] H ∧ va_D A [(h0, .inr (9, [.ref yb, .ref rd, .int 18, .int 0, .int (-1), .int 0, .int 0, .int 0, .int 0, .int 0])), (yb, .inl (k0, 700, .inl fz17))] := ⟨_, hP, hD⟩
              refine lv_aload_n hx hb dX9_put_33 rfl (lv_at hl 1 rfl) ?_
              refine lv_dup hx hb dX9_put_34 rfl ?_
              refine va_get (D := (dC, dI)) (ci := 9) (v := .int 18) (C := RX9) (T := TX9) (N := 10) hx hb hts (fun w h => List.mem_cons_of_mem _ (List.mem_append_right _ (List.mem_append_left _ h))) hown hK hP 0 rfl rfl 2 (by decide) (hts (.fieldLink RX9 26 "SagMemory$Tape" "length" "I") (wl_mem 0 rfl)) (fun _ h9 => h9) rfl dX9_put_35 ?_
              refine lv_iconst (v := 1) hx hb dX9_put_38 (by decide) ?_
              refine lv_iadd hx hb dX9_put_39 ?_
              refine lv_topi (fun xz18 exz18 => ?_)
              obtain rfl : xz18 = 19 := exz18.trans (by decide)
              refine va_put (D := (dC, dI)) (ci := 9) (v := .int 19) (ty := .int) (C := RX9) (T := TX9) (N := 10) hx hb hts (fun w h => List.mem_cons_of_mem _ (List.mem_append_right _ (List.mem_append_left _ h))) tyX9 tyX9_ok nmX9 hown hK hP hD hS 0 rfl rfl 2 (by decide) (hts (.fieldLink RX9 26 "SagMemory$Tape" "length" "I") (wl_mem 0 rfl)) (fun _ h9 => h9) rfl (by decide +kernel) rfl rfl (Nat.le_of_ble_eq_true rfl) dX9_put_40 (fun H locs hP hD hS => ?_)
              have hP : va_P (dC, dI) vwCl [(h0, .inr (9, [.ref yb, .ref rd, .int 19, .int 0, .int (-1), .int 0, .int 0, .int 0, .int 0, .int 0])), (yb, .inl (k0, 700, .inl fz17))] H := hP
              have hD : va_D A [(h0, .inr (9, [.ref yb, .ref rd, .int 19, .int 0, .int (-1), .int 0, .int 0, .int 0, .int 0, .int 0])), (yb, .inl (k0, 700, .inl fz17))] := hD
              refine lv_iinc (v := 0) (lv' := [(2, .int 0), (0, .ref h0), (1, .int p1)]) hx hb dX9_put_43 hl (k := 0) rfl (by decide) (by decide) rfl (fun ls hl => ?_)
              refine lv_goto (tgt := 3) hx hb dX9_put_46 (by decide) ?_
              refine lv_iload_n hx hb dX9_put_3 rfl (lv_at hl 0 rfl) ?_
              refine lv_if_lt (tgt := 49) hx hb dX9_put_4 (by decide) (fun cz19 => ?_) (fun cz19 => ?_)
              · skip
                exact absurd cz19 (by decide)
              · skip
                refine lv_aload_n hx hb dX9_put_7 rfl (lv_at hl 1 rfl) ?_
                refine va_get (D := (dC, dI)) (ci := 9) (v := .int 19) (C := RX9) (T := TX9) (N := 10) hx hb hts (fun w h => List.mem_cons_of_mem _ (List.mem_append_right _ (List.mem_append_left _ h))) hown hK hP 0 rfl rfl 2 (by decide) (hts (.fieldLink RX9 26 "SagMemory$Tape" "length" "I") (wl_mem 0 rfl)) (fun _ h9 => h9) rfl dX9_put_8 ?_
                refine lv_sipush (v := 700) hx hb dX9_put_11 (by decide) ?_
                refine lv_icmp_ge (tgt := 43) hx hb dX9_put_14 (by decide) (fun cz20 => ?_) (fun cz20 => ?_)
                · skip
                  exact absurd cz20 (by decide)
                · skip
                  refine lv_aload_n hx hb dX9_put_17 rfl (lv_at hl 1 rfl) ?_
                  refine va_get (D := (dC, dI)) (ci := 9) (v := .ref yb) (C := RX9) (T := TX9) (N := 10) hx hb hts (fun w h => List.mem_cons_of_mem _ (List.mem_append_right _ (List.mem_append_left _ h))) hown hK hP 0 rfl rfl 0 (by decide) (hts (.fieldLink RX9 9 "SagMemory$Tape" "bytes" "[I") (wl_mem 1 rfl)) (fun _ h9 => h9) rfl dX9_put_18 ?_
                  refine lv_aload_n hx hb dX9_put_21 rfl (lv_at hl 1 rfl) ?_
                  refine va_get (D := (dC, dI)) (ci := 9) (v := .int 19) (C := RX9) (T := TX9) (N := 10) hx hb hts (fun w h => List.mem_cons_of_mem _ (List.mem_append_right _ (List.mem_append_left _ h))) hown hK hP 0 rfl rfl 2 (by decide) (hts (.fieldLink RX9 26 "SagMemory$Tape" "length" "I") (wl_mem 0 rfl)) (fun _ h9 => h9) rfl dX9_put_22 ?_
                  refine lv_iload_n hx hb dX9_put_25 rfl (lv_at hl 2 rfl) ?_
                  refine lv_iload_n hx hb dX9_put_26 rfl (lv_at hl 0 rfl) ?_
                  refine lv_iushr hx hb dX9_put_27 rfl ?_
                  refine lv_topi (fun xz21 exz21 => ?_)
                  refine lv_sipush (v := 255) hx hb dX9_put_28 (by decide) ?_
                  refine lv_iand hx hb dX9_put_31 ?_
                  refine lv_topi (fun xz22 exz22 => ?_)
                  refine va_iast hx hb hK hP hD hS 1 0 rfl rfl (by unfold vp_in; decide) dX9_put_32 (fun H locs hP hD hS => ?_)
                  obtain ⟨fz23, hP, hD⟩ : ∃ fz23 : Nat → Int32, va_P (dC, dI) vwCl [(h0, .inr (9, [.ref yb, .ref rd, .int 19, .int 0, .int (-1), .int 0, .int 0, .int 0, .int 0, .int 0])), (yb, .inl (k0, 700, .inl fz23))] H ∧ va_D A [(h0, .inr (9, [.ref yb, .ref rd, .int 19, .int 0, .int (-1), .int 0, .int 0, .int 0, .int 0, .int 0])), (yb, .inl (k0, 700, .inl fz23))] := ⟨_, hP, hD⟩
                  refine lv_aload_n hx hb dX9_put_33 rfl (lv_at hl 1 rfl) ?_
                  refine lv_dup hx hb dX9_put_34 rfl ?_
                  refine va_get (D := (dC, dI)) (ci := 9) (v := .int 19) (C := RX9) (T := TX9) (N := 10) hx hb hts (fun w h => List.mem_cons_of_mem _ (List.mem_append_right _ (List.mem_append_left _ h))) hown hK hP 0 rfl rfl 2 (by decide) (hts (.fieldLink RX9 26 "SagMemory$Tape" "length" "I") (wl_mem 0 rfl)) (fun _ h9 => h9) rfl dX9_put_35 ?_
                  refine lv_iconst (v := 1) hx hb dX9_put_38 (by decide) ?_
                  refine lv_iadd hx hb dX9_put_39 ?_
                  refine lv_topi (fun xz24 exz24 => ?_)
                  obtain rfl : xz24 = 20 := exz24.trans (by decide)
                  refine va_put (D := (dC, dI)) (ci := 9) (v := .int 20) (ty := .int) (C := RX9) (T := TX9) (N := 10) hx hb hts (fun w h => List.mem_cons_of_mem _ (List.mem_append_right _ (List.mem_append_left _ h))) tyX9 tyX9_ok nmX9 hown hK hP hD hS 0 rfl rfl 2 (by decide) (hts (.fieldLink RX9 26 "SagMemory$Tape" "length" "I") (wl_mem 0 rfl)) (fun _ h9 => h9) rfl (by decide +kernel) rfl rfl (Nat.le_of_ble_eq_true rfl) dX9_put_40 (fun H locs hP hD hS => ?_)
                  have hP : va_P (dC, dI) vwCl [(h0, .inr (9, [.ref yb, .ref rd, .int 20, .int 0, .int (-1), .int 0, .int 0, .int 0, .int 0, .int 0])), (yb, .inl (k0, 700, .inl fz23))] H := hP
                  have hD : va_D A [(h0, .inr (9, [.ref yb, .ref rd, .int 20, .int 0, .int (-1), .int 0, .int 0, .int 0, .int 0, .int 0])), (yb, .inl (k0, 700, .inl fz23))] := hD
                  refine lv_iinc (v := (-8)) (lv' := [(2, .int (-8)), (0, .ref h0), (1, .int p1)]) hx hb dX9_put_43 hl (k := 0) rfl (by decide) (by decide) rfl (fun ls hl => ?_)
                  refine lv_goto (tgt := 3) hx hb dX9_put_46 (by decide) ?_
                  refine lv_iload_n hx hb dX9_put_3 rfl (lv_at hl 0 rfl) ?_
                  refine lv_if_lt (tgt := 49) hx hb dX9_put_4 (by decide) (fun cz25 => ?_) (fun cz25 => ?_)
                  · skip
                    have hP9 := hP.sub (ws' := [(h0, .inr (9, [.ref yb, .ref rd, .int 20, .int 0, .int (-1), .int 0, .int 0, .int 0, .int 0, .int 0])), (yb, .inl (k0, 700, .inl fz23))]) [0, 1] rfl
                    have hD9 := hD.sub (ws' := [(h0, .inr (9, [.ref yb, .ref rd, .int 20, .int 0, .int (-1), .int 0, .int 0, .int 0, .int 0, .int 0])), (yb, .inl (k0, 700, .inl fz23))]) [0, 1] (by decide) rfl
                    have hK9 := hK.sub (tys' := [(k0, .int)]) [0] rfl
                    exact W.vret hx hb hr (fun t ht hW => ⟨⟨(), rfl, trivial, fz23, by rw [ht]; exact hP9, va_K.moved hW.alike hK9, hD9⟩, hS.F ht⟩) hS.2.2 dX9_put_49
                  · skip
                    exact absurd cz25 (by decide)
def wk_f_X3_make : List Cond := .code yX3_make cX3_make 5 none :: ([.fieldLink RX3 18 "SagMemory$Valley" "loads" "[I", .fieldLink RX3 9 "SagMemory$Plan" "loads" "[I", .methodLink RX3 21 arraycopyName, .native arraycopyName, .static arraycopyName, .initialized "java/lang/System", .fieldLink RX3 27 "SagMemory$Valley" "ways" "[I", .fieldLink RX3 15 "SagMemory$Plan" "ways" "[I", .fieldLink RX3 28 "SagMemory$Valley" "law" "I", .fieldLink RX3 32 "SagMemory$Plan" "law" "I", .fieldLink RX3 33 "SagMemory$Valley" "cold" "I", .fieldLink RX3 36 "SagMemory$Plan" "cold" "I", .fieldLink RX3 37 "SagMemory$Acts" "done" "I"] ++ (wsX100 ++ (wsX30 ++ (wsX00 ++ []))))
theorem wkg_f_X3_make : wk_f_X3_make.all goodWord = true := by decide +kernel
set_option maxHeartbeats 4000000 in
set_option maxRecDepth 100000 in
theorem f_X3_make (l : Launch) (dC : Nat → ClassId) (dI : Nat → Nat → Nat) (sz : Nat) (h0 : Nat) (h1 : Nat) (h2 : Nat) (r0 : Nat) (r1 : Nat) (v0 : Nat) (v1 : Nat) (v2 : Nat) (v3 : Nat) (v4 : Nat) (v5 : Nat) (v6 : Nat) (b0 : Nat) (b1 : Nat) (b2 : Nat) (k0 : ClassId) (k1 : ClassId) (k2 : ClassId) (k3 : ClassId) (f0 : Nat → Int32) (f1 : Nat → Int32) (f2 : Nat → Int32) (f3 : Nat → Int32) : Met l yX3_make wk_f_X3_make ({ frames := 1, cells := 0, slots := 0, locals := 80 }) (va_Pc [.ref h0, .ref h1, .ref h2] (fun U => U.heap.size = sz ∧ va_P (dC, dI) vwCl [(h0, .inr (3, [.ref r0, .ref r1, .int 0, .int 0])), (r0, .inl (k0, 7, .inl f0)), (r1, .inl (k1, 7, .inl f1)), (h1, .inr (10, [.ref v0, .ref v1, .ref v2, .ref v3, .ref v4, .ref v5, .ref v6, .int 0, .int 0, .int 0, .int 0, .int 0, .int 0, .int 0, .int 0, .int 0])), (v2, .inl (k2, 7, .inl f2)), (v3, .inl (k3, 7, .inl f3)), (h2, .inr (0, [.ref b0, .ref b1, .ref b2, .int 0]))] U.heap ∧ va_K (dC, dI) vwCl [(k0, .int), (k1, .int), (k2, .int), (k3, .int)] U ∧ va_D (fun _ => True) [(h0, .inr (3, [.ref r0, .ref r1, .int 0, .int 0])), (r0, .inl (k0, 7, .inl f0)), (r1, .inl (k1, 7, .inl f1)), (h1, .inr (10, [.ref v0, .ref v1, .ref v2, .ref v3, .ref v4, .ref v5, .ref v6, .int 0, .int 0, .int 0, .int 0, .int 0, .int 0, .int 0, .int 0, .int 0])), (v2, .inl (k2, 7, .inl f2)), (v3, .inl (k3, 7, .inl f3)), (h2, .inr (0, [.ref b0, .ref b1, .ref b2, .int 0]))])) (va_Qv (fun _ : Unit => True) (fun (_ : Unit) (t : State) => ∃ (e0 : Nat → Int32) (e1 : Nat → Int32), va_P (dC, dI) vwCl [(h0, .inr (3, [.ref r0, .ref r1, .int 0, .int 0])), (r0, .inl (k0, 7, .inl e0)), (r1, .inl (k1, 7, .inl e1)), (h1, .inr (10, [.ref v0, .ref v1, .ref v2, .ref v3, .ref v4, .ref v5, .ref v6, .int 0, .int 0, .int 0, .int 0, .int 0, .int 0, .int 0, .int 0, .int 0])), (v2, .inl (k2, 7, .inl f2)), (v3, .inl (k3, 7, .inl f3)), (h2, .inr (0, [.ref b0, .ref b1, .ref b2, .int 0]))] t.heap ∧ va_K (dC, dI) vwCl [(k0, .int), (k1, .int), (k2, .int), (k3, .int)] t ∧ va_D (va_A [(h0, .inr (3, [.ref r0, .ref r1, .int 0, .int 0])), (r0, .inl (k0, 7, .inl f0)), (r1, .inl (k1, 7, .inl f1)), (h1, .inr (10, [.ref v0, .ref v1, .ref v2, .ref v3, .ref v4, .ref v5, .ref v6, .int 0, .int 0, .int 0, .int 0, .int 0, .int 0, .int 0, .int 0, .int 0])), (v2, .inl (k2, 7, .inl f2)), (v3, .inl (k3, 7, .inl f3)), (h2, .inr (0, [.ref b0, .ref b1, .ref b2, .int 0]))] sz) [(h0, .inr (3, [.ref r0, .ref r1, .int 0, .int 0])), (r0, .inl (k0, 7, .inl e0)), (r1, .inl (k1, 7, .inl e1)), (h1, .inr (10, [.ref v0, .ref v1, .ref v2, .ref v3, .ref v4, .ref v5, .ref v6, .int 0, .int 0, .int 0, .int 0, .int 0, .int 0, .int 0, .int 0, .int 0])), (v2, .inl (k2, 7, .inl f2)), (v3, .inl (k3, 7, .inl f3)), (h2, .inr (0, [.ref b0, .ref b1, .ref b2, .int 0]))]) (va_A [(h0, .inr (3, [.ref r0, .ref r1, .int 0, .int 0])), (r0, .inl (k0, 7, .inl f0)), (r1, .inl (k1, 7, .inl f1)), (h1, .inr (10, [.ref v0, .ref v1, .ref v2, .ref v3, .ref v4, .ref v5, .ref v6, .int 0, .int 0, .int 0, .int 0, .int 0, .int 0, .int 0, .int 0, .int 0])), (v2, .inl (k2, 7, .inl f2)), (v3, .inl (k3, 7, .inl f3)), (h2, .inr (0, [.ref b0, .ref b1, .ref b2, .int 0]))] sz)) 0 0 (va_A [(h0, .inr (3, [.ref r0, .ref r1, .int 0, .int 0])), (r0, .inl (k0, 7, .inl f0)), (r1, .inl (k1, 7, .inl f1)), (h1, .inr (10, [.ref v0, .ref v1, .ref v2, .ref v3, .ref v4, .ref v5, .ref v6, .int 0, .int 0, .int 0, .int 0, .int 0, .int 0, .int 0, .int 0, .int 0])), (v2, .inl (k2, 7, .inl f2)), (v3, .inl (k3, 7, .inl f3)), (h2, .inr (0, [.ref b0, .ref b1, .ref b2, .int 0]))] sz) := by
  refine Met.ofW (cc := cX3_make) (maxL := 5) (ret := none) (by decide) rfl ?_
  intro p e s m args below meth c s₁ B hml hv
  obtain ⟨rfl, hsz, hP, hK, hD0⟩ := hv
  have hx := B.exec
  have hb := B.bytes
  have hr := B.returns
  have hts := atoms_spec (ws := wk_f_X3_make) B.pre
  have hown : s.vm.findClass RX3 = some m.cls := findClass_of_methodNamed B.named
  have hlocks := B.notSynchronized
  subst hsz
  have hD := hD0.self (sz := s.heap.size)
  generalize hAe : va_A [(h0, .inr (3, [.ref r0, .ref r1, .int 0, .int 0])), (r0, .inl (k0, 7, .inl f0)), (r1, .inl (k1, 7, .inl f1)), (h1, .inr (10, [.ref v0, .ref v1, .ref v2, .ref v3, .ref v4, .ref v5, .ref v6, .int 0, .int 0, .int 0, .int 0, .int 0, .int 0, .int 0, .int 0, .int 0])), (v2, .inl (k2, 7, .inl f2)), (v3, .inl (k3, 7, .inl f3)), (h2, .inr (0, [.ref b0, .ref b1, .ref b2, .int 0]))] s.heap.size = A at hD ⊢
  have hA : ∀ q : Nat, s.heap.size ≤ q → A q := fun q h => by rw [← hAe]; exact Or.inr h
  have hS : va_S A s.heap s.heap [] := va_S.rf
  have hP : va_P (dC, dI) vwCl [(h0, .inr (3, [.ref r0, .ref r1, .int 0, .int 0])), (r0, .inl (k0, 7, .inl f0)), (r1, .inl (k1, 7, .inl f1)), (h1, .inr (10, [.ref v0, .ref v1, .ref v2, .ref v3, .ref v4, .ref v5, .ref v6, .int 0, .int 0, .int 0, .int 0, .int 0, .int 0, .int 0, .int 0, .int 0])), (v2, .inl (k2, 7, .inl f2)), (v3, .inl (k3, 7, .inl f3)), (h2, .inr (0, [.ref b0, .ref b1, .ref b2, .int 0]))] s.heap := hP
  have hl := lv_entry ([.ref h0, .ref h1, .ref h2]) (n := 5) (Nat.le_of_ble_eq_true rfl)
  rw [lg_entry_eq]
  generalize (lg_sl ([.ref h0, .ref h1, .ref h2]) ++ List.replicate (5 - (lg_sl ([.ref h0, .ref h1, .ref h2])).length) Slot.unset).toArray = ls at hl ⊢
  have hl : lv_has ls 5 [(0, .ref h0), (1, .ref h1), (2, .ref h2)] := hl
  refine lv_aload_n hx hb dX3_make_0 rfl (lv_at hl 1 rfl) ?_
  refine va_get (D := (dC, dI)) (ci := 10) (v := .ref v2) (C := RX10) (T := TX10) (N := 16) hx hb hts (fun w h => List.mem_cons_of_mem _ (List.mem_append_right _ (List.mem_append_left _ h))) hown hK hP 3 rfl rfl 2 (by decide) (hts (.fieldLink RX3 18 "SagMemory$Valley" "loads" "[I") (wl_mem 0 rfl)) (fun _ h9 => h9) rfl dX3_make_1 ?_
  refine lv_iconst (v := 0) hx hb dX3_make_4 (by decide) ?_
  refine lv_aload_n hx hb dX3_make_5 rfl (lv_at hl 0 rfl) ?_
  refine va_get (D := (dC, dI)) (ci := 3) (v := .ref r0) (C := RX3) (T := TX3) (N := 4) hx hb hts (fun w h => List.mem_cons_of_mem _ (List.mem_append_right _ (List.mem_append_right _ (List.mem_append_left _ h)))) hown hK hP 0 rfl rfl 0 (by decide) (hts (.fieldLink RX3 9 "SagMemory$Plan" "loads" "[I") (wl_mem 1 rfl)) (fun _ h9 => h9) rfl dX3_make_6 ?_
  refine lv_iconst (v := 0) hx hb dX3_make_9 (by decide) ?_
  refine lv_bipush (v := 7) hx hb dX3_make_10 (by decide) ?_
  refine va_copyi (ty := .int) hx hb (by rw [hml]; exact hl.1.symm) hown (hts (.methodLink RX3 21 arraycopyName) (wl_mem 2 rfl)) (hts (.native arraycopyName) (wl_mem 3 rfl)) (hts (.static arraycopyName) (wl_mem 4 rfl)) (hts (.initialized "java/lang/System") (wl_mem 5 rfl)) hK hP hD hS 4 1 2 0 rfl rfl rfl rfl rfl (by decide) (by decide) (by decide) (by decide) (by decide) (fun _ _ => rfl) (Nat.le_of_ble_eq_true rfl) (Nat.le_of_ble_eq_true rfl) dX3_make_12 (fun H locs hP hD hS => ?_)
  obtain ⟨fz1, hP, hD⟩ : ∃ fz1 : Nat → Int32, va_P (dC, dI) vwCl [(h0, .inr (3, [.ref r0, .ref r1, .int 0, .int 0])), (r0, .inl (k0, 7, .inl fz1)), (r1, .inl (k1, 7, .inl f1)), (h1, .inr (10, [.ref v0, .ref v1, .ref v2, .ref v3, .ref v4, .ref v5, .ref v6, .int 0, .int 0, .int 0, .int 0, .int 0, .int 0, .int 0, .int 0, .int 0])), (v2, .inl (k2, 7, .inl f2)), (v3, .inl (k3, 7, .inl f3)), (h2, .inr (0, [.ref b0, .ref b1, .ref b2, .int 0]))] H ∧ va_D A [(h0, .inr (3, [.ref r0, .ref r1, .int 0, .int 0])), (r0, .inl (k0, 7, .inl fz1)), (r1, .inl (k1, 7, .inl f1)), (h1, .inr (10, [.ref v0, .ref v1, .ref v2, .ref v3, .ref v4, .ref v5, .ref v6, .int 0, .int 0, .int 0, .int 0, .int 0, .int 0, .int 0, .int 0, .int 0])), (v2, .inl (k2, 7, .inl f2)), (v3, .inl (k3, 7, .inl f3)), (h2, .inr (0, [.ref b0, .ref b1, .ref b2, .int 0]))] := ⟨_, hP, hD⟩
  refine lv_aload_n hx hb dX3_make_15 rfl (lv_at hl 1 rfl) ?_
  refine va_get (D := (dC, dI)) (ci := 10) (v := .ref v3) (C := RX10) (T := TX10) (N := 16) hx hb hts (fun w h => List.mem_cons_of_mem _ (List.mem_append_right _ (List.mem_append_left _ h))) hown hK hP 3 rfl rfl 3 (by decide) (hts (.fieldLink RX3 27 "SagMemory$Valley" "ways" "[I") (wl_mem 6 rfl)) (fun _ h9 => h9) rfl dX3_make_16 ?_
  refine lv_iconst (v := 0) hx hb dX3_make_19 (by decide) ?_
  refine lv_aload_n hx hb dX3_make_20 rfl (lv_at hl 0 rfl) ?_
  refine va_get (D := (dC, dI)) (ci := 3) (v := .ref r1) (C := RX3) (T := TX3) (N := 4) hx hb hts (fun w h => List.mem_cons_of_mem _ (List.mem_append_right _ (List.mem_append_right _ (List.mem_append_left _ h)))) hown hK hP 0 rfl rfl 1 (by decide) (hts (.fieldLink RX3 15 "SagMemory$Plan" "ways" "[I") (wl_mem 7 rfl)) (fun _ h9 => h9) rfl dX3_make_21 ?_
  refine lv_iconst (v := 0) hx hb dX3_make_24 (by decide) ?_
  refine lv_bipush (v := 7) hx hb dX3_make_25 (by decide) ?_
  refine va_copyi (ty := .int) hx hb (by rw [hml]; exact hl.1.symm) hown (hts (.methodLink RX3 21 arraycopyName) (wl_mem 2 rfl)) (hts (.native arraycopyName) (wl_mem 3 rfl)) (hts (.static arraycopyName) (wl_mem 4 rfl)) (hts (.initialized "java/lang/System") (wl_mem 5 rfl)) hK hP hD hS 5 2 3 1 rfl rfl rfl rfl rfl (by decide) (by decide) (by decide) (by decide) (by decide) (fun _ _ => rfl) (Nat.le_of_ble_eq_true rfl) (Nat.le_of_ble_eq_true rfl) dX3_make_27 (fun H locs hP hD hS => ?_)
  obtain ⟨fz2, hP, hD⟩ : ∃ fz2 : Nat → Int32, va_P (dC, dI) vwCl [(h0, .inr (3, [.ref r0, .ref r1, .int 0, .int 0])), (r0, .inl (k0, 7, .inl fz1)), (r1, .inl (k1, 7, .inl fz2)), (h1, .inr (10, [.ref v0, .ref v1, .ref v2, .ref v3, .ref v4, .ref v5, .ref v6, .int 0, .int 0, .int 0, .int 0, .int 0, .int 0, .int 0, .int 0, .int 0])), (v2, .inl (k2, 7, .inl f2)), (v3, .inl (k3, 7, .inl f3)), (h2, .inr (0, [.ref b0, .ref b1, .ref b2, .int 0]))] H ∧ va_D A [(h0, .inr (3, [.ref r0, .ref r1, .int 0, .int 0])), (r0, .inl (k0, 7, .inl fz1)), (r1, .inl (k1, 7, .inl fz2)), (h1, .inr (10, [.ref v0, .ref v1, .ref v2, .ref v3, .ref v4, .ref v5, .ref v6, .int 0, .int 0, .int 0, .int 0, .int 0, .int 0, .int 0, .int 0, .int 0])), (v2, .inl (k2, 7, .inl f2)), (v3, .inl (k3, 7, .inl f3)), (h2, .inr (0, [.ref b0, .ref b1, .ref b2, .int 0]))] := ⟨_, hP, hD⟩
  refine lv_aload_n hx hb dX3_make_30 rfl (lv_at hl 0 rfl) ?_
  refine lv_aload_n hx hb dX3_make_31 rfl (lv_at hl 1 rfl) ?_
  refine va_get (D := (dC, dI)) (ci := 10) (v := .int 0) (C := RX10) (T := TX10) (N := 16) hx hb hts (fun w h => List.mem_cons_of_mem _ (List.mem_append_right _ (List.mem_append_left _ h))) hown hK hP 3 rfl rfl 8 (by decide) (hts (.fieldLink RX3 28 "SagMemory$Valley" "law" "I") (wl_mem 8 rfl)) (fun _ h9 => h9) rfl dX3_make_32 ?_
  refine va_put (D := (dC, dI)) (ci := 3) (v := .int 0) (ty := .int) (C := RX3) (T := TX3) (N := 4) hx hb hts (fun w h => List.mem_cons_of_mem _ (List.mem_append_right _ (List.mem_append_right _ (List.mem_append_left _ h)))) tyX3 tyX3_ok nmX3 hown hK hP hD hS 0 rfl rfl 2 (by decide) (hts (.fieldLink RX3 32 "SagMemory$Plan" "law" "I") (wl_mem 9 rfl)) (fun _ h9 => h9) rfl (by decide +kernel) rfl rfl (Nat.le_of_ble_eq_true rfl) dX3_make_35 (fun H locs hP hD hS => ?_)
  have hP : va_P (dC, dI) vwCl [(h0, .inr (3, [.ref r0, .ref r1, .int 0, .int 0])), (r0, .inl (k0, 7, .inl fz1)), (r1, .inl (k1, 7, .inl fz2)), (h1, .inr (10, [.ref v0, .ref v1, .ref v2, .ref v3, .ref v4, .ref v5, .ref v6, .int 0, .int 0, .int 0, .int 0, .int 0, .int 0, .int 0, .int 0, .int 0])), (v2, .inl (k2, 7, .inl f2)), (v3, .inl (k3, 7, .inl f3)), (h2, .inr (0, [.ref b0, .ref b1, .ref b2, .int 0]))] H := hP
  have hD : va_D A [(h0, .inr (3, [.ref r0, .ref r1, .int 0, .int 0])), (r0, .inl (k0, 7, .inl fz1)), (r1, .inl (k1, 7, .inl fz2)), (h1, .inr (10, [.ref v0, .ref v1, .ref v2, .ref v3, .ref v4, .ref v5, .ref v6, .int 0, .int 0, .int 0, .int 0, .int 0, .int 0, .int 0, .int 0, .int 0])), (v2, .inl (k2, 7, .inl f2)), (v3, .inl (k3, 7, .inl f3)), (h2, .inr (0, [.ref b0, .ref b1, .ref b2, .int 0]))] := hD
  refine lv_aload_n hx hb dX3_make_38 rfl (lv_at hl 0 rfl) ?_
  refine lv_aload_n hx hb dX3_make_39 rfl (lv_at hl 1 rfl) ?_
  refine va_get (D := (dC, dI)) (ci := 10) (v := .int 0) (C := RX10) (T := TX10) (N := 16) hx hb hts (fun w h => List.mem_cons_of_mem _ (List.mem_append_right _ (List.mem_append_left _ h))) hown hK hP 3 rfl rfl 15 (by decide) (hts (.fieldLink RX3 33 "SagMemory$Valley" "cold" "I") (wl_mem 10 rfl)) (fun _ h9 => h9) rfl dX3_make_40 ?_
  refine va_put (D := (dC, dI)) (ci := 3) (v := .int 0) (ty := .int) (C := RX3) (T := TX3) (N := 4) hx hb hts (fun w h => List.mem_cons_of_mem _ (List.mem_append_right _ (List.mem_append_right _ (List.mem_append_left _ h)))) tyX3 tyX3_ok nmX3 hown hK hP hD hS 0 rfl rfl 3 (by decide) (hts (.fieldLink RX3 36 "SagMemory$Plan" "cold" "I") (wl_mem 11 rfl)) (fun _ h9 => h9) rfl (by decide +kernel) rfl rfl (Nat.le_of_ble_eq_true rfl) dX3_make_43 (fun H locs hP hD hS => ?_)
  have hP : va_P (dC, dI) vwCl [(h0, .inr (3, [.ref r0, .ref r1, .int 0, .int 0])), (r0, .inl (k0, 7, .inl fz1)), (r1, .inl (k1, 7, .inl fz2)), (h1, .inr (10, [.ref v0, .ref v1, .ref v2, .ref v3, .ref v4, .ref v5, .ref v6, .int 0, .int 0, .int 0, .int 0, .int 0, .int 0, .int 0, .int 0, .int 0])), (v2, .inl (k2, 7, .inl f2)), (v3, .inl (k3, 7, .inl f3)), (h2, .inr (0, [.ref b0, .ref b1, .ref b2, .int 0]))] H := hP
  have hD : va_D A [(h0, .inr (3, [.ref r0, .ref r1, .int 0, .int 0])), (r0, .inl (k0, 7, .inl fz1)), (r1, .inl (k1, 7, .inl fz2)), (h1, .inr (10, [.ref v0, .ref v1, .ref v2, .ref v3, .ref v4, .ref v5, .ref v6, .int 0, .int 0, .int 0, .int 0, .int 0, .int 0, .int 0, .int 0, .int 0])), (v2, .inl (k2, 7, .inl f2)), (v3, .inl (k3, 7, .inl f3)), (h2, .inr (0, [.ref b0, .ref b1, .ref b2, .int 0]))] := hD
  refine lv_iconst (v := 0) hx hb dX3_make_46 (by decide) ?_
  refine lv_istore_n (lv' := [(3, .int 0), (0, .ref h0), (1, .ref h1), (2, .ref h2)]) hx hb dX3_make_47 rfl hl (by decide) rfl (fun ls hl => ?_)
  refine lv_iload_n hx hb dX3_make_48 rfl (lv_at hl 0 rfl) ?_
  refine lv_aload_n hx hb dX3_make_49 rfl (lv_at hl 3 rfl) ?_
  refine va_get (D := (dC, dI)) (ci := 0) (v := .int 0) (C := RX0) (T := TX0) (N := 4) hx hb hts (fun w h => List.mem_cons_of_mem _ (List.mem_append_right _ (List.mem_append_right _ (List.mem_append_right _ (List.mem_append_left _ h))))) hown hK hP 6 rfl rfl 3 (by decide) (hts (.fieldLink RX3 37 "SagMemory$Acts" "done" "I") (wl_mem 12 rfl)) (fun _ h9 => h9) rfl dX3_make_50 ?_
  refine lv_icmp_ge (tgt := 148) hx hb dX3_make_53 (by decide) (fun cz3 => ?_) (fun cz3 => ?_)
  · skip
    have hP9 := hP.sub (ws' := [(h0, .inr (3, [.ref r0, .ref r1, .int 0, .int 0])), (r0, .inl (k0, 7, .inl fz1)), (r1, .inl (k1, 7, .inl fz2)), (h1, .inr (10, [.ref v0, .ref v1, .ref v2, .ref v3, .ref v4, .ref v5, .ref v6, .int 0, .int 0, .int 0, .int 0, .int 0, .int 0, .int 0, .int 0, .int 0])), (v2, .inl (k2, 7, .inl f2)), (v3, .inl (k3, 7, .inl f3)), (h2, .inr (0, [.ref b0, .ref b1, .ref b2, .int 0]))]) [0, 1, 2, 3, 4, 5, 6] rfl
    have hD9 := hD.sub (ws' := [(h0, .inr (3, [.ref r0, .ref r1, .int 0, .int 0])), (r0, .inl (k0, 7, .inl fz1)), (r1, .inl (k1, 7, .inl fz2)), (h1, .inr (10, [.ref v0, .ref v1, .ref v2, .ref v3, .ref v4, .ref v5, .ref v6, .int 0, .int 0, .int 0, .int 0, .int 0, .int 0, .int 0, .int 0, .int 0])), (v2, .inl (k2, 7, .inl f2)), (v3, .inl (k3, 7, .inl f3)), (h2, .inr (0, [.ref b0, .ref b1, .ref b2, .int 0]))]) [0, 1, 2, 3, 4, 5, 6] (by decide) rfl
    have hK9 := hK.sub (tys' := [(k0, .int), (k1, .int), (k2, .int), (k3, .int)]) [0, 1, 2, 3] rfl
    exact W.vret hx hb hr (fun t ht hW => ⟨⟨(), rfl, trivial, fz1, fz2, by rw [ht]; exact hP9, va_K.moved hW.alike hK9, hD9⟩, hS.F ht⟩) hS.2.2 dX3_make_148
  · skip
    exact absurd cz3 (by decide)
def wk_f_X8_tell : List Cond := .code yX8_tell cX8_tell 2 none :: ([.fieldLink RX8 22 "SagMemory$Story" "valley" "LSagMemory$Valley;", .fieldLink RX8 30 "SagMemory$Valley" "carts" "I"] ++ (wsX80 ++ (wsX100 ++ [])))
theorem wkg_f_X8_tell : wk_f_X8_tell.all goodWord = true := by decide +kernel
set_option maxHeartbeats 4000000 in
set_option maxRecDepth 100000 in
theorem f_X8_tell (l : Launch) (dC : Nat → ClassId) (dI : Nat → Nat → Nat) (sz : Nat) (h0 : Nat) (a1 : Nat) (a3 : Nat) (s2 : Nat) (s3 : Nat) (v0 : Nat) (v1 : Nat) (v2 : Nat) (v3 : Nat) (v4 : Nat) (v5 : Nat) (v6 : Nat) : Met l yX8_tell wk_f_X8_tell ({ frames := 0, cells := 0, slots := 0, locals := 0 }) (va_Pc [.ref h0] (fun U => U.heap.size = sz ∧ va_P (dC, dI) vwCl [(h0, .inr (8, [.ref a1, .ref a3, .ref s2, .ref s3])), (a1, .inr (10, [.ref v0, .ref v1, .ref v2, .ref v3, .ref v4, .ref v5, .ref v6, .int 0, .int 0, .int 0, .int 0, .int 0, .int 0, .int 0, .int 0, .int 0]))] U.heap ∧ va_K (dC, dI) vwCl [] U ∧ va_D (fun _ => True) [(h0, .inr (8, [.ref a1, .ref a3, .ref s2, .ref s3])), (a1, .inr (10, [.ref v0, .ref v1, .ref v2, .ref v3, .ref v4, .ref v5, .ref v6, .int 0, .int 0, .int 0, .int 0, .int 0, .int 0, .int 0, .int 0, .int 0]))])) (va_Qv (fun _ : Unit => True) (fun (_ : Unit) (t : State) => va_P (dC, dI) vwCl [(h0, .inr (8, [.ref a1, .ref a3, .ref s2, .ref s3])), (a1, .inr (10, [.ref v0, .ref v1, .ref v2, .ref v3, .ref v4, .ref v5, .ref v6, .int 0, .int 0, .int 0, .int 0, .int 0, .int 0, .int 0, .int 0, .int 0]))] t.heap ∧ va_K (dC, dI) vwCl [] t ∧ va_D (va_A [(h0, .inr (8, [.ref a1, .ref a3, .ref s2, .ref s3])), (a1, .inr (10, [.ref v0, .ref v1, .ref v2, .ref v3, .ref v4, .ref v5, .ref v6, .int 0, .int 0, .int 0, .int 0, .int 0, .int 0, .int 0, .int 0, .int 0]))] sz) [(h0, .inr (8, [.ref a1, .ref a3, .ref s2, .ref s3])), (a1, .inr (10, [.ref v0, .ref v1, .ref v2, .ref v3, .ref v4, .ref v5, .ref v6, .int 0, .int 0, .int 0, .int 0, .int 0, .int 0, .int 0, .int 0, .int 0]))]) (va_A [(h0, .inr (8, [.ref a1, .ref a3, .ref s2, .ref s3])), (a1, .inr (10, [.ref v0, .ref v1, .ref v2, .ref v3, .ref v4, .ref v5, .ref v6, .int 0, .int 0, .int 0, .int 0, .int 0, .int 0, .int 0, .int 0, .int 0]))] sz)) 0 0 (va_A [(h0, .inr (8, [.ref a1, .ref a3, .ref s2, .ref s3])), (a1, .inr (10, [.ref v0, .ref v1, .ref v2, .ref v3, .ref v4, .ref v5, .ref v6, .int 0, .int 0, .int 0, .int 0, .int 0, .int 0, .int 0, .int 0, .int 0]))] sz) := by
  refine Met.ofW (cc := cX8_tell) (maxL := 2) (ret := none) (by decide) rfl ?_
  intro p e s m args below meth c s₁ B hml hv
  obtain ⟨rfl, hsz, hP, hK, hD0⟩ := hv
  have hx := B.exec
  have hb := B.bytes
  have hr := B.returns
  have hts := atoms_spec (ws := wk_f_X8_tell) B.pre
  have hown : s.vm.findClass RX8 = some m.cls := findClass_of_methodNamed B.named
  have hlocks := B.notSynchronized
  subst hsz
  have hD := hD0.self (sz := s.heap.size)
  generalize hAe : va_A [(h0, .inr (8, [.ref a1, .ref a3, .ref s2, .ref s3])), (a1, .inr (10, [.ref v0, .ref v1, .ref v2, .ref v3, .ref v4, .ref v5, .ref v6, .int 0, .int 0, .int 0, .int 0, .int 0, .int 0, .int 0, .int 0, .int 0]))] s.heap.size = A at hD ⊢
  have hA : ∀ q : Nat, s.heap.size ≤ q → A q := fun q h => by rw [← hAe]; exact Or.inr h
  have hS : va_S A s.heap s.heap [] := va_S.rf
  have hP : va_P (dC, dI) vwCl [(h0, .inr (8, [.ref a1, .ref a3, .ref s2, .ref s3])), (a1, .inr (10, [.ref v0, .ref v1, .ref v2, .ref v3, .ref v4, .ref v5, .ref v6, .int 0, .int 0, .int 0, .int 0, .int 0, .int 0, .int 0, .int 0, .int 0]))] s.heap := hP
  have hl := lv_entry ([.ref h0]) (n := 2) (Nat.le_of_ble_eq_true rfl)
  rw [lg_entry_eq]
  generalize (lg_sl ([.ref h0]) ++ List.replicate (2 - (lg_sl ([.ref h0])).length) Slot.unset).toArray = ls at hl ⊢
  have hl : lv_has ls 2 [(0, .ref h0)] := hl
  refine lv_iconst (v := 0) hx hb dX8_tell_0 (by decide) ?_
  refine lv_istore_n (lv' := [(1, .int 0), (0, .ref h0)]) hx hb dX8_tell_1 rfl hl (by decide) rfl (fun ls hl => ?_)
  refine lv_iload_n hx hb dX8_tell_2 rfl (lv_at hl 0 rfl) ?_
  refine lv_aload_n hx hb dX8_tell_3 rfl (lv_at hl 1 rfl) ?_
  refine va_get (D := (dC, dI)) (ci := 8) (v := .ref a1) (C := RX8) (T := TX8) (N := 4) hx hb hts (fun w h => List.mem_cons_of_mem _ (List.mem_append_right _ (List.mem_append_left _ h))) hown hK hP 0 rfl rfl 0 (by decide) (hts (.fieldLink RX8 22 "SagMemory$Story" "valley" "LSagMemory$Valley;") (wl_mem 0 rfl)) (fun _ h9 => h9) rfl dX8_tell_4 ?_
  refine va_get (D := (dC, dI)) (ci := 10) (v := .int 0) (C := RX10) (T := TX10) (N := 16) hx hb hts (fun w h => List.mem_cons_of_mem _ (List.mem_append_right _ (List.mem_append_right _ (List.mem_append_left _ h)))) hown hK hP 1 rfl rfl 12 (by decide) (hts (.fieldLink RX8 30 "SagMemory$Valley" "carts" "I") (wl_mem 1 rfl)) (fun _ h9 => h9) rfl dX8_tell_7 ?_
  refine lv_icmp_ge (tgt := 25) hx hb dX8_tell_10 (by decide) (fun cz1 => ?_) (fun cz1 => ?_)
  · skip
    have hP9 := hP.sub (ws' := [(h0, .inr (8, [.ref a1, .ref a3, .ref s2, .ref s3])), (a1, .inr (10, [.ref v0, .ref v1, .ref v2, .ref v3, .ref v4, .ref v5, .ref v6, .int 0, .int 0, .int 0, .int 0, .int 0, .int 0, .int 0, .int 0, .int 0]))]) [0, 1] rfl
    have hD9 := hD.sub (ws' := [(h0, .inr (8, [.ref a1, .ref a3, .ref s2, .ref s3])), (a1, .inr (10, [.ref v0, .ref v1, .ref v2, .ref v3, .ref v4, .ref v5, .ref v6, .int 0, .int 0, .int 0, .int 0, .int 0, .int 0, .int 0, .int 0, .int 0]))]) [0, 1] (by decide) rfl
    have hK9 := hK.sub (tys' := []) [] rfl
    exact W.vret hx hb hr (fun t ht hW => ⟨⟨(), rfl, trivial, by rw [ht]; exact hP9, va_K.moved hW.alike hK9, hD9⟩, hS.F ht⟩) hS.2.2 dX8_tell_25
  · skip
    exact absurd cz1 (by decide)
def wk_f_X11_renew : List Cond := .code yX11_renew cX11_renew 1 none :: ([.fieldLink RX11 33 "SagMemory" "now" "LSagMemory$Plan;", .fieldLink RX11 19 "SagMemory" "told" "LSagMemory$Valley;", .fieldLink RX11 26 "SagMemory" "acts" "LSagMemory$Acts;", .methodLink RX11 408 yX3_make, .instanceMethod yX3_make, .selects RX3 yX3_make yX3_make, .initialized RX3, .fieldLink RX11 45 "SagMemory" "story" "LSagMemory$Story;", .methodLink RX11 412 yX8_tell, .instanceMethod yX8_tell, .selects RX8 yX8_tell yX8_tell, .initialized RX8, .fieldLink RX11 55 "SagMemory" "orderSearch" "LSagMemory$Search;", .fieldLink RX11 415 "SagMemory$Search" "known" "Z", .fieldLink RX11 59 "SagMemory" "routeSearch" "LSagMemory$Search;"] ++ (wsX110 ++ (wk_f_X3_make ++ (wk_f_X8_tell ++ (wsX40 ++ [])))))
theorem wkg_f_X11_renew : wk_f_X11_renew.all goodWord = true := by decide +kernel
set_option maxHeartbeats 4000000 in
set_option maxRecDepth 100000 in
theorem f_X11_renew (l : Launch) (dC : Nat → ClassId) (dI : Nat → Nat → Nat) (sz : Nat) (h0 : Nat) (a0 : Nat) (a1 : Nat) (a2 : Nat) (a3 : Nat) (a4 : Nat) (a5 : Nat) (a6 : Nat) (a7 : Nat) (a8 : Nat) (a9 : Nat) (a10 : Nat) (a11 : Nat) (a12 : Nat) (a13 : Nat) (a14 : Nat) (s2 : Nat) (s3 : Nat) (o0 : Nat) (o1 : Nat) (u0 : Nat) (u1 : Nat) (r0 : Nat) (r1 : Nat) (v0 : Nat) (v1 : Nat) (v2 : Nat) (v3 : Nat) (v4 : Nat) (v5 : Nat) (v6 : Nat) (b0 : Nat) (b1 : Nat) (b2 : Nat) (k0 : ClassId) (k1 : ClassId) (k2 : ClassId) (k3 : ClassId) (f0 : Nat → Int32) (f1 : Nat → Int32) (f2 : Nat → Int32) (f3 : Nat → Int32) : Met l yX11_renew wk_f_X11_renew ({ frames := 2, cells := 0, slots := 0, locals := 104 }) (va_Pc [.ref h0] (fun U => U.heap.size = sz ∧ va_P (dC, dI) vwCl [(h0, .inr (11, [.ref a0, .ref a1, .ref a2, .ref a3, .ref a4, .ref a5, .ref a6, .ref a7, .ref a8, .ref a9, .ref a10, .ref a11, .ref a12, .ref a13, .ref a14])), (a5, .inr (8, [.ref a1, .ref a3, .ref s2, .ref s3])), (a7, .inr (4, [.ref o0, .ref o1, .int 0, .int 0, .int 0, .int 0])), (a8, .inr (4, [.ref u0, .ref u1, .int 0, .int 0, .int 0, .int 0])), (a3, .inr (3, [.ref r0, .ref r1, .int 0, .int 0])), (r0, .inl (k0, 7, .inl f0)), (r1, .inl (k1, 7, .inl f1)), (a1, .inr (10, [.ref v0, .ref v1, .ref v2, .ref v3, .ref v4, .ref v5, .ref v6, .int 0, .int 0, .int 0, .int 0, .int 0, .int 0, .int 0, .int 0, .int 0])), (v2, .inl (k2, 7, .inl f2)), (v3, .inl (k3, 7, .inl f3)), (a2, .inr (0, [.ref b0, .ref b1, .ref b2, .int 0]))] U.heap ∧ va_K (dC, dI) vwCl [(k0, .int), (k1, .int), (k2, .int), (k3, .int)] U ∧ va_D (fun _ => True) [(h0, .inr (11, [.ref a0, .ref a1, .ref a2, .ref a3, .ref a4, .ref a5, .ref a6, .ref a7, .ref a8, .ref a9, .ref a10, .ref a11, .ref a12, .ref a13, .ref a14])), (a5, .inr (8, [.ref a1, .ref a3, .ref s2, .ref s3])), (a7, .inr (4, [.ref o0, .ref o1, .int 0, .int 0, .int 0, .int 0])), (a8, .inr (4, [.ref u0, .ref u1, .int 0, .int 0, .int 0, .int 0])), (a3, .inr (3, [.ref r0, .ref r1, .int 0, .int 0])), (r0, .inl (k0, 7, .inl f0)), (r1, .inl (k1, 7, .inl f1)), (a1, .inr (10, [.ref v0, .ref v1, .ref v2, .ref v3, .ref v4, .ref v5, .ref v6, .int 0, .int 0, .int 0, .int 0, .int 0, .int 0, .int 0, .int 0, .int 0])), (v2, .inl (k2, 7, .inl f2)), (v3, .inl (k3, 7, .inl f3)), (a2, .inr (0, [.ref b0, .ref b1, .ref b2, .int 0]))])) (va_Qv (fun _ : Unit => True) (fun (_ : Unit) (t : State) => ∃ (e0 : Nat → Int32) (e1 : Nat → Int32), va_P (dC, dI) vwCl [(h0, .inr (11, [.ref a0, .ref a1, .ref a2, .ref a3, .ref a4, .ref a5, .ref a6, .ref a7, .ref a8, .ref a9, .ref a10, .ref a11, .ref a12, .ref a13, .ref a14])), (a5, .inr (8, [.ref a1, .ref a3, .ref s2, .ref s3])), (a7, .inr (4, [.ref o0, .ref o1, .int 0, .int 0, .int 0, .int 0])), (a8, .inr (4, [.ref u0, .ref u1, .int 0, .int 0, .int 0, .int 0])), (a3, .inr (3, [.ref r0, .ref r1, .int 0, .int 0])), (r0, .inl (k0, 7, .inl e0)), (r1, .inl (k1, 7, .inl e1)), (a1, .inr (10, [.ref v0, .ref v1, .ref v2, .ref v3, .ref v4, .ref v5, .ref v6, .int 0, .int 0, .int 0, .int 0, .int 0, .int 0, .int 0, .int 0, .int 0])), (v2, .inl (k2, 7, .inl f2)), (v3, .inl (k3, 7, .inl f3)), (a2, .inr (0, [.ref b0, .ref b1, .ref b2, .int 0]))] t.heap ∧ va_K (dC, dI) vwCl [(k0, .int), (k1, .int), (k2, .int), (k3, .int)] t ∧ va_D (va_A [(h0, .inr (11, [.ref a0, .ref a1, .ref a2, .ref a3, .ref a4, .ref a5, .ref a6, .ref a7, .ref a8, .ref a9, .ref a10, .ref a11, .ref a12, .ref a13, .ref a14])), (a5, .inr (8, [.ref a1, .ref a3, .ref s2, .ref s3])), (a7, .inr (4, [.ref o0, .ref o1, .int 0, .int 0, .int 0, .int 0])), (a8, .inr (4, [.ref u0, .ref u1, .int 0, .int 0, .int 0, .int 0])), (a3, .inr (3, [.ref r0, .ref r1, .int 0, .int 0])), (r0, .inl (k0, 7, .inl f0)), (r1, .inl (k1, 7, .inl f1)), (a1, .inr (10, [.ref v0, .ref v1, .ref v2, .ref v3, .ref v4, .ref v5, .ref v6, .int 0, .int 0, .int 0, .int 0, .int 0, .int 0, .int 0, .int 0, .int 0])), (v2, .inl (k2, 7, .inl f2)), (v3, .inl (k3, 7, .inl f3)), (a2, .inr (0, [.ref b0, .ref b1, .ref b2, .int 0]))] sz) [(h0, .inr (11, [.ref a0, .ref a1, .ref a2, .ref a3, .ref a4, .ref a5, .ref a6, .ref a7, .ref a8, .ref a9, .ref a10, .ref a11, .ref a12, .ref a13, .ref a14])), (a5, .inr (8, [.ref a1, .ref a3, .ref s2, .ref s3])), (a7, .inr (4, [.ref o0, .ref o1, .int 0, .int 0, .int 0, .int 0])), (a8, .inr (4, [.ref u0, .ref u1, .int 0, .int 0, .int 0, .int 0])), (a3, .inr (3, [.ref r0, .ref r1, .int 0, .int 0])), (r0, .inl (k0, 7, .inl e0)), (r1, .inl (k1, 7, .inl e1)), (a1, .inr (10, [.ref v0, .ref v1, .ref v2, .ref v3, .ref v4, .ref v5, .ref v6, .int 0, .int 0, .int 0, .int 0, .int 0, .int 0, .int 0, .int 0, .int 0])), (v2, .inl (k2, 7, .inl f2)), (v3, .inl (k3, 7, .inl f3)), (a2, .inr (0, [.ref b0, .ref b1, .ref b2, .int 0]))]) (va_A [(h0, .inr (11, [.ref a0, .ref a1, .ref a2, .ref a3, .ref a4, .ref a5, .ref a6, .ref a7, .ref a8, .ref a9, .ref a10, .ref a11, .ref a12, .ref a13, .ref a14])), (a5, .inr (8, [.ref a1, .ref a3, .ref s2, .ref s3])), (a7, .inr (4, [.ref o0, .ref o1, .int 0, .int 0, .int 0, .int 0])), (a8, .inr (4, [.ref u0, .ref u1, .int 0, .int 0, .int 0, .int 0])), (a3, .inr (3, [.ref r0, .ref r1, .int 0, .int 0])), (r0, .inl (k0, 7, .inl f0)), (r1, .inl (k1, 7, .inl f1)), (a1, .inr (10, [.ref v0, .ref v1, .ref v2, .ref v3, .ref v4, .ref v5, .ref v6, .int 0, .int 0, .int 0, .int 0, .int 0, .int 0, .int 0, .int 0, .int 0])), (v2, .inl (k2, 7, .inl f2)), (v3, .inl (k3, 7, .inl f3)), (a2, .inr (0, [.ref b0, .ref b1, .ref b2, .int 0]))] sz)) 0 0 (va_A [(h0, .inr (11, [.ref a0, .ref a1, .ref a2, .ref a3, .ref a4, .ref a5, .ref a6, .ref a7, .ref a8, .ref a9, .ref a10, .ref a11, .ref a12, .ref a13, .ref a14])), (a5, .inr (8, [.ref a1, .ref a3, .ref s2, .ref s3])), (a7, .inr (4, [.ref o0, .ref o1, .int 0, .int 0, .int 0, .int 0])), (a8, .inr (4, [.ref u0, .ref u1, .int 0, .int 0, .int 0, .int 0])), (a3, .inr (3, [.ref r0, .ref r1, .int 0, .int 0])), (r0, .inl (k0, 7, .inl f0)), (r1, .inl (k1, 7, .inl f1)), (a1, .inr (10, [.ref v0, .ref v1, .ref v2, .ref v3, .ref v4, .ref v5, .ref v6, .int 0, .int 0, .int 0, .int 0, .int 0, .int 0, .int 0, .int 0, .int 0])), (v2, .inl (k2, 7, .inl f2)), (v3, .inl (k3, 7, .inl f3)), (a2, .inr (0, [.ref b0, .ref b1, .ref b2, .int 0]))] sz) := by
  refine Met.ofW (cc := cX11_renew) (maxL := 1) (ret := none) (by decide) rfl ?_
  intro p e s m args below meth c s₁ B hml hv
  obtain ⟨rfl, hsz, hP, hK, hD0⟩ := hv
  have hx := B.exec
  have hb := B.bytes
  have hr := B.returns
  have hts := atoms_spec (ws := wk_f_X11_renew) B.pre
  have hown : s.vm.findClass RX11 = some m.cls := findClass_of_methodNamed B.named
  have hlocks := B.notSynchronized
  subst hsz
  have hD := hD0.self (sz := s.heap.size)
  generalize hAe : va_A [(h0, .inr (11, [.ref a0, .ref a1, .ref a2, .ref a3, .ref a4, .ref a5, .ref a6, .ref a7, .ref a8, .ref a9, .ref a10, .ref a11, .ref a12, .ref a13, .ref a14])), (a5, .inr (8, [.ref a1, .ref a3, .ref s2, .ref s3])), (a7, .inr (4, [.ref o0, .ref o1, .int 0, .int 0, .int 0, .int 0])), (a8, .inr (4, [.ref u0, .ref u1, .int 0, .int 0, .int 0, .int 0])), (a3, .inr (3, [.ref r0, .ref r1, .int 0, .int 0])), (r0, .inl (k0, 7, .inl f0)), (r1, .inl (k1, 7, .inl f1)), (a1, .inr (10, [.ref v0, .ref v1, .ref v2, .ref v3, .ref v4, .ref v5, .ref v6, .int 0, .int 0, .int 0, .int 0, .int 0, .int 0, .int 0, .int 0, .int 0])), (v2, .inl (k2, 7, .inl f2)), (v3, .inl (k3, 7, .inl f3)), (a2, .inr (0, [.ref b0, .ref b1, .ref b2, .int 0]))] s.heap.size = A at hD ⊢
  have hA : ∀ q : Nat, s.heap.size ≤ q → A q := fun q h => by rw [← hAe]; exact Or.inr h
  have hS : va_S A s.heap s.heap [] := va_S.rf
  have hP : va_P (dC, dI) vwCl [(h0, .inr (11, [.ref a0, .ref a1, .ref a2, .ref a3, .ref a4, .ref a5, .ref a6, .ref a7, .ref a8, .ref a9, .ref a10, .ref a11, .ref a12, .ref a13, .ref a14])), (a5, .inr (8, [.ref a1, .ref a3, .ref s2, .ref s3])), (a7, .inr (4, [.ref o0, .ref o1, .int 0, .int 0, .int 0, .int 0])), (a8, .inr (4, [.ref u0, .ref u1, .int 0, .int 0, .int 0, .int 0])), (a3, .inr (3, [.ref r0, .ref r1, .int 0, .int 0])), (r0, .inl (k0, 7, .inl f0)), (r1, .inl (k1, 7, .inl f1)), (a1, .inr (10, [.ref v0, .ref v1, .ref v2, .ref v3, .ref v4, .ref v5, .ref v6, .int 0, .int 0, .int 0, .int 0, .int 0, .int 0, .int 0, .int 0, .int 0])), (v2, .inl (k2, 7, .inl f2)), (v3, .inl (k3, 7, .inl f3)), (a2, .inr (0, [.ref b0, .ref b1, .ref b2, .int 0]))] s.heap := hP
  have hl := lv_entry ([.ref h0]) (n := 1) (Nat.le_of_ble_eq_true rfl)
  rw [lg_entry_eq]
  generalize (lg_sl ([.ref h0]) ++ List.replicate (1 - (lg_sl ([.ref h0])).length) Slot.unset).toArray = ls at hl ⊢
  have hl : lv_has ls 1 [(0, .ref h0)] := hl
  refine lv_aload_n hx hb dX11_renew_0 rfl (lv_at hl 0 rfl) ?_
  refine va_get (D := (dC, dI)) (ci := 11) (v := .ref a3) (C := RX11) (T := TX11) (N := 15) hx hb hts (fun w h => List.mem_cons_of_mem _ (List.mem_append_right _ (List.mem_append_left _ h))) hown hK hP 0 rfl rfl 3 (by decide) (hts (.fieldLink RX11 33 "SagMemory" "now" "LSagMemory$Plan;") (wl_mem 0 rfl)) (fun _ h9 => h9) rfl dX11_renew_1 ?_
  refine lv_aload_n hx hb dX11_renew_4 rfl (lv_at hl 0 rfl) ?_
  refine va_get (D := (dC, dI)) (ci := 11) (v := .ref a1) (C := RX11) (T := TX11) (N := 15) hx hb hts (fun w h => List.mem_cons_of_mem _ (List.mem_append_right _ (List.mem_append_left _ h))) hown hK hP 0 rfl rfl 1 (by decide) (hts (.fieldLink RX11 19 "SagMemory" "told" "LSagMemory$Valley;") (wl_mem 1 rfl)) (fun _ h9 => h9) rfl dX11_renew_5 ?_
  refine lv_aload_n hx hb dX11_renew_8 rfl (lv_at hl 0 rfl) ?_
  refine va_get (D := (dC, dI)) (ci := 11) (v := .ref a2) (C := RX11) (T := TX11) (N := 15) hx hb hts (fun w h => List.mem_cons_of_mem _ (List.mem_append_right _ (List.mem_append_left _ h))) hown hK hP 0 rfl rfl 2 (by decide) (hts (.fieldLink RX11 26 "SagMemory" "acts" "LSagMemory$Acts;") (wl_mem 2 rfl)) (fun _ h9 => h9) rfl dX11_renew_9 ?_
  have hPc := hP.sub (ws' := [(a3, .inr (3, [.ref r0, .ref r1, .int 0, .int 0])), (r0, .inl (k0, 7, .inl f0)), (r1, .inl (k1, 7, .inl f1)), (a1, .inr (10, [.ref v0, .ref v1, .ref v2, .ref v3, .ref v4, .ref v5, .ref v6, .int 0, .int 0, .int 0, .int 0, .int 0, .int 0, .int 0, .int 0, .int 0])), (v2, .inl (k2, 7, .inl f2)), (v3, .inl (k3, 7, .inl f3)), (a2, .inr (0, [.ref b0, .ref b1, .ref b2, .int 0]))]) [4, 5, 6, 7, 8, 9, 10] rfl
  have hKc := hK.sub (tys' := [(k0, .int), (k1, .int), (k2, .int), (k3, .int)]) [0, 1, 2, 3] rfl
  have hDc := hD.sub (ws' := [(a3, .inr (3, [.ref r0, .ref r1, .int 0, .int 0])), (r0, .inl (k0, 7, .inl f0)), (r1, .inl (k1, 7, .inl f1)), (a1, .inr (10, [.ref v0, .ref v1, .ref v2, .ref v3, .ref v4, .ref v5, .ref v6, .int 0, .int 0, .int 0, .int 0, .int 0, .int 0, .int 0, .int 0, .int 0])), (v2, .inl (k2, 7, .inl f2)), (v3, .inl (k3, 7, .inl f3)), (a2, .inr (0, [.ref b0, .ref b1, .ref b2, .int 0]))]) [4, 5, 6, 7, 8, 9, 10] (by decide) rfl
  have hFc := va_free (wc := [(a3, .inr (3, [.ref r0, .ref r1, .int 0, .int 0])), (r0, .inl (k0, 7, .inl f0)), (r1, .inl (k1, 7, .inl f1)), (a1, .inr (10, [.ref v0, .ref v1, .ref v2, .ref v3, .ref v4, .ref v5, .ref v6, .int 0, .int 0, .int 0, .int 0, .int 0, .int 0, .int 0, .int 0, .int 0])), (v2, .inl (k2, 7, .inl f2)), (v3, .inl (k3, 7, .inl f3)), (a2, .inr (0, [.ref b0, .ref b1, .ref b2, .int 0]))]) hD hS hA [4, 5, 6, 7, 8, 9, 10] rfl
  refine va_callv (va_runV (As := [.ref a1, .ref a2]) (rest := []) ⟨hx, hb, hml, hown, hts⟩ (f_X3_make l dC dI s.heap.size a3 a1 a2 r0 r1 v0 v1 v2 v3 v4 v5 v6 b0 b1 b2 k0 k1 k2 k3 f0 f1 f2 f3) (cwV 2 hts (gk_V (wl_mem 3 rfl) (wl_mem 4 rfl) (wl_mem 5 rfl) (wl_mem 6 rfl) (fun w h => List.mem_cons_of_mem _ (List.mem_append_right _ (List.mem_append_right _ (List.mem_append_left _ h)))) wkg_f_X3_make) rfl rfl rfl (by decide +kernel) ⟨Nat.le_of_ble_eq_true rfl, Nat.le_of_ble_eq_true rfl⟩) ⟨fun a U g mk q => by obtain ⟨q0, q1, qP, qK, qD⟩ := q; exact ⟨q0, q1, qP, va_K.moved (u := U) (U := U.calling g mk a) (Vm.Alike.refl U.vm) qK, qD⟩, va_recv hKc hPc (ci := 3) (q0 := 0) rfl rfl, fun U hU hW => ⟨rfl, by rw [hU], by rw [hU]; exact hPc, va_K.moved hW.alike hKc, hDc.weaken (fun _ _ _ _ => trivial)⟩⟩ rfl rfl hl.1 rfl (lv_room (Nat.le_of_ble_eq_true rfl)) dX11_renew_12 ⟨Nat.le_of_ble_eq_true rfl, Nat.le_of_ble_eq_true rfl⟩) hS (fun q _ h => hFc q h) hFc (fun u t H1 locs ht hvm hz1 hB hz1 hk1 hS => ?_)
  obtain ⟨fz3, fz4, hP1, hK1, hD1⟩ := hB
  rw [ht] at hP1
  have hK1 := va_K.moved hvm.symm hK1
  obtain ⟨hP, hD⟩ := va_join (wr := [(h0, .inr (11, [.ref a0, .ref a1, .ref a2, .ref a3, .ref a4, .ref a5, .ref a6, .ref a7, .ref a8, .ref a9, .ref a10, .ref a11, .ref a12, .ref a13, .ref a14])), (a5, .inr (8, [.ref a1, .ref a3, .ref s2, .ref s3])), (a7, .inr (4, [.ref o0, .ref o1, .int 0, .int 0, .int 0, .int 0])), (a8, .inr (4, [.ref u0, .ref u1, .int 0, .int 0, .int 0, .int 0]))]) (w1 := [(a3, .inr (3, [.ref r0, .ref r1, .int 0, .int 0])), (r0, .inl (k0, 7, .inl fz3)), (r1, .inl (k1, 7, .inl fz4)), (a1, .inr (10, [.ref v0, .ref v1, .ref v2, .ref v3, .ref v4, .ref v5, .ref v6, .int 0, .int 0, .int 0, .int 0, .int 0, .int 0, .int 0, .int 0, .int 0])), (v2, .inl (k2, 7, .inl f2)), (v3, .inl (k3, 7, .inl f3)), (a2, .inr (0, [.ref b0, .ref b1, .ref b2, .int 0]))]) hP hD [4, 5, 6, 7, 8, 9, 10] [0, 1, 2, 3] rfl rfl (by decide) (by decide) hk1 hFc hP1 hD1
  have hK := (hK.sub (tys' := []) [] rfl).app hK1
  generalize H1 = H at hP hS ⊢
  have hK : va_K (dC, dI) vwCl [(k0, .int), (k1, .int), (k2, .int), (k3, .int)] s := hK
  have hP : va_P (dC, dI) vwCl [(h0, .inr (11, [.ref a0, .ref a1, .ref a2, .ref a3, .ref a4, .ref a5, .ref a6, .ref a7, .ref a8, .ref a9, .ref a10, .ref a11, .ref a12, .ref a13, .ref a14])), (a5, .inr (8, [.ref a1, .ref a3, .ref s2, .ref s3])), (a7, .inr (4, [.ref o0, .ref o1, .int 0, .int 0, .int 0, .int 0])), (a8, .inr (4, [.ref u0, .ref u1, .int 0, .int 0, .int 0, .int 0])), (a3, .inr (3, [.ref r0, .ref r1, .int 0, .int 0])), (r0, .inl (k0, 7, .inl fz3)), (r1, .inl (k1, 7, .inl fz4)), (a1, .inr (10, [.ref v0, .ref v1, .ref v2, .ref v3, .ref v4, .ref v5, .ref v6, .int 0, .int 0, .int 0, .int 0, .int 0, .int 0, .int 0, .int 0, .int 0])), (v2, .inl (k2, 7, .inl f2)), (v3, .inl (k3, 7, .inl f3)), (a2, .inr (0, [.ref b0, .ref b1, .ref b2, .int 0]))] H := hP
  have hD : va_D A [(h0, .inr (11, [.ref a0, .ref a1, .ref a2, .ref a3, .ref a4, .ref a5, .ref a6, .ref a7, .ref a8, .ref a9, .ref a10, .ref a11, .ref a12, .ref a13, .ref a14])), (a5, .inr (8, [.ref a1, .ref a3, .ref s2, .ref s3])), (a7, .inr (4, [.ref o0, .ref o1, .int 0, .int 0, .int 0, .int 0])), (a8, .inr (4, [.ref u0, .ref u1, .int 0, .int 0, .int 0, .int 0])), (a3, .inr (3, [.ref r0, .ref r1, .int 0, .int 0])), (r0, .inl (k0, 7, .inl fz3)), (r1, .inl (k1, 7, .inl fz4)), (a1, .inr (10, [.ref v0, .ref v1, .ref v2, .ref v3, .ref v4, .ref v5, .ref v6, .int 0, .int 0, .int 0, .int 0, .int 0, .int 0, .int 0, .int 0, .int 0])), (v2, .inl (k2, 7, .inl f2)), (v3, .inl (k3, 7, .inl f3)), (a2, .inr (0, [.ref b0, .ref b1, .ref b2, .int 0]))] := hD
  refine W.widen (k := 0) (n := 0) (Nat.le_of_ble_eq_true rfl) (Nat.le_of_ble_eq_true rfl) ?_
  refine lv_aload_n hx hb dX11_renew_15 rfl (lv_at hl 0 rfl) ?_
  refine va_get (D := (dC, dI)) (ci := 11) (v := .ref a5) (C := RX11) (T := TX11) (N := 15) hx hb hts (fun w h => List.mem_cons_of_mem _ (List.mem_append_right _ (List.mem_append_left _ h))) hown hK hP 0 rfl rfl 5 (by decide) (hts (.fieldLink RX11 45 "SagMemory" "story" "LSagMemory$Story;") (wl_mem 7 rfl)) (fun _ h9 => h9) rfl dX11_renew_16 ?_
  have hPc := hP.sub (ws' := [(a5, .inr (8, [.ref a1, .ref a3, .ref s2, .ref s3])), (a1, .inr (10, [.ref v0, .ref v1, .ref v2, .ref v3, .ref v4, .ref v5, .ref v6, .int 0, .int 0, .int 0, .int 0, .int 0, .int 0, .int 0, .int 0, .int 0]))]) [1, 7] rfl
  have hKc := hK.sub (tys' := []) [] rfl
  have hDc := hD.sub (ws' := [(a5, .inr (8, [.ref a1, .ref a3, .ref s2, .ref s3])), (a1, .inr (10, [.ref v0, .ref v1, .ref v2, .ref v3, .ref v4, .ref v5, .ref v6, .int 0, .int 0, .int 0, .int 0, .int 0, .int 0, .int 0, .int 0, .int 0]))]) [1, 7] (by decide) rfl
  have hFc := va_free (wc := [(a5, .inr (8, [.ref a1, .ref a3, .ref s2, .ref s3])), (a1, .inr (10, [.ref v0, .ref v1, .ref v2, .ref v3, .ref v4, .ref v5, .ref v6, .int 0, .int 0, .int 0, .int 0, .int 0, .int 0, .int 0, .int 0, .int 0]))]) hD hS hA [1, 7] rfl
  refine va_callv (va_runV (As := []) (rest := []) ⟨hx, hb, hml, hown, hts⟩ (f_X8_tell l dC dI H.size a5 a1 a3 s2 s3 v0 v1 v2 v3 v4 v5 v6) (cwV 0 hts (gk_V (wl_mem 8 rfl) (wl_mem 9 rfl) (wl_mem 10 rfl) (wl_mem 11 rfl) (fun w h => List.mem_cons_of_mem _ (List.mem_append_right _ (List.mem_append_right _ (List.mem_append_right _ (List.mem_append_left _ h))))) wkg_f_X8_tell) rfl rfl rfl (by decide +kernel) ⟨Nat.le_of_ble_eq_true rfl, Nat.le_of_ble_eq_true rfl⟩) ⟨fun a U g mk q => by obtain ⟨q0, q1, qP, qK, qD⟩ := q; exact ⟨q0, q1, qP, va_K.moved (u := U) (U := U.calling g mk a) (Vm.Alike.refl U.vm) qK, qD⟩, va_recv hKc hPc (ci := 8) (q0 := 0) rfl rfl, fun U hU hW => ⟨rfl, by rw [hU], by rw [hU]; exact hPc, va_K.moved hW.alike hKc, hDc.weaken (fun _ _ _ _ => trivial)⟩⟩ rfl rfl hl.1 rfl (lv_room (Nat.le_of_ble_eq_true rfl)) dX11_renew_19 ⟨Nat.le_of_ble_eq_true rfl, Nat.le_of_ble_eq_true rfl⟩) hS (fun q _ h => hFc q h) hFc (fun u t H1 locs ht hvm hz5 hB hz1 hk1 hS => ?_)
  obtain ⟨hP1, hK1, hD1⟩ := hB
  rw [ht] at hP1
  have hK1 := va_K.moved hvm.symm hK1
  obtain ⟨hP, hD⟩ := va_join (wr := [(h0, .inr (11, [.ref a0, .ref a1, .ref a2, .ref a3, .ref a4, .ref a5, .ref a6, .ref a7, .ref a8, .ref a9, .ref a10, .ref a11, .ref a12, .ref a13, .ref a14])), (a7, .inr (4, [.ref o0, .ref o1, .int 0, .int 0, .int 0, .int 0])), (a8, .inr (4, [.ref u0, .ref u1, .int 0, .int 0, .int 0, .int 0])), (a3, .inr (3, [.ref r0, .ref r1, .int 0, .int 0])), (r0, .inl (k0, 7, .inl fz3)), (r1, .inl (k1, 7, .inl fz4)), (v2, .inl (k2, 7, .inl f2)), (v3, .inl (k3, 7, .inl f3)), (a2, .inr (0, [.ref b0, .ref b1, .ref b2, .int 0]))]) (w1 := [(a5, .inr (8, [.ref a1, .ref a3, .ref s2, .ref s3])), (a1, .inr (10, [.ref v0, .ref v1, .ref v2, .ref v3, .ref v4, .ref v5, .ref v6, .int 0, .int 0, .int 0, .int 0, .int 0, .int 0, .int 0, .int 0, .int 0]))]) hP hD [1, 7] [0, 2, 3, 4, 5, 6, 8, 9, 10] rfl rfl (by decide) (by decide) hk1 hFc hP1 hD1
  have hK := (hK.sub (tys' := [(k0, .int), (k1, .int), (k2, .int), (k3, .int)]) [0, 1, 2, 3] rfl).app hK1
  generalize H1 = H at hP hS ⊢
  have hK : va_K (dC, dI) vwCl [(k0, .int), (k1, .int), (k2, .int), (k3, .int)] s := hK
  have hP : va_P (dC, dI) vwCl [(h0, .inr (11, [.ref a0, .ref a1, .ref a2, .ref a3, .ref a4, .ref a5, .ref a6, .ref a7, .ref a8, .ref a9, .ref a10, .ref a11, .ref a12, .ref a13, .ref a14])), (a7, .inr (4, [.ref o0, .ref o1, .int 0, .int 0, .int 0, .int 0])), (a8, .inr (4, [.ref u0, .ref u1, .int 0, .int 0, .int 0, .int 0])), (a3, .inr (3, [.ref r0, .ref r1, .int 0, .int 0])), (r0, .inl (k0, 7, .inl fz3)), (r1, .inl (k1, 7, .inl fz4)), (v2, .inl (k2, 7, .inl f2)), (v3, .inl (k3, 7, .inl f3)), (a2, .inr (0, [.ref b0, .ref b1, .ref b2, .int 0])), (a5, .inr (8, [.ref a1, .ref a3, .ref s2, .ref s3])), (a1, .inr (10, [.ref v0, .ref v1, .ref v2, .ref v3, .ref v4, .ref v5, .ref v6, .int 0, .int 0, .int 0, .int 0, .int 0, .int 0, .int 0, .int 0, .int 0]))] H := hP
  have hD : va_D A [(h0, .inr (11, [.ref a0, .ref a1, .ref a2, .ref a3, .ref a4, .ref a5, .ref a6, .ref a7, .ref a8, .ref a9, .ref a10, .ref a11, .ref a12, .ref a13, .ref a14])), (a7, .inr (4, [.ref o0, .ref o1, .int 0, .int 0, .int 0, .int 0])), (a8, .inr (4, [.ref u0, .ref u1, .int 0, .int 0, .int 0, .int 0])), (a3, .inr (3, [.ref r0, .ref r1, .int 0, .int 0])), (r0, .inl (k0, 7, .inl fz3)), (r1, .inl (k1, 7, .inl fz4)), (v2, .inl (k2, 7, .inl f2)), (v3, .inl (k3, 7, .inl f3)), (a2, .inr (0, [.ref b0, .ref b1, .ref b2, .int 0])), (a5, .inr (8, [.ref a1, .ref a3, .ref s2, .ref s3])), (a1, .inr (10, [.ref v0, .ref v1, .ref v2, .ref v3, .ref v4, .ref v5, .ref v6, .int 0, .int 0, .int 0, .int 0, .int 0, .int 0, .int 0, .int 0, .int 0]))] := hD
  refine W.widen (k := 0) (n := 0) (Nat.le_of_ble_eq_true rfl) (Nat.le_of_ble_eq_true rfl) ?_
  refine lv_aload_n hx hb dX11_renew_22 rfl (lv_at hl 0 rfl) ?_
  refine va_get (D := (dC, dI)) (ci := 11) (v := .ref a7) (C := RX11) (T := TX11) (N := 15) hx hb hts (fun w h => List.mem_cons_of_mem _ (List.mem_append_right _ (List.mem_append_left _ h))) hown hK hP 0 rfl rfl 7 (by decide) (hts (.fieldLink RX11 55 "SagMemory" "orderSearch" "LSagMemory$Search;") (wl_mem 12 rfl)) (fun _ h9 => h9) rfl dX11_renew_23 ?_
  refine lv_iconst (v := 0) hx hb dX11_renew_26 (by decide) ?_
  refine va_put (D := (dC, dI)) (ci := 4) (v := .int 0) (ty := .boolean) (C := RX4) (T := TX4) (N := 6) hx hb hts (fun w h => List.mem_cons_of_mem _ (List.mem_append_right _ (List.mem_append_right _ (List.mem_append_right _ (List.mem_append_right _ (List.mem_append_left _ h)))))) tyX4 tyX4_ok nmX4 hown hK hP hD hS 1 rfl rfl 2 (by decide) (hts (.fieldLink RX11 415 "SagMemory$Search" "known" "Z") (wl_mem 13 rfl)) (fun _ h9 => h9) rfl (by decide +kernel) rfl rfl (Nat.le_of_ble_eq_true rfl) dX11_renew_27 (fun H locs hP hD hS => ?_)
  have hP : va_P (dC, dI) vwCl [(h0, .inr (11, [.ref a0, .ref a1, .ref a2, .ref a3, .ref a4, .ref a5, .ref a6, .ref a7, .ref a8, .ref a9, .ref a10, .ref a11, .ref a12, .ref a13, .ref a14])), (a7, .inr (4, [.ref o0, .ref o1, .int 0, .int 0, .int 0, .int 0])), (a8, .inr (4, [.ref u0, .ref u1, .int 0, .int 0, .int 0, .int 0])), (a3, .inr (3, [.ref r0, .ref r1, .int 0, .int 0])), (r0, .inl (k0, 7, .inl fz3)), (r1, .inl (k1, 7, .inl fz4)), (v2, .inl (k2, 7, .inl f2)), (v3, .inl (k3, 7, .inl f3)), (a2, .inr (0, [.ref b0, .ref b1, .ref b2, .int 0])), (a5, .inr (8, [.ref a1, .ref a3, .ref s2, .ref s3])), (a1, .inr (10, [.ref v0, .ref v1, .ref v2, .ref v3, .ref v4, .ref v5, .ref v6, .int 0, .int 0, .int 0, .int 0, .int 0, .int 0, .int 0, .int 0, .int 0]))] H := hP
  have hD : va_D A [(h0, .inr (11, [.ref a0, .ref a1, .ref a2, .ref a3, .ref a4, .ref a5, .ref a6, .ref a7, .ref a8, .ref a9, .ref a10, .ref a11, .ref a12, .ref a13, .ref a14])), (a7, .inr (4, [.ref o0, .ref o1, .int 0, .int 0, .int 0, .int 0])), (a8, .inr (4, [.ref u0, .ref u1, .int 0, .int 0, .int 0, .int 0])), (a3, .inr (3, [.ref r0, .ref r1, .int 0, .int 0])), (r0, .inl (k0, 7, .inl fz3)), (r1, .inl (k1, 7, .inl fz4)), (v2, .inl (k2, 7, .inl f2)), (v3, .inl (k3, 7, .inl f3)), (a2, .inr (0, [.ref b0, .ref b1, .ref b2, .int 0])), (a5, .inr (8, [.ref a1, .ref a3, .ref s2, .ref s3])), (a1, .inr (10, [.ref v0, .ref v1, .ref v2, .ref v3, .ref v4, .ref v5, .ref v6, .int 0, .int 0, .int 0, .int 0, .int 0, .int 0, .int 0, .int 0, .int 0]))] := hD
  refine lv_aload_n hx hb dX11_renew_30 rfl (lv_at hl 0 rfl) ?_
  refine va_get (D := (dC, dI)) (ci := 11) (v := .ref a8) (C := RX11) (T := TX11) (N := 15) hx hb hts (fun w h => List.mem_cons_of_mem _ (List.mem_append_right _ (List.mem_append_left _ h))) hown hK hP 0 rfl rfl 8 (by decide) (hts (.fieldLink RX11 59 "SagMemory" "routeSearch" "LSagMemory$Search;") (wl_mem 14 rfl)) (fun _ h9 => h9) rfl dX11_renew_31 ?_
  refine lv_iconst (v := 0) hx hb dX11_renew_34 (by decide) ?_
  refine va_put (D := (dC, dI)) (ci := 4) (v := .int 0) (ty := .boolean) (C := RX4) (T := TX4) (N := 6) hx hb hts (fun w h => List.mem_cons_of_mem _ (List.mem_append_right _ (List.mem_append_right _ (List.mem_append_right _ (List.mem_append_right _ (List.mem_append_left _ h)))))) tyX4 tyX4_ok nmX4 hown hK hP hD hS 2 rfl rfl 2 (by decide) (hts (.fieldLink RX11 415 "SagMemory$Search" "known" "Z") (wl_mem 13 rfl)) (fun _ h9 => h9) rfl (by decide +kernel) rfl rfl (Nat.le_of_ble_eq_true rfl) dX11_renew_35 (fun H locs hP hD hS => ?_)
  have hP : va_P (dC, dI) vwCl [(h0, .inr (11, [.ref a0, .ref a1, .ref a2, .ref a3, .ref a4, .ref a5, .ref a6, .ref a7, .ref a8, .ref a9, .ref a10, .ref a11, .ref a12, .ref a13, .ref a14])), (a7, .inr (4, [.ref o0, .ref o1, .int 0, .int 0, .int 0, .int 0])), (a8, .inr (4, [.ref u0, .ref u1, .int 0, .int 0, .int 0, .int 0])), (a3, .inr (3, [.ref r0, .ref r1, .int 0, .int 0])), (r0, .inl (k0, 7, .inl fz3)), (r1, .inl (k1, 7, .inl fz4)), (v2, .inl (k2, 7, .inl f2)), (v3, .inl (k3, 7, .inl f3)), (a2, .inr (0, [.ref b0, .ref b1, .ref b2, .int 0])), (a5, .inr (8, [.ref a1, .ref a3, .ref s2, .ref s3])), (a1, .inr (10, [.ref v0, .ref v1, .ref v2, .ref v3, .ref v4, .ref v5, .ref v6, .int 0, .int 0, .int 0, .int 0, .int 0, .int 0, .int 0, .int 0, .int 0]))] H := hP
  have hD : va_D A [(h0, .inr (11, [.ref a0, .ref a1, .ref a2, .ref a3, .ref a4, .ref a5, .ref a6, .ref a7, .ref a8, .ref a9, .ref a10, .ref a11, .ref a12, .ref a13, .ref a14])), (a7, .inr (4, [.ref o0, .ref o1, .int 0, .int 0, .int 0, .int 0])), (a8, .inr (4, [.ref u0, .ref u1, .int 0, .int 0, .int 0, .int 0])), (a3, .inr (3, [.ref r0, .ref r1, .int 0, .int 0])), (r0, .inl (k0, 7, .inl fz3)), (r1, .inl (k1, 7, .inl fz4)), (v2, .inl (k2, 7, .inl f2)), (v3, .inl (k3, 7, .inl f3)), (a2, .inr (0, [.ref b0, .ref b1, .ref b2, .int 0])), (a5, .inr (8, [.ref a1, .ref a3, .ref s2, .ref s3])), (a1, .inr (10, [.ref v0, .ref v1, .ref v2, .ref v3, .ref v4, .ref v5, .ref v6, .int 0, .int 0, .int 0, .int 0, .int 0, .int 0, .int 0, .int 0, .int 0]))] := hD
  have hP9 := hP.sub (ws' := [(h0, .inr (11, [.ref a0, .ref a1, .ref a2, .ref a3, .ref a4, .ref a5, .ref a6, .ref a7, .ref a8, .ref a9, .ref a10, .ref a11, .ref a12, .ref a13, .ref a14])), (a5, .inr (8, [.ref a1, .ref a3, .ref s2, .ref s3])), (a7, .inr (4, [.ref o0, .ref o1, .int 0, .int 0, .int 0, .int 0])), (a8, .inr (4, [.ref u0, .ref u1, .int 0, .int 0, .int 0, .int 0])), (a3, .inr (3, [.ref r0, .ref r1, .int 0, .int 0])), (r0, .inl (k0, 7, .inl fz3)), (r1, .inl (k1, 7, .inl fz4)), (a1, .inr (10, [.ref v0, .ref v1, .ref v2, .ref v3, .ref v4, .ref v5, .ref v6, .int 0, .int 0, .int 0, .int 0, .int 0, .int 0, .int 0, .int 0, .int 0])), (v2, .inl (k2, 7, .inl f2)), (v3, .inl (k3, 7, .inl f3)), (a2, .inr (0, [.ref b0, .ref b1, .ref b2, .int 0]))]) [0, 9, 1, 2, 3, 4, 5, 10, 6, 7, 8] rfl
  have hD9 := hD.sub (ws' := [(h0, .inr (11, [.ref a0, .ref a1, .ref a2, .ref a3, .ref a4, .ref a5, .ref a6, .ref a7, .ref a8, .ref a9, .ref a10, .ref a11, .ref a12, .ref a13, .ref a14])), (a5, .inr (8, [.ref a1, .ref a3, .ref s2, .ref s3])), (a7, .inr (4, [.ref o0, .ref o1, .int 0, .int 0, .int 0, .int 0])), (a8, .inr (4, [.ref u0, .ref u1, .int 0, .int 0, .int 0, .int 0])), (a3, .inr (3, [.ref r0, .ref r1, .int 0, .int 0])), (r0, .inl (k0, 7, .inl fz3)), (r1, .inl (k1, 7, .inl fz4)), (a1, .inr (10, [.ref v0, .ref v1, .ref v2, .ref v3, .ref v4, .ref v5, .ref v6, .int 0, .int 0, .int 0, .int 0, .int 0, .int 0, .int 0, .int 0, .int 0])), (v2, .inl (k2, 7, .inl f2)), (v3, .inl (k3, 7, .inl f3)), (a2, .inr (0, [.ref b0, .ref b1, .ref b2, .int 0]))]) [0, 9, 1, 2, 3, 4, 5, 10, 6, 7, 8] (by decide) rfl
  have hK9 := hK.sub (tys' := [(k0, .int), (k1, .int), (k2, .int), (k3, .int)]) [0, 1, 2, 3] rfl
  exact W.vret hx hb hr (fun t ht hW => ⟨⟨(), rfl, trivial, fz3, fz4, by rw [ht]; exact hP9, va_K.moved hW.alike hK9, hD9⟩, hS.F ht⟩) hS.2.2 dX11_renew_38
