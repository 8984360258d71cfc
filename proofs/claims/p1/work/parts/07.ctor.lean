def wk_f_X2_init : List Cond := .code yX2_init cX2_init 1 none :: ([.methodLink RX2 3 objectInit, .instanceMethod objectInit, .code objectInit ⟨#[0xb1]⟩ 1 none, .arrayClass .int, .fieldLink RX2 9 "SagMemory$Memory" "loads" "[I", .fieldLink RX2 15 "SagMemory$Memory" "carts" "[I"] ++ (wsX20 ++ []))
theorem wkg_f_X2_init : wk_f_X2_init.all goodWord = true := by decide +kernel
set_option maxHeartbeats 4000000 in
set_option maxRecDepth 100000 in
theorem f_X2_init (l : Launch) (dC : Nat → ClassId) (dI : Nat → Nat → Nat) (sz : Nat) (h0 : Nat) : Met l yX2_init wk_f_X2_init ({ frames := 1, cells := 2, slots := 16, locals := 24 }) (va_Pc [.ref h0] (fun U => U.heap.size = sz ∧ va_P (dC, dI) vwCl [(h0, .inr (2, [.null, .null, .int 0]))] U.heap ∧ va_K (dC, dI) vwCl [] U ∧ va_D (fun _ => True) [(h0, .inr (2, [.null, .null, .int 0]))])) (va_Qv (fun _ : Unit => True) (fun (_ : Unit) (t : State) => ∃ (b0 : Nat) (b1 : Nat), va_P (dC, dI) vwCl [(h0, .inr (2, [.ref b0, .ref b1, .int 0]))] t.heap ∧ va_K (dC, dI) vwCl [] t ∧ va_D (va_A [(h0, .inr (2, [.null, .null, .int 0]))] sz) [(h0, .inr (2, [.ref b0, .ref b1, .int 0]))]) (va_A [(h0, .inr (2, [.null, .null, .int 0]))] sz)) 2 16 (va_A [(h0, .inr (2, [.null, .null, .int 0]))] sz) := by
  refine Met.ofW (cc := cX2_init) (maxL := 1) (ret := none) (by decide) rfl ?_
  intro p e s m args below meth c s₁ B hml hv
  obtain ⟨rfl, hsz, hP, hK, hD0⟩ := hv
  have hx := B.exec
  have hb := B.bytes
  have hr := B.returns
  have hts := atoms_spec (ws := wk_f_X2_init) B.pre
  have hown : s.vm.findClass RX2 = some m.cls := findClass_of_methodNamed B.named
  have hlocks := B.notSynchronized
  have hin : meth.name = "<init>" := (name_of_methodNamed B.named B.method).1
  subst hsz
  have hD := hD0.self (sz := s.heap.size)
  generalize hAe : va_A [(h0, .inr (2, [.null, .null, .int 0]))] s.heap.size = A at hD ⊢
  have hA : ∀ q : Nat, s.heap.size ≤ q → A q := fun q h => by rw [← hAe]; exact Or.inr h
  have hS : va_S A s.heap s.heap [] := va_S.rf
  have hP : va_P (dC, dI) vwCl [(h0, .inr (2, [.null, .null, .int 0]))] s.heap := hP
  have hl := lv_entry ([.ref h0]) (n := 1) (Nat.le_of_ble_eq_true rfl)
  rw [lg_entry_eq]
  generalize (lg_sl ([.ref h0]) ++ List.replicate (1 - (lg_sl ([.ref h0])).length) Slot.unset).toArray = ls at hl ⊢
  have hl : lv_has ls 1 [(0, .ref h0)] := hl
  refine lv_aload_n hx hb dX2_init_0 rfl (lv_at hl 0 rfl) ?_
  refine W.objInit hx hb hown (hts (.methodLink RX2 3 objectInit) (wl_mem 0 rfl)) (hts (.instanceMethod objectInit) (wl_mem 1 rfl)) (hts (.code objectInit ⟨#[0xb1]⟩ 1 none) (wl_mem 2 rfl)) rfl (by rw [hml]; exact hl.1) rfl dX2_init_1 (Nat.le_of_ble_eq_true rfl) (Nat.le_of_ble_eq_true rfl) ?_
  refine W.eq (g2 := F0 m 4 ls []) rfl ?_
  refine lv_aload_n hx hb dX2_init_4 rfl (lv_at hl 0 rfl) ?_
  refine lv_bipush (v := 8) hx hb dX2_init_5 (by decide) ?_
  refine va_newa (atype := .int) (ty := .int) (a0 := (8, .inl (fun _ => 0))) (N' := 8) hx hb (hts (.arrayClass .int) (wl_mem 3 rfl)) rfl hK hP hD hS hA (fun _ => rfl) (by decide) (by decide) (by decide) (Nat.le_of_ble_eq_true rfl) (Nat.le_of_ble_eq_true rfl) dX2_init_7 (fun qz1 kz2 H hK hP hD hS => ?_)
  have hK : va_K (dC, dI) vwCl [(kz2, .int)] s := hK
  have hP : va_P (dC, dI) vwCl [(h0, .inr (2, [.null, .null, .int 0])), (qz1, .inl (kz2, 8, .inl (fun _ => 0)))] H := hP
  have hD : va_D A [(h0, .inr (2, [.null, .null, .int 0])), (qz1, .inl (kz2, 8, .inl (fun _ => 0)))] := hD
  refine W.widen (k := 1) (n := 8) (Nat.le_of_ble_eq_true rfl) (Nat.le_of_ble_eq_true rfl) ?_
  refine va_putF (D := (dC, dI)) (ci := 2) (v := .ref qz1) (ty := .array .int) (C := RX2) (T := TX2) (N := 3) hx hb hts (fun w h => List.mem_cons_of_mem _ (List.mem_append_right _ (List.mem_append_left _ h))) tyX2 tyX2_ok nmX2 hown hK hP hD hS 0 rfl rfl 0 (by decide) (hts (.fieldLink RX2 9 "SagMemory$Memory" "loads" "[I") (wl_mem 4 rfl)) (fun _ h9 => h9) rfl hin rfl (by decide +kernel) rfl rfl (Nat.le_of_ble_eq_true rfl) dX2_init_9 (fun H locs hP hD hS => ?_)
  have hP : va_P (dC, dI) vwCl [(h0, .inr (2, [.ref qz1, .null, .int 0])), (qz1, .inl (kz2, 8, .inl (fun _ => 0)))] H := hP
  have hD : va_D A [(h0, .inr (2, [.ref qz1, .null, .int 0])), (qz1, .inl (kz2, 8, .inl (fun _ => 0)))] := hD
  refine lv_aload_n hx hb dX2_init_12 rfl (lv_at hl 0 rfl) ?_
  refine lv_bipush (v := 8) hx hb dX2_init_13 (by decide) ?_
  refine va_newa (atype := .int) (ty := .int) (a0 := (8, .inl (fun _ => 0))) (N' := 8) hx hb (hts (.arrayClass .int) (wl_mem 3 rfl)) rfl hK hP hD hS hA (fun _ => rfl) (by decide) (by decide) (by decide) (Nat.le_of_ble_eq_true rfl) (Nat.le_of_ble_eq_true rfl) dX2_init_15 (fun qz3 kz4 H hK hP hD hS => ?_)
  have hK : va_K (dC, dI) vwCl [(kz2, .int), (kz4, .int)] s := hK
  have hP : va_P (dC, dI) vwCl [(h0, .inr (2, [.ref qz1, .null, .int 0])), (qz1, .inl (kz2, 8, .inl (fun _ => 0))), (qz3, .inl (kz4, 8, .inl (fun _ => 0)))] H := hP
  have hD : va_D A [(h0, .inr (2, [.ref qz1, .null, .int 0])), (qz1, .inl (kz2, 8, .inl (fun _ => 0))), (qz3, .inl (kz4, 8, .inl (fun _ => 0)))] := hD
  refine W.widen (k := 2) (n := 16) (Nat.le_of_ble_eq_true rfl) (Nat.le_of_ble_eq_true rfl) ?_
  refine va_putF (D := (dC, dI)) (ci := 2) (v := .ref qz3) (ty := .array .int) (C := RX2) (T := TX2) (N := 3) hx hb hts (fun w h => List.mem_cons_of_mem _ (List.mem_append_right _ (List.mem_append_left _ h))) tyX2 tyX2_ok nmX2 hown hK hP hD hS 0 rfl rfl 1 (by decide) (hts (.fieldLink RX2 15 "SagMemory$Memory" "carts" "[I") (wl_mem 5 rfl)) (fun _ h9 => h9) rfl hin rfl (by decide +kernel) rfl rfl (Nat.le_of_ble_eq_true rfl) dX2_init_17 (fun H locs hP hD hS => ?_)
  have hP : va_P (dC, dI) vwCl [(h0, .inr (2, [.ref qz1, .ref qz3, .int 0])), (qz1, .inl (kz2, 8, .inl (fun _ => 0))), (qz3, .inl (kz4, 8, .inl (fun _ => 0)))] H := hP
  have hD : va_D A [(h0, .inr (2, [.ref qz1, .ref qz3, .int 0])), (qz1, .inl (kz2, 8, .inl (fun _ => 0))), (qz3, .inl (kz4, 8, .inl (fun _ => 0)))] := hD
  refine W.widen (k := 2) (n := 16) (Nat.le_of_ble_eq_true rfl) (Nat.le_of_ble_eq_true rfl) ?_
  have hP9 := hP.sub (ws' := [(h0, .inr (2, [.ref qz1, .ref qz3, .int 0]))]) [0] rfl
  have hD9 := hD.sub (ws' := [(h0, .inr (2, [.ref qz1, .ref qz3, .int 0]))]) [0] (by decide) rfl
  have hK9 := hK.sub (tys' := []) [] rfl
  exact W.vret hx hb hr (fun t ht hW => ⟨⟨(), rfl, trivial, qz1, qz3, by rw [ht]; exact hP9, va_K.moved hW.alike hK9, hD9⟩, hS.F ht⟩) hS.2.2 dX2_init_20
def wk_f_X10_init : List Cond := .code yX10_init cX10_init 1 none :: ([.methodLink RX10 3 objectInit, .instanceMethod objectInit, .code objectInit ⟨#[0xb1]⟩ 1 none, .arrayClass .int, .fieldLink RX10 9 "SagMemory$Valley" "holds" "[I", .fieldLink RX10 15 "SagMemory$Valley" "tolls" "[I", .fieldLink RX10 18 "SagMemory$Valley" "loads" "[I", .fieldLink RX10 21 "SagMemory$Valley" "ways" "[I", .fieldLink RX10 24 "SagMemory$Valley" "wardBridges" "[I", .fieldLink RX10 27 "SagMemory$Valley" "wardOvers" "[I", .fieldLink RX10 30 "SagMemory$Valley" "wardTargets" "[I"] ++ (wsX100 ++ []))
theorem wkg_f_X10_init : wk_f_X10_init.all goodWord = true := by decide +kernel
set_option maxHeartbeats 4000000 in
set_option maxRecDepth 100000 in
theorem f_X10_init (l : Launch) (dC : Nat → ClassId) (dI : Nat → Nat → Nat) (sz : Nat) (h0 : Nat) : Met l yX10_init wk_f_X10_init ({ frames := 1, cells := 7, slots := 35, locals := 24 }) (va_Pc [.ref h0] (fun U => U.heap.size = sz ∧ va_P (dC, dI) vwCl [(h0, .inr (10, [.null, .null, .null, .null, .null, .null, .null, .int 0, .int 0, .int 0, .int 0, .int 0, .int 0, .int 0, .int 0, .int 0]))] U.heap ∧ va_K (dC, dI) vwCl [] U ∧ va_D (fun _ => True) [(h0, .inr (10, [.null, .null, .null, .null, .null, .null, .null, .int 0, .int 0, .int 0, .int 0, .int 0, .int 0, .int 0, .int 0, .int 0]))])) (va_Qv (fun _ : Unit => True) (fun (_ : Unit) (t : State) => ∃ (v0 : Nat) (v1 : Nat) (v2 : Nat) (v3 : Nat) (v4 : Nat) (v5 : Nat) (v6 : Nat) (k0 : ClassId) (k1 : ClassId) (k2 : ClassId) (k3 : ClassId) (k4 : ClassId) (k5 : ClassId) (k6 : ClassId), va_P (dC, dI) vwCl [(h0, .inr (10, [.ref v0, .ref v1, .ref v2, .ref v3, .ref v4, .ref v5, .ref v6, .int 0, .int 0, .int 0, .int 0, .int 0, .int 0, .int 0, .int 0, .int 0])), (v0, .inl (k0, 3, .inl (fun _ => 0))), (v1, .inl (k1, 3, .inl (fun _ => 0))), (v2, .inl (k2, 7, .inl (fun _ => 0))), (v3, .inl (k3, 7, .inl (fun _ => 0))), (v4, .inl (k4, 5, .inl (fun _ => 0))), (v5, .inl (k5, 5, .inl (fun _ => 0))), (v6, .inl (k6, 5, .inl (fun _ => 0)))] t.heap ∧ va_K (dC, dI) vwCl [(k0, .int), (k1, .int), (k2, .int), (k3, .int), (k4, .int), (k5, .int), (k6, .int)] t ∧ va_D (va_A [(h0, .inr (10, [.null, .null, .null, .null, .null, .null, .null, .int 0, .int 0, .int 0, .int 0, .int 0, .int 0, .int 0, .int 0, .int 0]))] sz) [(h0, .inr (10, [.ref v0, .ref v1, .ref v2, .ref v3, .ref v4, .ref v5, .ref v6, .int 0, .int 0, .int 0, .int 0, .int 0, .int 0, .int 0, .int 0, .int 0])), (v0, .inl (k0, 3, .inl (fun _ => 0))), (v1, .inl (k1, 3, .inl (fun _ => 0))), (v2, .inl (k2, 7, .inl (fun _ => 0))), (v3, .inl (k3, 7, .inl (fun _ => 0))), (v4, .inl (k4, 5, .inl (fun _ => 0))), (v5, .inl (k5, 5, .inl (fun _ => 0))), (v6, .inl (k6, 5, .inl (fun _ => 0)))]) (va_A [(h0, .inr (10, [.null, .null, .null, .null, .null, .null, .null, .int 0, .int 0, .int 0, .int 0, .int 0, .int 0, .int 0, .int 0, .int 0]))] sz)) 7 35 (va_A [(h0, .inr (10, [.null, .null, .null, .null, .null, .null, .null, .int 0, .int 0, .int 0, .int 0, .int 0, .int 0, .int 0, .int 0, .int 0]))] sz) := by
  refine Met.ofW (cc := cX10_init) (maxL := 1) (ret := none) (by decide) rfl ?_
  intro p e s m args below meth c s₁ B hml hv
  obtain ⟨rfl, hsz, hP, hK, hD0⟩ := hv
  have hx := B.exec
  have hb := B.bytes
  have hr := B.returns
  have hts := atoms_spec (ws := wk_f_X10_init) B.pre
  have hown : s.vm.findClass RX10 = some m.cls := findClass_of_methodNamed B.named
  have hlocks := B.notSynchronized
  have hin : meth.name = "<init>" := (name_of_methodNamed B.named B.method).1
  subst hsz
  have hD := hD0.self (sz := s.heap.size)
  generalize hAe : va_A [(h0, .inr (10, [.null, .null, .null, .null, .null, .null, .null, .int 0, .int 0, .int 0, .int 0, .int 0, .int 0, .int 0, .int 0, .int 0]))] s.heap.size = A at hD ⊢
  have hA : ∀ q : Nat, s.heap.size ≤ q → A q := fun q h => by rw [← hAe]; exact Or.inr h
  have hS : va_S A s.heap s.heap [] := va_S.rf
  have hP : va_P (dC, dI) vwCl [(h0, .inr (10, [.null, .null, .null, .null, .null, .null, .null, .int 0, .int 0, .int 0, .int 0, .int 0, .int 0, .int 0, .int 0, .int 0]))] s.heap := hP
  have hl := lv_entry ([.ref h0]) (n := 1) (Nat.le_of_ble_eq_true rfl)
  rw [lg_entry_eq]
  generalize (lg_sl ([.ref h0]) ++ List.replicate (1 - (lg_sl ([.ref h0])).length) Slot.unset).toArray = ls at hl ⊢
  have hl : lv_has ls 1 [(0, .ref h0)] := hl
  refine lv_aload_n hx hb dX10_init_0 rfl (lv_at hl 0 rfl) ?_
  refine W.objInit hx hb hown (hts (.methodLink RX10 3 objectInit) (wl_mem 0 rfl)) (hts (.instanceMethod objectInit) (wl_mem 1 rfl)) (hts (.code objectInit ⟨#[0xb1]⟩ 1 none) (wl_mem 2 rfl)) rfl (by rw [hml]; exact hl.1) rfl dX10_init_1 (Nat.le_of_ble_eq_true rfl) (Nat.le_of_ble_eq_true rfl) ?_
  refine W.eq (g2 := F0 m 4 ls []) rfl ?_
  refine lv_aload_n hx hb dX10_init_4 rfl (lv_at hl 0 rfl) ?_
  refine lv_iconst (v := 3) hx hb dX10_init_5 (by decide) ?_
  refine va_newa (atype := .int) (ty := .int) (a0 := (3, .inl (fun _ => 0))) (N' := 3) hx hb (hts (.arrayClass .int) (wl_mem 3 rfl)) rfl hK hP hD hS hA (fun _ => rfl) (by decide) (by decide) (by decide) (Nat.le_of_ble_eq_true rfl) (Nat.le_of_ble_eq_true rfl) dX10_init_6 (fun qz1 kz2 H hK hP hD hS => ?_)
  have hK : va_K (dC, dI) vwCl [(kz2, .int)] s := hK
  have hP : va_P (dC, dI) vwCl [(h0, .inr (10, [.null, .null, .null, .null, .null, .null, .null, .int 0, .int 0, .int 0, .int 0, .int 0, .int 0, .int 0, .int 0, .int 0])), (qz1, .inl (kz2, 3, .inl (fun _ => 0)))] H := hP
  have hD : va_D A [(h0, .inr (10, [.null, .null, .null, .null, .null, .null, .null, .int 0, .int 0, .int 0, .int 0, .int 0, .int 0, .int 0, .int 0, .int 0])), (qz1, .inl (kz2, 3, .inl (fun _ => 0)))] := hD
  refine W.widen (k := 1) (n := 3) (Nat.le_of_ble_eq_true rfl) (Nat.le_of_ble_eq_true rfl) ?_
  refine va_putF (D := (dC, dI)) (ci := 10) (v := .ref qz1) (ty := .array .int) (C := RX10) (T := TX10) (N := 16) hx hb hts (fun w h => List.mem_cons_of_mem _ (List.mem_append_right _ (List.mem_append_left _ h))) tyX10 tyX10_ok nmX10 hown hK hP hD hS 0 rfl rfl 0 (by decide) (hts (.fieldLink RX10 9 "SagMemory$Valley" "holds" "[I") (wl_mem 4 rfl)) (fun _ h9 => h9) rfl hin rfl (by decide +kernel) rfl rfl (Nat.le_of_ble_eq_true rfl) dX10_init_8 (fun H locs hP hD hS => ?_)
  have hP : va_P (dC, dI) vwCl [(h0, .inr (10, [.ref qz1, .null, .null, .null, .null, .null, .null, .int 0, .int 0, .int 0, .int 0, .int 0, .int 0, .int 0, .int 0, .int 0])), (qz1, .inl (kz2, 3, .inl (fun _ => 0)))] H := hP
  have hD : va_D A [(h0, .inr (10, [.ref qz1, .null, .null, .null, .null, .null, .null, .int 0, .int 0, .int 0, .int 0, .int 0, .int 0, .int 0, .int 0, .int 0])), (qz1, .inl (kz2, 3, .inl (fun _ => 0)))] := hD
  refine lv_aload_n hx hb dX10_init_11 rfl (lv_at hl 0 rfl) ?_
  refine lv_iconst (v := 3) hx hb dX10_init_12 (by decide) ?_
  refine va_newa (atype := .int) (ty := .int) (a0 := (3, .inl (fun _ => 0))) (N' := 3) hx hb (hts (.arrayClass .int) (wl_mem 3 rfl)) rfl hK hP hD hS hA (fun _ => rfl) (by decide) (by decide) (by decide) (Nat.le_of_ble_eq_true rfl) (Nat.le_of_ble_eq_true rfl) dX10_init_13 (fun qz3 kz4 H hK hP hD hS => ?_)
  have hK : va_K (dC, dI) vwCl [(kz2, .int), (kz4, .int)] s := hK
  have hP : va_P (dC, dI) vwCl [(h0, .inr (10, [.ref qz1, .null, .null, .null, .null, .null, .null, .int 0, .int 0, .int 0, .int 0, .int 0, .int 0, .int 0, .int 0, .int 0])), (qz1, .inl (kz2, 3, .inl (fun _ => 0))), (qz3, .inl (kz4, 3, .inl (fun _ => 0)))] H := hP
  have hD : va_D A [(h0, .inr (10, [.ref qz1, .null, .null, .null, .null, .null, .null, .int 0, .int 0, .int 0, .int 0, .int 0, .int 0, .int 0, .int 0, .int 0])), (qz1, .inl (kz2, 3, .inl (fun _ => 0))), (qz3, .inl (kz4, 3, .inl (fun _ => 0)))] := hD
  refine W.widen (k := 2) (n := 6) (Nat.le_of_ble_eq_true rfl) (Nat.le_of_ble_eq_true rfl) ?_
  refine va_putF (D := (dC, dI)) (ci := 10) (v := .ref qz3) (ty := .array .int) (C := RX10) (T := TX10) (N := 16) hx hb hts (fun w h => List.mem_cons_of_mem _ (List.mem_append_right _ (List.mem_append_left _ h))) tyX10 tyX10_ok nmX10 hown hK hP hD hS 0 rfl rfl 1 (by decide) (hts (.fieldLink RX10 15 "SagMemory$Valley" "tolls" "[I") (wl_mem 5 rfl)) (fun _ h9 => h9) rfl hin rfl (by decide +kernel) rfl rfl (Nat.le_of_ble_eq_true rfl) dX10_init_15 (fun H locs hP hD hS => ?_)
  have hP : va_P (dC, dI) vwCl [(h0, .inr (10, [.ref qz1, .ref qz3, .null, .null, .null, .null, .null, .int 0, .int 0, .int 0, .int 0, .int 0, .int 0, .int 0, .int 0, .int 0])), (qz1, .inl (kz2, 3, .inl (fun _ => 0))), (qz3, .inl (kz4, 3, .inl (fun _ => 0)))] H := hP
  have hD : va_D A [(h0, .inr (10, [.ref qz1, .ref qz3, .null, .null, .null, .null, .null, .int 0, .int 0, .int 0, .int 0, .int 0, .int 0, .int 0, .int 0, .int 0])), (qz1, .inl (kz2, 3, .inl (fun _ => 0))), (qz3, .inl (kz4, 3, .inl (fun _ => 0)))] := hD
  refine lv_aload_n hx hb dX10_init_18 rfl (lv_at hl 0 rfl) ?_
  refine lv_bipush (v := 7) hx hb dX10_init_19 (by decide) ?_
  refine va_newa (atype := .int) (ty := .int) (a0 := (7, .inl (fun _ => 0))) (N' := 7) hx hb (hts (.arrayClass .int) (wl_mem 3 rfl)) rfl hK hP hD hS hA (fun _ => rfl) (by decide) (by decide) (by decide) (Nat.le_of_ble_eq_true rfl) (Nat.le_of_ble_eq_true rfl) dX10_init_21 (fun qz5 kz6 H hK hP hD hS => ?_)
  have hK : va_K (dC, dI) vwCl [(kz2, .int), (kz4, .int), (kz6, .int)] s := hK
  have hP : va_P (dC, dI) vwCl [(h0, .inr (10, [.ref qz1, .ref qz3, .null, .null, .null, .null, .null, .int 0, .int 0, .int 0, .int 0, .int 0, .int 0, .int 0, .int 0, .int 0])), (qz1, .inl (kz2, 3, .inl (fun _ => 0))), (qz3, .inl (kz4, 3, .inl (fun _ => 0))), (qz5, .inl (kz6, 7, .inl (fun _ => 0)))] H := hP
  have hD : va_D A [(h0, .inr (10, [.ref qz1, .ref qz3, .null, .null, .null, .null, .null, .int 0, .int 0, .int 0, .int 0, .int 0, .int 0, .int 0, .int 0, .int 0])), (qz1, .inl (kz2, 3, .inl (fun _ => 0))), (qz3, .inl (kz4, 3, .inl (fun _ => 0))), (qz5, .inl (kz6, 7, .inl (fun _ => 0)))] := hD
  refine W.widen (k := 3) (n := 13) (Nat.le_of_ble_eq_true rfl) (Nat.le_of_ble_eq_true rfl) ?_
  refine va_putF (D := (dC, dI)) (ci := 10) (v := .ref qz5) (ty := .array .int) (C := RX10) (T := TX10) (N := 16) hx hb hts (fun w h => List.mem_cons_of_mem _ (List.mem_append_right _ (List.mem_append_left _ h))) tyX10 tyX10_ok nmX10 hown hK hP hD hS 0 rfl rfl 2 (by decide) (hts (.fieldLink RX10 18 "SagMemory$Valley" "loads" "[I") (wl_mem 6 rfl)) (fun _ h9 => h9) rfl hin rfl (by decide +kernel) rfl rfl (Nat.le_of_ble_eq_true rfl) dX10_init_23 (fun H locs hP hD hS => ?_)
  have hP : va_P (dC, dI) vwCl [(h0, .inr (10, [.ref qz1, .ref qz3, .ref qz5, .null, .null, .null, .null, .int 0, .int 0, .int 0, .int 0, .int 0, .int 0, .int 0, .int 0, .int 0])), (qz1, .inl (kz2, 3, .inl (fun _ => 0))), (qz3, .inl (kz4, 3, .inl (fun _ => 0))), (qz5, .inl (kz6, 7, .inl (fun _ => 0)))] H := hP
  have hD : va_D A [(h0, .inr (10, [.ref qz1, .ref qz3, .ref qz5, .null, .null, .null, .null, .int 0, .int 0, .int 0, .int 0, .int 0, .int 0, .int 0, .int 0, .int 0])), (qz1, .inl (kz2, 3, .inl (fun _ => 0))), (qz3, .inl (kz4, 3, .inl (fun _ => 0))), (qz5, .inl (kz6, 7, .inl (fun _ => 0)))] := hD
  refine lv_aload_n hx hb dX10_init_26 rfl (lv_at hl 0 rfl) ?_
  refine lv_bipush (v := 7) hx hb dX10_init_27 (by decide) ?_
  refine va_newa (atype := .int) (ty := .int) (a0 := (7, .inl (fun _ => 0))) (N' := 7) hx hb (hts (.arrayClass .int) (wl_mem 3 rfl)) rfl hK hP hD hS hA (fun _ => rfl) (by decide) (by decide) (by decide) (Nat.le_of_ble_eq_true rfl) (Nat.le_of_ble_eq_true rfl) dX10_init_29 (fun qz7 kz8 H hK hP hD hS => ?_)
  have hK : va_K (dC, dI) vwCl [(kz2, .int), (kz4, .int), (kz6, .int), (kz8, .int)] s := hK
  have hP : va_P (dC, dI) vwCl [(h0, .inr (10, [.ref qz1, .ref qz3, .ref qz5, .null, .null, .null, .null, .int 0, .int 0, .int 0, .int 0, .int 0, .int 0, .int 0, .int 0, .int 0])), (qz1, .inl (kz2, 3, .inl (fun _ => 0))), (qz3, .inl (kz4, 3, .inl (fun _ => 0))), (qz5, .inl (kz6, 7, .inl (fun _ => 0))), (qz7, .inl (kz8, 7, .inl (fun _ => 0)))] H := hP
  have hD : va_D A [(h0, .inr (10, [.ref qz1, .ref qz3, .ref qz5, .null, .null, .null, .null, .int 0, .int 0, .int 0, .int 0, .int 0, .int 0, .int 0, .int 0, .int 0])), (qz1, .inl (kz2, 3, .inl (fun _ => 0))), (qz3, .inl (kz4, 3, .inl (fun _ => 0))), (qz5, .inl (kz6, 7, .inl (fun _ => 0))), (qz7, .inl (kz8, 7, .inl (fun _ => 0)))] := hD
  refine W.widen (k := 4) (n := 20) (Nat.le_of_ble_eq_true rfl) (Nat.le_of_ble_eq_true rfl) ?_
  refine va_putF (D := (dC, dI)) (ci := 10) (v := .ref qz7) (ty := .array .int) (C := RX10) (T := TX10) (N := 16) hx hb hts (fun w h => List.mem_cons_of_mem _ (List.mem_append_right _ (List.mem_append_left _ h))) tyX10 tyX10_ok nmX10 hown hK hP hD hS 0 rfl rfl 3 (by decide) (hts (.fieldLink RX10 21 "SagMemory$Valley" "ways" "[I") (wl_mem 7 rfl)) (fun _ h9 => h9) rfl hin rfl (by decide +kernel) rfl rfl (Nat.le_of_ble_eq_true rfl) dX10_init_31 (fun H locs hP hD hS => ?_)
  have hP : va_P (dC, dI) vwCl [(h0, .inr (10, [.ref qz1, .ref qz3, .ref qz5, .ref qz7, .null, .null, .null, .int 0, .int 0, .int 0, .int 0, .int 0, .int 0, .int 0, .int 0, .int 0])), (qz1, .inl (kz2, 3, .inl (fun _ => 0))), (qz3, .inl (kz4, 3, .inl (fun _ => 0))), (qz5, .inl (kz6, 7, .inl (fun _ => 0))), (qz7, .inl (kz8, 7, .inl (fun _ => 0)))] H := hP
  have hD : va_D A [(h0, .inr (10, [.ref qz1, .ref qz3, .ref qz5, .ref qz7, .null, .null, .null, .int 0, .int 0, .int 0, .int 0, .int 0, .int 0, .int 0, .int 0, .int 0])), (qz1, .inl (kz2, 3, .inl (fun _ => 0))), (qz3, .inl (kz4, 3, .inl (fun _ => 0))), (qz5, .inl (kz6, 7, .inl (fun _ => 0))), (qz7, .inl (kz8, 7, .inl (fun _ => 0)))] := hD
  refine lv_aload_n hx hb dX10_init_34 rfl (lv_at hl 0 rfl) ?_
  refine lv_iconst (v := 5) hx hb dX10_init_35 (by decide) ?_
  refine va_newa (atype := .int) (ty := .int) (a0 := (5, .inl (fun _ => 0))) (N' := 5) hx hb (hts (.arrayClass .int) (wl_mem 3 rfl)) rfl hK hP hD hS hA (fun _ => rfl) (by decide) (by decide) (by decide) (Nat.le_of_ble_eq_true rfl) (Nat.le_of_ble_eq_true rfl) dX10_init_36 (fun qz9 kz10 H hK hP hD hS => ?_)
  have hK : va_K (dC, dI) vwCl [(kz2, .int), (kz4, .int), (kz6, .int), (kz8, .int), (kz10, .int)] s := hK
  have hP : va_P (dC, dI) vwCl [(h0, .inr (10, [.ref qz1, .ref qz3, .ref qz5, .ref qz7, .null, .null, .null, .int 0, .int 0, .int 0, .int 0, .int 0, .int 0, .int 0, .int 0, .int 0])), (qz1, .inl (kz2, 3, .inl (fun _ => 0))), (qz3, .inl (kz4, 3, .inl (fun _ => 0))), (qz5, .inl (kz6, 7, .inl (fun _ => 0))), (qz7, .inl (kz8, 7, .inl (fun _ => 0))), (qz9, .inl (kz10, 5, .inl (fun _ => 0)))] H := hP
  have hD : va_D A [(h0, .inr (10, [.ref qz1, .ref qz3, .ref qz5, .ref qz7, .null, .null, .null, .int 0, .int 0, .int 0, .int 0, .int 0, .int 0, .int 0, .int 0, .int 0])), (qz1, .inl (kz2, 3, .inl (fun _ => 0))), (qz3, .inl (kz4, 3, .inl (fun _ => 0))), (qz5, .inl (kz6, 7, .inl (fun _ => 0))), (qz7, .inl (kz8, 7, .inl (fun _ => 0))), (qz9, .inl (kz10, 5, .inl (fun _ => 0)))] := hD
  refine W.widen (k := 5) (n := 25) (Nat.le_of_ble_eq_true rfl) (Nat.le_of_ble_eq_true rfl) ?_
  refine va_putF (D := (dC, dI)) (ci := 10) (v := .ref qz9) (ty := .array .int) (C := RX10) (T := TX10) (N := 16) hx hb hts (fun w h => List.mem_cons_of_mem _ (List.mem_append_right _ (List.mem_append_left _ h))) tyX10 tyX10_ok nmX10 hown hK hP hD hS 0 rfl rfl 4 (by decide) (hts (.fieldLink RX10 24 "SagMemory$Valley" "wardBridges" "[I") (wl_mem 8 rfl)) (fun _ h9 => h9) rfl hin rfl (by decide +kernel) rfl rfl (Nat.le_of_ble_eq_true rfl) dX10_init_38 (fun H locs hP hD hS => ?_)
  have hP : va_P (dC, dI) vwCl [(h0, .inr (10, [.ref qz1, .ref qz3, .ref qz5, .ref qz7, .ref qz9, .null, .null, .int 0, .int 0, .int 0, .int 0, .int 0, .int 0, .int 0, .int 0, .int 0])), (qz1, .inl (kz2, 3, .inl (fun _ => 0))), (qz3, .inl (kz4, 3, .inl (fun _ => 0))), (qz5, .inl (kz6, 7, .inl (fun _ => 0))), (qz7, .inl (kz8, 7, .inl (fun _ => 0))), (qz9, .inl (kz10, 5, .inl (fun _ => 0)))] H := hP
  have hD : va_D A [(h0, .inr (10, [.ref qz1, .ref qz3, .ref qz5, .ref qz7, .ref qz9, .null, .null, .int 0, .int 0, .int 0, .int 0, .int 0, .int 0, .int 0, .int 0, .int 0])), (qz1, .inl (kz2, 3, .inl (fun _ => 0))), (qz3, .inl (kz4, 3, .inl (fun _ => 0))), (qz5, .inl (kz6, 7, .inl (fun _ => 0))), (qz7, .inl (kz8, 7, .inl (fun _ => 0))), (qz9, .inl (kz10, 5, .inl (fun _ => 0)))] := hD
  refine lv_aload_n hx hb dX10_init_41 rfl (lv_at hl 0 rfl) ?_
  refine lv_iconst (v := 5) hx hb dX10_init_42 (by decide) ?_
  refine va_newa (atype := .int) (ty := .int) (a0 := (5, .inl (fun _ => 0))) (N' := 5) hx hb (hts (.arrayClass .int) (wl_mem 3 rfl)) rfl hK hP hD hS hA (fun _ => rfl) (by decide) (by decide) (by decide) (Nat.le_of_ble_eq_true rfl) (Nat.le_of_ble_eq_true rfl) dX10_init_43 (fun qz11 kz12 H hK hP hD hS => ?_)
  have hK : va_K (dC, dI) vwCl [(kz2, .int), (kz4, .int), (kz6, .int), (kz8, .int), (kz10, .int), (kz12, .int)] s := hK
  have hP : va_P (dC, dI) vwCl [(h0, .inr (10, [.ref qz1, .ref qz3, .ref qz5, .ref qz7, .ref qz9, .null, .null, .int 0, .int 0, .int 0, .int 0, .int 0, .int 0, .int 0, .int 0, .int 0])), (qz1, .inl (kz2, 3, .inl (fun _ => 0))), (qz3, .inl (kz4, 3, .inl (fun _ => 0))), (qz5, .inl (kz6, 7, .inl (fun _ => 0))), (qz7, .inl (kz8, 7, .inl (fun _ => 0))), (qz9, .inl (kz10, 5, .inl (fun _ => 0))), (qz11, .inl (kz12, 5, .inl (fun _ => 0)))] H := hP
  have hD : va_D A [(h0, .inr (10, [.ref qz1, .ref qz3, .ref qz5, .ref qz7, .ref qz9, .null, .null, .int 0, .int 0, .int 0, .int 0, .int 0, .int 0, .int 0, .int 0, .int 0])), (qz1, .inl (kz2, 3, .inl (fun _ => 0))), (qz3, .inl (kz4, 3, .inl (fun _ => 0))), (qz5, .inl (kz6, 7, .inl (fun _ => 0))), (qz7, .inl (kz8, 7, .inl (fun _ => 0))), (qz9, .inl (kz10, 5, .inl (fun _ => 0))), (qz11, .inl (kz12, 5, .inl (fun _ => 0)))] := hD
  refine W.widen (k := 6) (n := 30) (Nat.le_of_ble_eq_true rfl) (Nat.le_of_ble_eq_true rfl) ?_
  refine va_putF (D := (dC, dI)) (ci := 10) (v := .ref qz11) (ty := .array .int) (C := RX10) (T := TX10) (N := 16) hx hb hts (fun w h => List.mem_cons_of_mem _ (List.mem_append_right _ (List.mem_append_left _ h))) tyX10 tyX10_ok nmX10 hown hK hP hD hS 0 rfl rfl 5 (by decide) (hts (.fieldLink RX10 27 "SagMemory$Valley" "wardOvers" "[I") (wl_mem 9 rfl)) (fun _ h9 => h9) rfl hin rfl (by decide +kernel) rfl rfl (Nat.le_of_ble_eq_true rfl) dX10_init_45 (fun H locs hP hD hS => ?_)
  have hP : va_P (dC, dI) vwCl [(h0, .inr (10, [.ref qz1, .ref qz3, .ref qz5, .ref qz7, .ref qz9, .ref qz11, .null, .int 0, .int 0, .int 0, .int 0, .int 0, .int 0, .int 0, .int 0, .int 0])), (qz1, .inl (kz2, 3, .inl (fun _ => 0))), (qz3, .inl (kz4, 3, .inl (fun _ => 0))), (qz5, .inl (kz6, 7, .inl (fun _ => 0))), (qz7, .inl (kz8, 7, .inl (fun _ => 0))), (qz9, .inl (kz10, 5, .inl (fun _ => 0))), (qz11, .inl (kz12, 5, .inl (fun _ => 0)))] H := hP
  have hD : va_D A [(h0, .inr (10, [.ref qz1, .ref qz3, .ref qz5, .ref qz7, .ref qz9, .ref qz11, .null, .int 0, .int 0, .int 0, .int 0, .int 0, .int 0, .int 0, .int 0, .int 0])), (qz1, .inl (kz2, 3, .inl (fun _ => 0))), (qz3, .inl (kz4, 3, .inl (fun _ => 0))), (qz5, .inl (kz6, 7, .inl (fun _ => 0))), (qz7, .inl (kz8, 7, .inl (fun _ => 0))), (qz9, .inl (kz10, 5, .inl (fun _ => 0))), (qz11, .inl (kz12, 5, .inl (fun _ => 0)))] := hD
  refine lv_aload_n hx hb dX10_init_48 rfl (lv_at hl 0 rfl) ?_
  refine lv_iconst (v := 5) hx hb dX10_init_49 (by decide) ?_
  refine va_newa (atype := .int) (ty := .int) (a0 := (5, .inl (fun _ => 0))) (N' := 5) hx hb (hts (.arrayClass .int) (wl_mem 3 rfl)) rfl hK hP hD hS hA (fun _ => rfl) (by decide) (by decide) (by decide) (Nat.le_of_ble_eq_true rfl) (Nat.le_of_ble_eq_true rfl) dX10_init_50 (fun qz13 kz14 H hK hP hD hS => ?_)
  have hK : va_K (dC, dI) vwCl [(kz2, .int), (kz4, .int), (kz6, .int), (kz8, .int), (kz10, .int), (kz12, .int), (kz14, .int)] s := hK
  have hP : va_P (dC, dI) vwCl [(h0, .inr (10, [.ref qz1, .ref qz3, .ref qz5, .ref qz7, .ref qz9, .ref qz11, .null, .int 0, .int 0, .int 0, .int 0, .int 0, .int 0, .int 0, .int 0, .int 0])), (qz1, .inl (kz2, 3, .inl (fun _ => 0))), (qz3, .inl (kz4, 3, .inl (fun _ => 0))), (qz5, .inl (kz6, 7, .inl (fun _ => 0))), (qz7, .inl (kz8, 7, .inl (fun _ => 0))), (qz9, .inl (kz10, 5, .inl (fun _ => 0))), (qz11, .inl (kz12, 5, .inl (fun _ => 0))), (qz13, .inl (kz14, 5, .inl (fun _ => 0)))] H := hP
  have hD : va_D A [(h0, .inr (10, [.ref qz1, .ref qz3, .ref qz5, .ref qz7, .ref qz9, .ref qz11, .null, .int 0, .int 0, .int 0, .int 0, .int 0, .int 0, .int 0, .int 0, .int 0])), (qz1, .inl (kz2, 3, .inl (fun _ => 0))), (qz3, .inl (kz4, 3, .inl (fun _ => 0))), (qz5, .inl (kz6, 7, .inl (fun _ => 0))), (qz7, .inl (kz8, 7, .inl (fun _ => 0))), (qz9, .inl (kz10, 5, .inl (fun _ => 0))), (qz11, .inl (kz12, 5, .inl (fun _ => 0))), (qz13, .inl (kz14, 5, .inl (fun _ => 0)))] := hD
  refine W.widen (k := 7) (n := 35) (Nat.le_of_ble_eq_true rfl) (Nat.le_of_ble_eq_true rfl) ?_
  refine va_putF (D := (dC, dI)) (ci := 10) (v := .ref qz13) (ty := .array .int) (C := RX10) (T := TX10) (N := 16) hx hb hts (fun w h => List.mem_cons_of_mem _ (List.mem_append_right _ (List.mem_append_left _ h))) tyX10 tyX10_ok nmX10 hown hK hP hD hS 0 rfl rfl 6 (by decide) (hts (.fieldLink RX10 30 "SagMemory$Valley" "wardTargets" "[I") (wl_mem 10 rfl)) (fun _ h9 => h9) rfl hin rfl (by decide +kernel) rfl rfl (Nat.le_of_ble_eq_true rfl) dX10_init_52 (fun H locs hP hD hS => ?_)
  have hP : va_P (dC, dI) vwCl [(h0, .inr (10, [.ref qz1, .ref qz3, .ref qz5, .ref qz7, .ref qz9, .ref qz11, .ref qz13, .int 0, .int 0, .int 0, .int 0, .int 0, .int 0, .int 0, .int 0, .int 0])), (qz1, .inl (kz2, 3, .inl (fun _ => 0))), (qz3, .inl (kz4, 3, .inl (fun _ => 0))), (qz5, .inl (kz6, 7, .inl (fun _ => 0))), (qz7, .inl (kz8, 7, .inl (fun _ => 0))), (qz9, .inl (kz10, 5, .inl (fun _ => 0))), (qz11, .inl (kz12, 5, .inl (fun _ => 0))), (qz13, .inl (kz14, 5, .inl (fun _ => 0)))] H := hP
  have hD : va_D A [(h0, .inr (10, [.ref qz1, .ref qz3, .ref qz5, .ref qz7, .ref qz9, .ref qz11, .ref qz13, .int 0, .int 0, .int 0, .int 0, .int 0, .int 0, .int 0, .int 0, .int 0])), (qz1, .inl (kz2, 3, .inl (fun _ => 0))), (qz3, .inl (kz4, 3, .inl (fun _ => 0))), (qz5, .inl (kz6, 7, .inl (fun _ => 0))), (qz7, .inl (kz8, 7, .inl (fun _ => 0))), (qz9, .inl (kz10, 5, .inl (fun _ => 0))), (qz11, .inl (kz12, 5, .inl (fun _ => 0))), (qz13, .inl (kz14, 5, .inl (fun _ => 0)))] := hD
  refine W.widen (k := 7) (n := 35) (Nat.le_of_ble_eq_true rfl) (Nat.le_of_ble_eq_true rfl) ?_
  have hP9 := hP.sub (ws' := [(h0, .inr (10, [.ref qz1, .ref qz3, .ref qz5, .ref qz7, .ref qz9, .ref qz11, .ref qz13, .int 0, .int 0, .int 0, .int 0, .int 0, .int 0, .int 0, .int 0, .int 0])), (qz1, .inl (kz2, 3, .inl (fun _ => 0))), (qz3, .inl (kz4, 3, .inl (fun _ => 0))), (qz5, .inl (kz6, 7, .inl (fun _ => 0))), (qz7, .inl (kz8, 7, .inl (fun _ => 0))), (qz9, .inl (kz10, 5, .inl (fun _ => 0))), (qz11, .inl (kz12, 5, .inl (fun _ => 0))), (qz13, .inl (kz14, 5, .inl (fun _ => 0)))]) [0, 1, 2, 3, 4, 5, 6, 7] rfl
  have hD9 := hD.sub (ws' := [(h0, .inr (10, [.ref qz1, .ref qz3, .ref qz5, .ref qz7, .ref qz9, .ref qz11, .ref qz13, .int 0, .int 0, .int 0, .int 0, .int 0, .int 0, .int 0, .int 0, .int 0])), (qz1, .inl (kz2, 3, .inl (fun _ => 0))), (qz3, .inl (kz4, 3, .inl (fun _ => 0))), (qz5, .inl (kz6, 7, .inl (fun _ => 0))), (qz7, .inl (kz8, 7, .inl (fun _ => 0))), (qz9, .inl (kz10, 5, .inl (fun _ => 0))), (qz11, .inl (kz12, 5, .inl (fun _ => 0))), (qz13, .inl (kz14, 5, .inl (fun _ => 0)))]) [0, 1, 2, 3, 4, 5, 6, 7] (by decide) rfl
  have hK9 := hK.sub (tys' := [(kz2, .int), (kz4, .int), (kz6, .int), (kz8, .int), (kz10, .int), (kz12, .int), (kz14, .int)]) [0, 1, 2, 3, 4, 5, 6] rfl
  exact W.vret hx hb hr (fun t ht hW => ⟨⟨(), rfl, trivial, qz1, qz3, qz5, qz7, qz9, qz11, qz13, kz2, kz4, kz6, kz8, kz10, kz12, kz14, by rw [ht]; exact hP9, va_K.moved hW.alike hK9, hD9⟩, hS.F ht⟩) hS.2.2 dX10_init_55
def wk_f_X0_init : List Cond := .code yX0_init cX0_init 1 none :: ([.methodLink RX0 3 objectInit, .instanceMethod objectInit, .code objectInit ⟨#[0xb1]⟩ 1 none, .arrayClass .int, .fieldLink RX0 9 "SagMemory$Acts" "kinds" "[I", .fieldLink RX0 15 "SagMemory$Acts" "carts" "[I", .fieldLink RX0 18 "SagMemory$Acts" "values" "[I"] ++ (wsX00 ++ []))
theorem wkg_f_X0_init : wk_f_X0_init.all goodWord = true := by decide +kernel
set_option maxHeartbeats 4000000 in
set_option maxRecDepth 100000 in
theorem f_X0_init (l : Launch) (dC : Nat → ClassId) (dI : Nat → Nat → Nat) (sz : Nat) (h0 : Nat) : Met l yX0_init wk_f_X0_init ({ frames := 1, cells := 3, slots := 90, locals := 24 }) (va_Pc [.ref h0] (fun U => U.heap.size = sz ∧ va_P (dC, dI) vwCl [(h0, .inr (0, [.null, .null, .null, .int 0]))] U.heap ∧ va_K (dC, dI) vwCl [] U ∧ va_D (fun _ => True) [(h0, .inr (0, [.null, .null, .null, .int 0]))])) (va_Qv (fun _ : Unit => True) (fun (_ : Unit) (t : State) => ∃ (b0 : Nat) (b1 : Nat) (b2 : Nat) (k0 : ClassId) (k1 : ClassId) (k2 : ClassId), va_P (dC, dI) vwCl [(h0, .inr (0, [.ref b0, .ref b1, .ref b2, .int 0])), (b0, .inl (k0, 30, .inl (fun _ => 0))), (b1, .inl (k1, 30, .inl (fun _ => 0))), (b2, .inl (k2, 30, .inl (fun _ => 0)))] t.heap ∧ va_K (dC, dI) vwCl [(k0, .int), (k1, .int), (k2, .int)] t ∧ va_D (va_A [(h0, .inr (0, [.null, .null, .null, .int 0]))] sz) [(h0, .inr (0, [.ref b0, .ref b1, .ref b2, .int 0])), (b0, .inl (k0, 30, .inl (fun _ => 0))), (b1, .inl (k1, 30, .inl (fun _ => 0))), (b2, .inl (k2, 30, .inl (fun _ => 0)))]) (va_A [(h0, .inr (0, [.null, .null, .null, .int 0]))] sz)) 3 90 (va_A [(h0, .inr (0, [.null, .null, .null, .int 0]))] sz) := by
  refine Met.ofW (cc := cX0_init) (maxL := 1) (ret := none) (by decide) rfl ?_
  intro p e s m args below meth c s₁ B hml hv
  obtain ⟨rfl, hsz, hP, hK, hD0⟩ := hv
  have hx := B.exec
  have hb := B.bytes
  have hr := B.returns
  have hts := atoms_spec (ws := wk_f_X0_init) B.pre
  have hown : s.vm.findClass RX0 = some m.cls := findClass_of_methodNamed B.named
  have hlocks := B.notSynchronized
  have hin : meth.name = "<init>" := (name_of_methodNamed B.named B.method).1
  subst hsz
  have hD := hD0.self (sz := s.heap.size)
  generalize hAe : va_A [(h0, .inr (0, [.null, .null, .null, .int 0]))] s.heap.size = A at hD ⊢
  have hA : ∀ q : Nat, s.heap.size ≤ q → A q := fun q h => by rw [← hAe]; exact Or.inr h
  have hS : va_S A s.heap s.heap [] := va_S.rf
  have hP : va_P (dC, dI) vwCl [(h0, .inr (0, [.null, .null, .null, .int 0]))] s.heap := hP
  have hl := lv_entry ([.ref h0]) (n := 1) (Nat.le_of_ble_eq_true rfl)
  rw [lg_entry_eq]
  generalize (lg_sl ([.ref h0]) ++ List.replicate (1 - (lg_sl ([.ref h0])).length) Slot.unset).toArray = ls at hl ⊢
  have hl : lv_has ls 1 [(0, .ref h0)] := hl
  refine lv_aload_n hx hb dX0_init_0 rfl (lv_at hl 0 rfl) ?_
  refine W.objInit hx hb hown (hts (.methodLink RX0 3 objectInit) (wl_mem 0 rfl)) (hts (.instanceMethod objectInit) (wl_mem 1 rfl)) (hts (.code objectInit ⟨#[0xb1]⟩ 1 none) (wl_mem 2 rfl)) rfl (by rw [hml]; exact hl.1) rfl dX0_init_1 (Nat.le_of_ble_eq_true rfl) (Nat.le_of_ble_eq_true rfl) ?_
  refine W.eq (g2 := F0 m 4 ls []) rfl ?_
  refine lv_aload_n hx hb dX0_init_4 rfl (lv_at hl 0 rfl) ?_
  refine lv_bipush (v := 30) hx hb dX0_init_5 (by decide) ?_
  refine va_newa (atype := .int) (ty := .int) (a0 := (30, .inl (fun _ => 0))) (N' := 30) hx hb (hts (.arrayClass .int) (wl_mem 3 rfl)) rfl hK hP hD hS hA (fun _ => rfl) (by decide) (by decide) (by decide) (Nat.le_of_ble_eq_true rfl) (Nat.le_of_ble_eq_true rfl) dX0_init_7 (fun qz1 kz2 H hK hP hD hS => ?_)
  have hK : va_K (dC, dI) vwCl [(kz2, .int)] s := hK
  have hP : va_P (dC, dI) vwCl [(h0, .inr (0, [.null, .null, .null, .int 0])), (qz1, .inl (kz2, 30, .inl (fun _ => 0)))] H := hP
  have hD : va_D A [(h0, .inr (0, [.null, .null, .null, .int 0])), (qz1, .inl (kz2, 30, .inl (fun _ => 0)))] := hD
  refine W.widen (k := 1) (n := 30) (Nat.le_of_ble_eq_true rfl) (Nat.le_of_ble_eq_true rfl) ?_
  refine va_putF (D := (dC, dI)) (ci := 0) (v := .ref qz1) (ty := .array .int) (C := RX0) (T := TX0) (N := 4) hx hb hts (fun w h => List.mem_cons_of_mem _ (List.mem_append_right _ (List.mem_append_left _ h))) tyX0 tyX0_ok nmX0 hown hK hP hD hS 0 rfl rfl 0 (by decide) (hts (.fieldLink RX0 9 "SagMemory$Acts" "kinds" "[I") (wl_mem 4 rfl)) (fun _ h9 => h9) rfl hin rfl (by decide +kernel) rfl rfl (Nat.le_of_ble_eq_true rfl) dX0_init_9 (fun H locs hP hD hS => ?_)
  have hP : va_P (dC, dI) vwCl [(h0, .inr (0, [.ref qz1, .null, .null, .int 0])), (qz1, .inl (kz2, 30, .inl (fun _ => 0)))] H := hP
  have hD : va_D A [(h0, .inr (0, [.ref qz1, .null, .null, .int 0])), (qz1, .inl (kz2, 30, .inl (fun _ => 0)))] := hD
  refine lv_aload_n hx hb dX0_init_12 rfl (lv_at hl 0 rfl) ?_
  refine lv_bipush (v := 30) hx hb dX0_init_13 (by decide) ?_
  refine va_newa (atype := .int) (ty := .int) (a0 := (30, .inl (fun _ => 0))) (N' := 30) hx hb (hts (.arrayClass .int) (wl_mem 3 rfl)) rfl hK hP hD hS hA (fun _ => rfl) (by decide) (by decide) (by decide) (Nat.le_of_ble_eq_true rfl) (Nat.le_of_ble_eq_true rfl) dX0_init_15 (fun qz3 kz4 H hK hP hD hS => ?_)
  have hK : va_K (dC, dI) vwCl [(kz2, .int), (kz4, .int)] s := hK
  have hP : va_P (dC, dI) vwCl [(h0, .inr (0, [.ref qz1, .null, .null, .int 0])), (qz1, .inl (kz2, 30, .inl (fun _ => 0))), (qz3, .inl (kz4, 30, .inl (fun _ => 0)))] H := hP
  have hD : va_D A [(h0, .inr (0, [.ref qz1, .null, .null, .int 0])), (qz1, .inl (kz2, 30, .inl (fun _ => 0))), (qz3, .inl (kz4, 30, .inl (fun _ => 0)))] := hD
  refine W.widen (k := 2) (n := 60) (Nat.le_of_ble_eq_true rfl) (Nat.le_of_ble_eq_true rfl) ?_
  refine va_putF (D := (dC, dI)) (ci := 0) (v := .ref qz3) (ty := .array .int) (C := RX0) (T := TX0) (N := 4) hx hb hts (fun w h => List.mem_cons_of_mem _ (List.mem_append_right _ (List.mem_append_left _ h))) tyX0 tyX0_ok nmX0 hown hK hP hD hS 0 rfl rfl 1 (by decide) (hts (.fieldLink RX0 15 "SagMemory$Acts" "carts" "[I") (wl_mem 5 rfl)) (fun _ h9 => h9) rfl hin rfl (by decide +kernel) rfl rfl (Nat.le_of_ble_eq_true rfl) dX0_init_17 (fun H locs hP hD hS => ?_)
  have hP : va_P (dC, dI) vwCl [(h0, .inr (0, [.ref qz1, .ref qz3, .null, .int 0])), (qz1, .inl (kz2, 30, .inl (fun _ => 0))), (qz3, .inl (kz4, 30, .inl (fun _ => 0)))] H := hP
  have hD : va_D A [(h0, .inr (0, [.ref qz1, .ref qz3, .null, .int 0])), (qz1, .inl (kz2, 30, .inl (fun _ => 0))), (qz3, .inl (kz4, 30, .inl (fun _ => 0)))] := hD
  refine lv_aload_n hx hb dX0_init_20 rfl (lv_at hl 0 rfl) ?_
  refine lv_bipush (v := 30) hx hb dX0_init_21 (by decide) ?_
  refine va_newa (atype := .int) (ty := .int) (a0 := (30, .inl (fun _ => 0))) (N' := 30) hx hb (hts (.arrayClass .int) (wl_mem 3 rfl)) rfl hK hP hD hS hA (fun _ => rfl) (by decide) (by decide) (by decide) (Nat.le_of_ble_eq_true rfl) (Nat.le_of_ble_eq_true rfl) dX0_init_23 (fun qz5 kz6 H hK hP hD hS => ?_)
  have hK : va_K (dC, dI) vwCl [(kz2, .int), (kz4, .int), (kz6, .int)] s := hK
  have hP : va_P (dC, dI) vwCl [(h0, .inr (0, [.ref qz1, .ref qz3, .null, .int 0])), (qz1, .inl (kz2, 30, .inl (fun _ => 0))), (qz3, .inl (kz4, 30, .inl (fun _ => 0))), (qz5, .inl (kz6, 30, .inl (fun _ => 0)))] H := hP
  have hD : va_D A [(h0, .inr (0, [.ref qz1, .ref qz3, .null, .int 0])), (qz1, .inl (kz2, 30, .inl (fun _ => 0))), (qz3, .inl (kz4, 30, .inl (fun _ => 0))), (qz5, .inl (kz6, 30, .inl (fun _ => 0)))] := hD
  refine W.widen (k := 3) (n := 90) (Nat.le_of_ble_eq_true rfl) (Nat.le_of_ble_eq_true rfl) ?_
  refine va_putF (D := (dC, dI)) (ci := 0) (v := .ref qz5) (ty := .array .int) (C := RX0) (T := TX0) (N := 4) hx hb hts (fun w h => List.mem_cons_of_mem _ (List.mem_append_right _ (List.mem_append_left _ h))) tyX0 tyX0_ok nmX0 hown hK hP hD hS 0 rfl rfl 2 (by decide) (hts (.fieldLink RX0 18 "SagMemory$Acts" "values" "[I") (wl_mem 6 rfl)) (fun _ h9 => h9) rfl hin rfl (by decide +kernel) rfl rfl (Nat.le_of_ble_eq_true rfl) dX0_init_25 (fun H locs hP hD hS => ?_)
  have hP : va_P (dC, dI) vwCl [(h0, .inr (0, [.ref qz1, .ref qz3, .ref qz5, .int 0])), (qz1, .inl (kz2, 30, .inl (fun _ => 0))), (qz3, .inl (kz4, 30, .inl (fun _ => 0))), (qz5, .inl (kz6, 30, .inl (fun _ => 0)))] H := hP
  have hD : va_D A [(h0, .inr (0, [.ref qz1, .ref qz3, .ref qz5, .int 0])), (qz1, .inl (kz2, 30, .inl (fun _ => 0))), (qz3, .inl (kz4, 30, .inl (fun _ => 0))), (qz5, .inl (kz6, 30, .inl (fun _ => 0)))] := hD
  refine W.widen (k := 3) (n := 90) (Nat.le_of_ble_eq_true rfl) (Nat.le_of_ble_eq_true rfl) ?_
  have hP9 := hP.sub (ws' := [(h0, .inr (0, [.ref qz1, .ref qz3, .ref qz5, .int 0])), (qz1, .inl (kz2, 30, .inl (fun _ => 0))), (qz3, .inl (kz4, 30, .inl (fun _ => 0))), (qz5, .inl (kz6, 30, .inl (fun _ => 0)))]) [0, 1, 2, 3] rfl
  have hD9 := hD.sub (ws' := [(h0, .inr (0, [.ref qz1, .ref qz3, .ref qz5, .int 0])), (qz1, .inl (kz2, 30, .inl (fun _ => 0))), (qz3, .inl (kz4, 30, .inl (fun _ => 0))), (qz5, .inl (kz6, 30, .inl (fun _ => 0)))]) [0, 1, 2, 3] (by decide) rfl
  have hK9 := hK.sub (tys' := [(kz2, .int), (kz4, .int), (kz6, .int)]) [0, 1, 2] rfl
  exact W.vret hx hb hr (fun t ht hW => ⟨⟨(), rfl, trivial, qz1, qz3, qz5, kz2, kz4, kz6, by rw [ht]; exact hP9, va_K.moved hW.alike hK9, hD9⟩, hS.F ht⟩) hS.2.2 dX0_init_28
def wk_f_X3_init : List Cond := .code yX3_init cX3_init 1 none :: ([.methodLink RX3 3 objectInit, .instanceMethod objectInit, .code objectInit ⟨#[0xb1]⟩ 1 none, .arrayClass .int, .fieldLink RX3 9 "SagMemory$Plan" "loads" "[I", .fieldLink RX3 15 "SagMemory$Plan" "ways" "[I"] ++ (wsX30 ++ []))
theorem wkg_f_X3_init : wk_f_X3_init.all goodWord = true := by decide +kernel
set_option maxHeartbeats 4000000 in
set_option maxRecDepth 100000 in
theorem f_X3_init (l : Launch) (dC : Nat → ClassId) (dI : Nat → Nat → Nat) (sz : Nat) (h0 : Nat) : Met l yX3_init wk_f_X3_init ({ frames := 1, cells := 2, slots := 14, locals := 24 }) (va_Pc [.ref h0] (fun U => U.heap.size = sz ∧ va_P (dC, dI) vwCl [(h0, .inr (3, [.null, .null, .int 0, .int 0]))] U.heap ∧ va_K (dC, dI) vwCl [] U ∧ va_D (fun _ => True) [(h0, .inr (3, [.null, .null, .int 0, .int 0]))])) (va_Qv (fun _ : Unit => True) (fun (_ : Unit) (t : State) => ∃ (b0 : Nat) (b1 : Nat) (k0 : ClassId) (k1 : ClassId), va_P (dC, dI) vwCl [(h0, .inr (3, [.ref b0, .ref b1, .int 0, .int 0])), (b0, .inl (k0, 7, .inl (fun _ => 0))), (b1, .inl (k1, 7, .inl (fun _ => 0)))] t.heap ∧ va_K (dC, dI) vwCl [(k0, .int), (k1, .int)] t ∧ va_D (va_A [(h0, .inr (3, [.null, .null, .int 0, .int 0]))] sz) [(h0, .inr (3, [.ref b0, .ref b1, .int 0, .int 0])), (b0, .inl (k0, 7, .inl (fun _ => 0))), (b1, .inl (k1, 7, .inl (fun _ => 0)))]) (va_A [(h0, .inr (3, [.null, .null, .int 0, .int 0]))] sz)) 2 14 (va_A [(h0, .inr (3, [.null, .null, .int 0, .int 0]))] sz) := by
  refine Met.ofW (cc := cX3_init) (maxL := 1) (ret := none) (by decide) rfl ?_
  intro p e s m args below meth c s₁ B hml hv
  obtain ⟨rfl, hsz, hP, hK, hD0⟩ := hv
  have hx := B.exec
  have hb := B.bytes
  have hr := B.returns
  have hts := atoms_spec (ws := wk_f_X3_init) B.pre
  have hown : s.vm.findClass RX3 = some m.cls := findClass_of_methodNamed B.named
  have hlocks := B.notSynchronized
  have hin : meth.name = "<init>" := (name_of_methodNamed B.named B.method).1
  subst hsz
  have hD := hD0.self (sz := s.heap.size)
  generalize hAe : va_A [(h0, .inr (3, [.null, .null, .int 0, .int 0]))] s.heap.size = A at hD ⊢
  have hA : ∀ q : Nat, s.heap.size ≤ q → A q := fun q h => by rw [← hAe]; exact Or.inr h
  have hS : va_S A s.heap s.heap [] := va_S.rf
  have hP : va_P (dC, dI) vwCl [(h0, .inr (3, [.null, .null, .int 0, .int 0]))] s.heap := hP
  have hl := lv_entry ([.ref h0]) (n := 1) (Nat.le_of_ble_eq_true rfl)
  rw [lg_entry_eq]
  generalize (lg_sl ([.ref h0]) ++ List.replicate (1 - (lg_sl ([.ref h0])).length) Slot.unset).toArray = ls at hl ⊢
  have hl : lv_has ls 1 [(0, .ref h0)] := hl
  refine lv_aload_n hx hb dX3_init_0 rfl (lv_at hl 0 rfl) ?_
  refine W.objInit hx hb hown (hts (.methodLink RX3 3 objectInit) (wl_mem 0 rfl)) (hts (.instanceMethod objectInit) (wl_mem 1 rfl)) (hts (.code objectInit ⟨#[0xb1]⟩ 1 none) (wl_mem 2 rfl)) rfl (by rw [hml]; exact hl.1) rfl dX3_init_1 (Nat.le_of_ble_eq_true rfl) (Nat.le_of_ble_eq_true rfl) ?_
  refine W.eq (g2 := F0 m 4 ls []) rfl ?_
  refine lv_aload_n hx hb dX3_init_4 rfl (lv_at hl 0 rfl) ?_
  refine lv_bipush (v := 7) hx hb dX3_init_5 (by decide) ?_
  refine va_newa (atype := .int) (ty := .int) (a0 := (7, .inl (fun _ => 0))) (N' := 7) hx hb (hts (.arrayClass .int) (wl_mem 3 rfl)) rfl hK hP hD hS hA (fun _ => rfl) (by decide) (by decide) (by decide) (Nat.le_of_ble_eq_true rfl) (Nat.le_of_ble_eq_true rfl) dX3_init_7 (fun qz1 kz2 H hK hP hD hS => ?_)
  have hK : va_K (dC, dI) vwCl [(kz2, .int)] s := hK
  have hP : va_P (dC, dI) vwCl [(h0, .inr (3, [.null, .null, .int 0, .int 0])), (qz1, .inl (kz2, 7, .inl (fun _ => 0)))] H := hP
  have hD : va_D A [(h0, .inr (3, [.null, .null, .int 0, .int 0])), (qz1, .inl (kz2, 7, .inl (fun _ => 0)))] := hD
  refine W.widen (k := 1) (n := 7) (Nat.le_of_ble_eq_true rfl) (Nat.le_of_ble_eq_true rfl) ?_
  refine va_putF (D := (dC, dI)) (ci := 3) (v := .ref qz1) (ty := .array .int) (C := RX3) (T := TX3) (N := 4) hx hb hts (fun w h => List.mem_cons_of_mem _ (List.mem_append_right _ (List.mem_append_left _ h))) tyX3 tyX3_ok nmX3 hown hK hP hD hS 0 rfl rfl 0 (by decide) (hts (.fieldLink RX3 9 "SagMemory$Plan" "loads" "[I") (wl_mem 4 rfl)) (fun _ h9 => h9) rfl hin rfl (by decide +kernel) rfl rfl (Nat.le_of_ble_eq_true rfl) dX3_init_9 (fun H locs hP hD hS => ?_)
  have hP : va_P (dC, dI) vwCl [(h0, .inr (3, [.ref qz1, .null, .int 0, .int 0])), (qz1, .inl (kz2, 7, .inl (fun _ => 0)))] H := hP
  have hD : va_D A [(h0, .inr (3, [.ref qz1, .null, .int 0, .int 0])), (qz1, .inl (kz2, 7, .inl (fun _ => 0)))] := hD
  refine lv_aload_n hx hb dX3_init_12 rfl (lv_at hl 0 rfl) ?_
  refine lv_bipush (v := 7) hx hb dX3_init_13 (by decide) ?_
  refine va_newa (atype := .int) (ty := .int) (a0 := (7, .inl (fun _ => 0))) (N' := 7) hx hb (hts (.arrayClass .int) (wl_mem 3 rfl)) rfl hK hP hD hS hA (fun _ => rfl) (by decide) (by decide) (by decide) (Nat.le_of_ble_eq_true rfl) (Nat.le_of_ble_eq_true rfl) dX3_init_15 (fun qz3 kz4 H hK hP hD hS => ?_)
  have hK : va_K (dC, dI) vwCl [(kz2, .int), (kz4, .int)] s := hK
  have hP : va_P (dC, dI) vwCl [(h0, .inr (3, [.ref qz1, .null, .int 0, .int 0])), (qz1, .inl (kz2, 7, .inl (fun _ => 0))), (qz3, .inl (kz4, 7, .inl (fun _ => 0)))] H := hP
  have hD : va_D A [(h0, .inr (3, [.ref qz1, .null, .int 0, .int 0])), (qz1, .inl (kz2, 7, .inl (fun _ => 0))), (qz3, .inl (kz4, 7, .inl (fun _ => 0)))] := hD
  refine W.widen (k := 2) (n := 14) (Nat.le_of_ble_eq_true rfl) (Nat.le_of_ble_eq_true rfl) ?_
  refine va_putF (D := (dC, dI)) (ci := 3) (v := .ref qz3) (ty := .array .int) (C := RX3) (T := TX3) (N := 4) hx hb hts (fun w h => List.mem_cons_of_mem _ (List.mem_append_right _ (List.mem_append_left _ h))) tyX3 tyX3_ok nmX3 hown hK hP hD hS 0 rfl rfl 1 (by decide) (hts (.fieldLink RX3 15 "SagMemory$Plan" "ways" "[I") (wl_mem 5 rfl)) (fun _ h9 => h9) rfl hin rfl (by decide +kernel) rfl rfl (Nat.le_of_ble_eq_true rfl) dX3_init_17 (fun H locs hP hD hS => ?_)
  have hP : va_P (dC, dI) vwCl [(h0, .inr (3, [.ref qz1, .ref qz3, .int 0, .int 0])), (qz1, .inl (kz2, 7, .inl (fun _ => 0))), (qz3, .inl (kz4, 7, .inl (fun _ => 0)))] H := hP
  have hD : va_D A [(h0, .inr (3, [.ref qz1, .ref qz3, .int 0, .int 0])), (qz1, .inl (kz2, 7, .inl (fun _ => 0))), (qz3, .inl (kz4, 7, .inl (fun _ => 0)))] := hD
  refine W.widen (k := 2) (n := 14) (Nat.le_of_ble_eq_true rfl) (Nat.le_of_ble_eq_true rfl) ?_
  have hP9 := hP.sub (ws' := [(h0, .inr (3, [.ref qz1, .ref qz3, .int 0, .int 0])), (qz1, .inl (kz2, 7, .inl (fun _ => 0))), (qz3, .inl (kz4, 7, .inl (fun _ => 0)))]) [0, 1, 2] rfl
  have hD9 := hD.sub (ws' := [(h0, .inr (3, [.ref qz1, .ref qz3, .int 0, .int 0])), (qz1, .inl (kz2, 7, .inl (fun _ => 0))), (qz3, .inl (kz4, 7, .inl (fun _ => 0)))]) [0, 1, 2] (by decide) rfl
  have hK9 := hK.sub (tys' := [(kz2, .int), (kz4, .int)]) [0, 1] rfl
  exact W.vret hx hb hr (fun t ht hW => ⟨⟨(), rfl, trivial, qz1, qz3, kz2, kz4, by rw [ht]; exact hP9, va_K.moved hW.alike hK9, hD9⟩, hS.F ht⟩) hS.2.2 dX3_init_20
def wk_f_X4_init : List Cond := .code yX4_init cX4_init 1 none :: ([.methodLink RX4 3 objectInit, .instanceMethod objectInit, .code objectInit ⟨#[0xb1]⟩ 1 none, .arrayClass .int, .fieldLink RX4 9 "SagMemory$Search" "tried" "[I", .fieldLink RX4 15 "SagMemory$Search" "first" "[I"] ++ (wsX40 ++ []))
theorem wkg_f_X4_init : wk_f_X4_init.all goodWord = true := by decide +kernel
set_option maxHeartbeats 4000000 in
set_option maxRecDepth 100000 in
theorem f_X4_init (l : Launch) (dC : Nat → ClassId) (dI : Nat → Nat → Nat) (sz : Nat) (h0 : Nat) : Met l yX4_init wk_f_X4_init ({ frames := 1, cells := 2, slots := 14, locals := 24 }) (va_Pc [.ref h0] (fun U => U.heap.size = sz ∧ va_P (dC, dI) vwCl [(h0, .inr (4, [.null, .null, .int 0, .int 0, .int 0, .int 0]))] U.heap ∧ va_K (dC, dI) vwCl [] U ∧ va_D (fun _ => True) [(h0, .inr (4, [.null, .null, .int 0, .int 0, .int 0, .int 0]))])) (va_Qv (fun _ : Unit => True) (fun (_ : Unit) (t : State) => ∃ (b0 : Nat) (b1 : Nat), va_P (dC, dI) vwCl [(h0, .inr (4, [.ref b0, .ref b1, .int 0, .int 0, .int 0, .int 0]))] t.heap ∧ va_K (dC, dI) vwCl [] t ∧ va_D (va_A [(h0, .inr (4, [.null, .null, .int 0, .int 0, .int 0, .int 0]))] sz) [(h0, .inr (4, [.ref b0, .ref b1, .int 0, .int 0, .int 0, .int 0]))]) (va_A [(h0, .inr (4, [.null, .null, .int 0, .int 0, .int 0, .int 0]))] sz)) 2 14 (va_A [(h0, .inr (4, [.null, .null, .int 0, .int 0, .int 0, .int 0]))] sz) := by
  refine Met.ofW (cc := cX4_init) (maxL := 1) (ret := none) (by decide) rfl ?_
  intro p e s m args below meth c s₁ B hml hv
  obtain ⟨rfl, hsz, hP, hK, hD0⟩ := hv
  have hx := B.exec
  have hb := B.bytes
  have hr := B.returns
  have hts := atoms_spec (ws := wk_f_X4_init) B.pre
  have hown : s.vm.findClass RX4 = some m.cls := findClass_of_methodNamed B.named
  have hlocks := B.notSynchronized
  have hin : meth.name = "<init>" := (name_of_methodNamed B.named B.method).1
  subst hsz
  have hD := hD0.self (sz := s.heap.size)
  generalize hAe : va_A [(h0, .inr (4, [.null, .null, .int 0, .int 0, .int 0, .int 0]))] s.heap.size = A at hD ⊢
  have hA : ∀ q : Nat, s.heap.size ≤ q → A q := fun q h => by rw [← hAe]; exact Or.inr h
  have hS : va_S A s.heap s.heap [] := va_S.rf
  have hP : va_P (dC, dI) vwCl [(h0, .inr (4, [.null, .null, .int 0, .int 0, .int 0, .int 0]))] s.heap := hP
  have hl := lv_entry ([.ref h0]) (n := 1) (Nat.le_of_ble_eq_true rfl)
  rw [lg_entry_eq]
  generalize (lg_sl ([.ref h0]) ++ List.replicate (1 - (lg_sl ([.ref h0])).length) Slot.unset).toArray = ls at hl ⊢
  have hl : lv_has ls 1 [(0, .ref h0)] := hl
  refine lv_aload_n hx hb dX4_init_0 rfl (lv_at hl 0 rfl) ?_
  refine W.objInit hx hb hown (hts (.methodLink RX4 3 objectInit) (wl_mem 0 rfl)) (hts (.instanceMethod objectInit) (wl_mem 1 rfl)) (hts (.code objectInit ⟨#[0xb1]⟩ 1 none) (wl_mem 2 rfl)) rfl (by rw [hml]; exact hl.1) rfl dX4_init_1 (Nat.le_of_ble_eq_true rfl) (Nat.le_of_ble_eq_true rfl) ?_
  refine W.eq (g2 := F0 m 4 ls []) rfl ?_
  refine lv_aload_n hx hb dX4_init_4 rfl (lv_at hl 0 rfl) ?_
  refine lv_bipush (v := 7) hx hb dX4_init_5 (by decide) ?_
  refine va_newa (atype := .int) (ty := .int) (a0 := (7, .inl (fun _ => 0))) (N' := 7) hx hb (hts (.arrayClass .int) (wl_mem 3 rfl)) rfl hK hP hD hS hA (fun _ => rfl) (by decide) (by decide) (by decide) (Nat.le_of_ble_eq_true rfl) (Nat.le_of_ble_eq_true rfl) dX4_init_7 (fun qz1 kz2 H hK hP hD hS => ?_)
  have hK : va_K (dC, dI) vwCl [(kz2, .int)] s := hK
  have hP : va_P (dC, dI) vwCl [(h0, .inr (4, [.null, .null, .int 0, .int 0, .int 0, .int 0])), (qz1, .inl (kz2, 7, .inl (fun _ => 0)))] H := hP
  have hD : va_D A [(h0, .inr (4, [.null, .null, .int 0, .int 0, .int 0, .int 0])), (qz1, .inl (kz2, 7, .inl (fun _ => 0)))] := hD
  refine W.widen (k := 1) (n := 7) (Nat.le_of_ble_eq_true rfl) (Nat.le_of_ble_eq_true rfl) ?_
  refine va_putF (D := (dC, dI)) (ci := 4) (v := .ref qz1) (ty := .array .int) (C := RX4) (T := TX4) (N := 6) hx hb hts (fun w h => List.mem_cons_of_mem _ (List.mem_append_right _ (List.mem_append_left _ h))) tyX4 tyX4_ok nmX4 hown hK hP hD hS 0 rfl rfl 0 (by decide) (hts (.fieldLink RX4 9 "SagMemory$Search" "tried" "[I") (wl_mem 4 rfl)) (fun _ h9 => h9) rfl hin rfl (by decide +kernel) rfl rfl (Nat.le_of_ble_eq_true rfl) dX4_init_9 (fun H locs hP hD hS => ?_)
  have hP : va_P (dC, dI) vwCl [(h0, .inr (4, [.ref qz1, .null, .int 0, .int 0, .int 0, .int 0])), (qz1, .inl (kz2, 7, .inl (fun _ => 0)))] H := hP
  have hD : va_D A [(h0, .inr (4, [.ref qz1, .null, .int 0, .int 0, .int 0, .int 0])), (qz1, .inl (kz2, 7, .inl (fun _ => 0)))] := hD
  refine lv_aload_n hx hb dX4_init_12 rfl (lv_at hl 0 rfl) ?_
  refine lv_bipush (v := 7) hx hb dX4_init_13 (by decide) ?_
  refine va_newa (atype := .int) (ty := .int) (a0 := (7, .inl (fun _ => 0))) (N' := 7) hx hb (hts (.arrayClass .int) (wl_mem 3 rfl)) rfl hK hP hD hS hA (fun _ => rfl) (by decide) (by decide) (by decide) (Nat.le_of_ble_eq_true rfl) (Nat.le_of_ble_eq_true rfl) dX4_init_15 (fun qz3 kz4 H hK hP hD hS => ?_)
  have hK : va_K (dC, dI) vwCl [(kz2, .int), (kz4, .int)] s := hK
  have hP : va_P (dC, dI) vwCl [(h0, .inr (4, [.ref qz1, .null, .int 0, .int 0, .int 0, .int 0])), (qz1, .inl (kz2, 7, .inl (fun _ => 0))), (qz3, .inl (kz4, 7, .inl (fun _ => 0)))] H := hP
  have hD : va_D A [(h0, .inr (4, [.ref qz1, .null, .int 0, .int 0, .int 0, .int 0])), (qz1, .inl (kz2, 7, .inl (fun _ => 0))), (qz3, .inl (kz4, 7, .inl (fun _ => 0)))] := hD
  refine W.widen (k := 2) (n := 14) (Nat.le_of_ble_eq_true rfl) (Nat.le_of_ble_eq_true rfl) ?_
  refine va_putF (D := (dC, dI)) (ci := 4) (v := .ref qz3) (ty := .array .int) (C := RX4) (T := TX4) (N := 6) hx hb hts (fun w h => List.mem_cons_of_mem _ (List.mem_append_right _ (List.mem_append_left _ h))) tyX4 tyX4_ok nmX4 hown hK hP hD hS 0 rfl rfl 1 (by decide) (hts (.fieldLink RX4 15 "SagMemory$Search" "first" "[I") (wl_mem 5 rfl)) (fun _ h9 => h9) rfl hin rfl (by decide +kernel) rfl rfl (Nat.le_of_ble_eq_true rfl) dX4_init_17 (fun H locs hP hD hS => ?_)
  have hP : va_P (dC, dI) vwCl [(h0, .inr (4, [.ref qz1, .ref qz3, .int 0, .int 0, .int 0, .int 0])), (qz1, .inl (kz2, 7, .inl (fun _ => 0))), (qz3, .inl (kz4, 7, .inl (fun _ => 0)))] H := hP
  have hD : va_D A [(h0, .inr (4, [.ref qz1, .ref qz3, .int 0, .int 0, .int 0, .int 0])), (qz1, .inl (kz2, 7, .inl (fun _ => 0))), (qz3, .inl (kz4, 7, .inl (fun _ => 0)))] := hD
  refine W.widen (k := 2) (n := 14) (Nat.le_of_ble_eq_true rfl) (Nat.le_of_ble_eq_true rfl) ?_
  have hP9 := hP.sub (ws' := [(h0, .inr (4, [.ref qz1, .ref qz3, .int 0, .int 0, .int 0, .int 0]))]) [0] rfl
  have hD9 := hD.sub (ws' := [(h0, .inr (4, [.ref qz1, .ref qz3, .int 0, .int 0, .int 0, .int 0]))]) [0] (by decide) rfl
  have hK9 := hK.sub (tys' := []) [] rfl
  exact W.vret hx hb hr (fun t ht hW => ⟨⟨(), rfl, trivial, qz1, qz3, by rw [ht]; exact hP9, va_K.moved hW.alike hK9, hD9⟩, hS.F ht⟩) hS.2.2 dX4_init_20
def wk_f_X5_init : List Cond := .code yX5_init cX5_init 1 none :: ([.methodLink RX5 3 objectInit, .instanceMethod objectInit, .code objectInit ⟨#[0xb1]⟩ 1 none, .arrayClass .int, .fieldLink RX5 9 "SagMemory$Sets" "with" "[I"] ++ (wsX50 ++ []))
theorem wkg_f_X5_init : wk_f_X5_init.all goodWord = true := by decide +kernel
set_option maxHeartbeats 4000000 in
set_option maxRecDepth 100000 in
theorem f_X5_init (l : Launch) (dC : Nat → ClassId) (dI : Nat → Nat → Nat) (sz : Nat) (h0 : Nat) : Met l yX5_init wk_f_X5_init ({ frames := 1, cells := 1, slots := 7, locals := 24 }) (va_Pc [.ref h0] (fun U => U.heap.size = sz ∧ va_P (dC, dI) vwCl [(h0, .inr (5, [.null, .int 0, .int 0, .int 0, .int 0, .int 0]))] U.heap ∧ va_K (dC, dI) vwCl [] U ∧ va_D (fun _ => True) [(h0, .inr (5, [.null, .int 0, .int 0, .int 0, .int 0, .int 0]))])) (va_Qv (fun _ : Unit => True) (fun (_ : Unit) (t : State) => ∃ (b0 : Nat), va_P (dC, dI) vwCl [(h0, .inr (5, [.ref b0, .int 0, .int 0, .int 0, .int 0, .int 0]))] t.heap ∧ va_K (dC, dI) vwCl [] t ∧ va_D (va_A [(h0, .inr (5, [.null, .int 0, .int 0, .int 0, .int 0, .int 0]))] sz) [(h0, .inr (5, [.ref b0, .int 0, .int 0, .int 0, .int 0, .int 0]))]) (va_A [(h0, .inr (5, [.null, .int 0, .int 0, .int 0, .int 0, .int 0]))] sz)) 1 7 (va_A [(h0, .inr (5, [.null, .int 0, .int 0, .int 0, .int 0, .int 0]))] sz) := by
  refine Met.ofW (cc := cX5_init) (maxL := 1) (ret := none) (by decide) rfl ?_
  intro p e s m args below meth c s₁ B hml hv
  obtain ⟨rfl, hsz, hP, hK, hD0⟩ := hv
  have hx := B.exec
  have hb := B.bytes
  have hr := B.returns
  have hts := atoms_spec (ws := wk_f_X5_init) B.pre
  have hown : s.vm.findClass RX5 = some m.cls := findClass_of_methodNamed B.named
  have hlocks := B.notSynchronized
  have hin : meth.name = "<init>" := (name_of_methodNamed B.named B.method).1
  subst hsz
  have hD := hD0.self (sz := s.heap.size)
  generalize hAe : va_A [(h0, .inr (5, [.null, .int 0, .int 0, .int 0, .int 0, .int 0]))] s.heap.size = A at hD ⊢
  have hA : ∀ q : Nat, s.heap.size ≤ q → A q := fun q h => by rw [← hAe]; exact Or.inr h
  have hS : va_S A s.heap s.heap [] := va_S.rf
  have hP : va_P (dC, dI) vwCl [(h0, .inr (5, [.null, .int 0, .int 0, .int 0, .int 0, .int 0]))] s.heap := hP
  have hl := lv_entry ([.ref h0]) (n := 1) (Nat.le_of_ble_eq_true rfl)
  rw [lg_entry_eq]
  generalize (lg_sl ([.ref h0]) ++ List.replicate (1 - (lg_sl ([.ref h0])).length) Slot.unset).toArray = ls at hl ⊢
  have hl : lv_has ls 1 [(0, .ref h0)] := hl
  refine lv_aload_n hx hb dX5_init_0 rfl (lv_at hl 0 rfl) ?_
  refine W.objInit hx hb hown (hts (.methodLink RX5 3 objectInit) (wl_mem 0 rfl)) (hts (.instanceMethod objectInit) (wl_mem 1 rfl)) (hts (.code objectInit ⟨#[0xb1]⟩ 1 none) (wl_mem 2 rfl)) rfl (by rw [hml]; exact hl.1) rfl dX5_init_1 (Nat.le_of_ble_eq_true rfl) (Nat.le_of_ble_eq_true rfl) ?_
  refine W.eq (g2 := F0 m 4 ls []) rfl ?_
  refine lv_aload_n hx hb dX5_init_4 rfl (lv_at hl 0 rfl) ?_
  refine lv_bipush (v := 7) hx hb dX5_init_5 (by decide) ?_
  refine va_newa (atype := .int) (ty := .int) (a0 := (7, .inl (fun _ => 0))) (N' := 7) hx hb (hts (.arrayClass .int) (wl_mem 3 rfl)) rfl hK hP hD hS hA (fun _ => rfl) (by decide) (by decide) (by decide) (Nat.le_of_ble_eq_true rfl) (Nat.le_of_ble_eq_true rfl) dX5_init_7 (fun qz1 kz2 H hK hP hD hS => ?_)
  have hK : va_K (dC, dI) vwCl [(kz2, .int)] s := hK
  have hP : va_P (dC, dI) vwCl [(h0, .inr (5, [.null, .int 0, .int 0, .int 0, .int 0, .int 0])), (qz1, .inl (kz2, 7, .inl (fun _ => 0)))] H := hP
  have hD : va_D A [(h0, .inr (5, [.null, .int 0, .int 0, .int 0, .int 0, .int 0])), (qz1, .inl (kz2, 7, .inl (fun _ => 0)))] := hD
  refine W.widen (k := 1) (n := 7) (Nat.le_of_ble_eq_true rfl) (Nat.le_of_ble_eq_true rfl) ?_
  refine va_putF (D := (dC, dI)) (ci := 5) (v := .ref qz1) (ty := .array .int) (C := RX5) (T := TX5) (N := 6) hx hb hts (fun w h => List.mem_cons_of_mem _ (List.mem_append_right _ (List.mem_append_left _ h))) tyX5 tyX5_ok nmX5 hown hK hP hD hS 0 rfl rfl 0 (by decide) (hts (.fieldLink RX5 9 "SagMemory$Sets" "with" "[I") (wl_mem 4 rfl)) (fun _ h9 => h9) rfl hin rfl (by decide +kernel) rfl rfl (Nat.le_of_ble_eq_true rfl) dX5_init_9 (fun H locs hP hD hS => ?_)
  have hP : va_P (dC, dI) vwCl [(h0, .inr (5, [.ref qz1, .int 0, .int 0, .int 0, .int 0, .int 0])), (qz1, .inl (kz2, 7, .inl (fun _ => 0)))] H := hP
  have hD : va_D A [(h0, .inr (5, [.ref qz1, .int 0, .int 0, .int 0, .int 0, .int 0])), (qz1, .inl (kz2, 7, .inl (fun _ => 0)))] := hD
  refine W.widen (k := 1) (n := 7) (Nat.le_of_ble_eq_true rfl) (Nat.le_of_ble_eq_true rfl) ?_
  have hP9 := hP.sub (ws' := [(h0, .inr (5, [.ref qz1, .int 0, .int 0, .int 0, .int 0, .int 0]))]) [0] rfl
  have hD9 := hD.sub (ws' := [(h0, .inr (5, [.ref qz1, .int 0, .int 0, .int 0, .int 0, .int 0]))]) [0] (by decide) rfl
  have hK9 := hK.sub (tys' := []) [] rfl
  exact W.vret hx hb hr (fun t ht hW => ⟨⟨(), rfl, trivial, qz1, by rw [ht]; exact hP9, va_K.moved hW.alike hK9, hD9⟩, hS.F ht⟩) hS.2.2 dX5_init_12
def wk_f_X6_init : List Cond := .code yX6_init cX6_init 1 none :: ([.methodLink RX6 3 objectInit, .instanceMethod objectInit, .code objectInit ⟨#[0xb1]⟩ 1 none, .arrayClass .long, .fieldLink RX6 9 "SagMemory$Slot" "numbers" "[J"] ++ (wsX60 ++ []))
theorem wkg_f_X6_init : wk_f_X6_init.all goodWord = true := by decide +kernel
set_option maxHeartbeats 4000000 in
set_option maxRecDepth 100000 in
theorem f_X6_init (l : Launch) (dC : Nat → ClassId) (dI : Nat → Nat → Nat) (sz : Nat) (h0 : Nat) : Met l yX6_init wk_f_X6_init ({ frames := 1, cells := 1, slots := 60, locals := 24 }) (va_Pc [.ref h0] (fun U => U.heap.size = sz ∧ va_P (dC, dI) vwCl [(h0, .inr (6, [.null, .int 0, .int 0, .int 0]))] U.heap ∧ va_K (dC, dI) vwCl [] U ∧ va_D (fun _ => True) [(h0, .inr (6, [.null, .int 0, .int 0, .int 0]))])) (va_Qv (fun _ : Unit => True) (fun (_ : Unit) (t : State) => ∃ (b0 : Nat) (k0 : ClassId), va_P (dC, dI) vwCl [(h0, .inr (6, [.ref b0, .int 0, .int 0, .int 0])), (b0, .inl (k0, 60, .inr (.inl (fun _ => 0))))] t.heap ∧ va_K (dC, dI) vwCl [(k0, .long)] t ∧ va_D (va_A [(h0, .inr (6, [.null, .int 0, .int 0, .int 0]))] sz) [(h0, .inr (6, [.ref b0, .int 0, .int 0, .int 0])), (b0, .inl (k0, 60, .inr (.inl (fun _ => 0))))]) (va_A [(h0, .inr (6, [.null, .int 0, .int 0, .int 0]))] sz)) 1 60 (va_A [(h0, .inr (6, [.null, .int 0, .int 0, .int 0]))] sz) := by
  refine Met.ofW (cc := cX6_init) (maxL := 1) (ret := none) (by decide) rfl ?_
  intro p e s m args below meth c s₁ B hml hv
  obtain ⟨rfl, hsz, hP, hK, hD0⟩ := hv
  have hx := B.exec
  have hb := B.bytes
  have hr := B.returns
  have hts := atoms_spec (ws := wk_f_X6_init) B.pre
  have hown : s.vm.findClass RX6 = some m.cls := findClass_of_methodNamed B.named
  have hlocks := B.notSynchronized
  have hin : meth.name = "<init>" := (name_of_methodNamed B.named B.method).1
  subst hsz
  have hD := hD0.self (sz := s.heap.size)
  generalize hAe : va_A [(h0, .inr (6, [.null, .int 0, .int 0, .int 0]))] s.heap.size = A at hD ⊢
  have hA : ∀ q : Nat, s.heap.size ≤ q → A q := fun q h => by rw [← hAe]; exact Or.inr h
  have hS : va_S A s.heap s.heap [] := va_S.rf
  have hP : va_P (dC, dI) vwCl [(h0, .inr (6, [.null, .int 0, .int 0, .int 0]))] s.heap := hP
  have hl := lv_entry ([.ref h0]) (n := 1) (Nat.le_of_ble_eq_true rfl)
  rw [lg_entry_eq]
  generalize (lg_sl ([.ref h0]) ++ List.replicate (1 - (lg_sl ([.ref h0])).length) Slot.unset).toArray = ls at hl ⊢
  have hl : lv_has ls 1 [(0, .ref h0)] := hl
  refine lv_aload_n hx hb dX6_init_0 rfl (lv_at hl 0 rfl) ?_
  refine W.objInit hx hb hown (hts (.methodLink RX6 3 objectInit) (wl_mem 0 rfl)) (hts (.instanceMethod objectInit) (wl_mem 1 rfl)) (hts (.code objectInit ⟨#[0xb1]⟩ 1 none) (wl_mem 2 rfl)) rfl (by rw [hml]; exact hl.1) rfl dX6_init_1 (Nat.le_of_ble_eq_true rfl) (Nat.le_of_ble_eq_true rfl) ?_
  refine W.eq (g2 := F0 m 4 ls []) rfl ?_
  refine lv_aload_n hx hb dX6_init_4 rfl (lv_at hl 0 rfl) ?_
  refine lv_bipush (v := 60) hx hb dX6_init_5 (by decide) ?_
  refine va_newa (atype := .long) (ty := .long) (a0 := (60, .inr (.inl (fun _ => 0)))) (N' := 60) hx hb (hts (.arrayClass .long) (wl_mem 3 rfl)) rfl hK hP hD hS hA (fun _ => rfl) (by decide) (by decide) (by decide) (Nat.le_of_ble_eq_true rfl) (Nat.le_of_ble_eq_true rfl) dX6_init_7 (fun qz1 kz2 H hK hP hD hS => ?_)
  have hK : va_K (dC, dI) vwCl [(kz2, .long)] s := hK
  have hP : va_P (dC, dI) vwCl [(h0, .inr (6, [.null, .int 0, .int 0, .int 0])), (qz1, .inl (kz2, 60, .inr (.inl (fun _ => 0))))] H := hP
  have hD : va_D A [(h0, .inr (6, [.null, .int 0, .int 0, .int 0])), (qz1, .inl (kz2, 60, .inr (.inl (fun _ => 0))))] := hD
  refine W.widen (k := 1) (n := 60) (Nat.le_of_ble_eq_true rfl) (Nat.le_of_ble_eq_true rfl) ?_
  refine va_putF (D := (dC, dI)) (ci := 6) (v := .ref qz1) (ty := .array .long) (C := RX6) (T := TX6) (N := 4) hx hb hts (fun w h => List.mem_cons_of_mem _ (List.mem_append_right _ (List.mem_append_left _ h))) tyX6 tyX6_ok nmX6 hown hK hP hD hS 0 rfl rfl 0 (by decide) (hts (.fieldLink RX6 9 "SagMemory$Slot" "numbers" "[J") (wl_mem 4 rfl)) (fun _ h9 => h9) rfl hin rfl (by decide +kernel) rfl rfl (Nat.le_of_ble_eq_true rfl) dX6_init_9 (fun H locs hP hD hS => ?_)
  have hP : va_P (dC, dI) vwCl [(h0, .inr (6, [.ref qz1, .int 0, .int 0, .int 0])), (qz1, .inl (kz2, 60, .inr (.inl (fun _ => 0))))] H := hP
  have hD : va_D A [(h0, .inr (6, [.ref qz1, .int 0, .int 0, .int 0])), (qz1, .inl (kz2, 60, .inr (.inl (fun _ => 0))))] := hD
  refine W.widen (k := 1) (n := 60) (Nat.le_of_ble_eq_true rfl) (Nat.le_of_ble_eq_true rfl) ?_
  have hP9 := hP.sub (ws' := [(h0, .inr (6, [.ref qz1, .int 0, .int 0, .int 0])), (qz1, .inl (kz2, 60, .inr (.inl (fun _ => 0))))]) [0, 1] rfl
  have hD9 := hD.sub (ws' := [(h0, .inr (6, [.ref qz1, .int 0, .int 0, .int 0])), (qz1, .inl (kz2, 60, .inr (.inl (fun _ => 0))))]) [0, 1] (by decide) rfl
  have hK9 := hK.sub (tys' := [(kz2, .long)]) [0] rfl
  exact W.vret hx hb hr (fun t ht hW => ⟨⟨(), rfl, trivial, qz1, kz2, by rw [ht]; exact hP9, va_K.moved hW.alike hK9, hD9⟩, hS.F ht⟩) hS.2.2 dX6_init_12
def wk_f_X7_init : List Cond := .code yX7_init cX7_init 2 none :: ([.methodLink RX7 3 objectInit, .instanceMethod objectInit, .code objectInit ⟨#[0xb1]⟩ 1 none, .classLink RX7 9 RX2, .fieldLink RX7 11 "SagMemory$State" "memories" "[LSagMemory$Memory;", .fieldLink RX7 17 "SagMemory$State" "came" "I", .fieldLink RX7 21 "SagMemory$State" "went" "I", .instantiable RX2 3, .initialized RX2, .instanceMethod yX2_init] ++ (wsX70 ++ (wsX20 ++ (wk_f_X2_init ++ []))))
theorem wkg_f_X7_init : wk_f_X7_init.all goodWord = true := by decide +kernel
set_option maxHeartbeats 4000000 in
set_option maxRecDepth 100000 in
theorem f_X7_init (l : Launch) (dC : Nat → ClassId) (dI : Nat → Nat → Nat) (sz : Nat) (h0 : Nat) : Met l yX7_init wk_f_X7_init ({ frames := 2, cells := 10, slots := 60, locals := 44 }) (va_Pc [.ref h0] (fun U => U.heap.size = sz ∧ Nx U ∧ va_P (dC, dI) vwCl [(h0, .inr (7, [.null, .int 0, .int 0, .int 0, .int 0, .int 0, .int 0, .int 0, .int 0]))] U.heap ∧ va_K (dC, dI) vwCl [] U ∧ va_D (fun _ => True) [(h0, .inr (7, [.null, .int 0, .int 0, .int 0, .int 0, .int 0, .int 0, .int 0, .int 0]))])) (va_Qv (fun _ : Unit => True) (fun (_ : Unit) (t : State) => ∃ (b0 : Nat), va_P (dC, dI) vwCl [(h0, .inr (7, [.ref b0, .int 0, .int 0, .int (-1), .int (-1), .int 0, .int 0, .int 0, .int 0]))] t.heap ∧ va_K (dC, dI) vwCl [] t ∧ va_D (va_A [(h0, .inr (7, [.null, .int 0, .int 0, .int 0, .int 0, .int 0, .int 0, .int 0, .int 0]))] sz) [(h0, .inr (7, [.ref b0, .int 0, .int 0, .int (-1), .int (-1), .int 0, .int 0, .int 0, .int 0]))]) (va_A [(h0, .inr (7, [.null, .int 0, .int 0, .int 0, .int 0, .int 0, .int 0, .int 0, .int 0]))] sz)) 10 60 (va_A [(h0, .inr (7, [.null, .int 0, .int 0, .int 0, .int 0, .int 0, .int 0, .int 0, .int 0]))] sz) := by
  refine Met.ofW (cc := cX7_init) (maxL := 2) (ret := none) (by decide) rfl ?_
  intro p e s m args below meth c s₁ B hml hv
  obtain ⟨rfl, hsz, hN, hP, hK, hD0⟩ := hv
  have hx := B.exec
  have hb := B.bytes
  have hr := B.returns
  have hts := atoms_spec (ws := wk_f_X7_init) B.pre
  have hown : s.vm.findClass RX7 = some m.cls := findClass_of_methodNamed B.named
  have hlocks := B.notSynchronized
  have hin : meth.name = "<init>" := (name_of_methodNamed B.named B.method).1
  subst hsz
  have hD := hD0.self (sz := s.heap.size)
  generalize hAe : va_A [(h0, .inr (7, [.null, .int 0, .int 0, .int 0, .int 0, .int 0, .int 0, .int 0, .int 0]))] s.heap.size = A at hD ⊢
  have hA : ∀ q : Nat, s.heap.size ≤ q → A q := fun q h => by rw [← hAe]; exact Or.inr h
  have hS : va_S A s.heap s.heap [] := va_S.rf
  have hP : va_P (dC, dI) vwCl [(h0, .inr (7, [.null, .int 0, .int 0, .int 0, .int 0, .int 0, .int 0, .int 0, .int 0]))] s.heap := hP
  have hl := lv_entry ([.ref h0]) (n := 2) (Nat.le_of_ble_eq_true rfl)
  rw [lg_entry_eq]
  generalize (lg_sl ([.ref h0]) ++ List.replicate (2 - (lg_sl ([.ref h0])).length) Slot.unset).toArray = ls at hl ⊢
  have hl : lv_has ls 2 [(0, .ref h0)] := hl
  refine lv_aload_n hx hb dX7_init_0 rfl (lv_at hl 0 rfl) ?_
  refine W.objInit hx hb hown (hts (.methodLink RX7 3 objectInit) (wl_mem 0 rfl)) (hts (.instanceMethod objectInit) (wl_mem 1 rfl)) (hts (.code objectInit ⟨#[0xb1]⟩ 1 none) (wl_mem 2 rfl)) rfl (by rw [hml]; exact hl.1) rfl dX7_init_1 (Nat.le_of_ble_eq_true rfl) (Nat.le_of_ble_eq_true rfl) ?_
  refine W.eq (g2 := F0 m 4 ls []) rfl ?_
  refine lv_aload_n hx hb dX7_init_4 rfl (lv_at hl 0 rfl) ?_
  refine lv_iconst (v := 3) hx hb dX7_init_5 (by decide) ?_
  refine va_newq (C := RX2) hx hb hown (hts (.classLink RX7 9 RX2) (wl_mem 3 rfl)) (Nx_ao_RX2 hN) hK hP hD hS hA (N' := 3) (by decide) (by decide) (by decide) (Nat.le_of_ble_eq_true rfl) (Nat.le_of_ble_eq_true rfl) dX7_init_6 (fun qz1 kz2 H hK hP hD hS => ?_)
  have hK : va_K (dC, dI) vwCl [(kz2, .object RX2)] s := hK
  have hP : va_P (dC, dI) vwCl [(h0, .inr (7, [.null, .int 0, .int 0, .int 0, .int 0, .int 0, .int 0, .int 0, .int 0])), (qz1, .inl (kz2, 3, .inr (.inr (.inr (.inr (fun _ => none))))))] H := hP
  have hD : va_D A [(h0, .inr (7, [.null, .int 0, .int 0, .int 0, .int 0, .int 0, .int 0, .int 0, .int 0])), (qz1, .inl (kz2, 3, .inr (.inr (.inr (.inr (fun _ => none))))))] := hD
  refine W.widen (k := 1) (n := 3) (Nat.le_of_ble_eq_true rfl) (Nat.le_of_ble_eq_true rfl) ?_
  refine va_putF (D := (dC, dI)) (ci := 7) (v := .ref qz1) (ty := .array (.object "SagMemory$Memory")) (C := RX7) (T := TX7) (N := 9) hx hb hts (fun w h => List.mem_cons_of_mem _ (List.mem_append_right _ (List.mem_append_left _ h))) tyX7 tyX7_ok nmX7 hown hK hP hD hS 0 rfl rfl 0 (by decide) (hts (.fieldLink RX7 11 "SagMemory$State" "memories" "[LSagMemory$Memory;") (wl_mem 4 rfl)) (fun _ h9 => h9) rfl hin rfl (by decide +kernel) rfl rfl (Nat.le_of_ble_eq_true rfl) dX7_init_9 (fun H locs hP hD hS => ?_)
  have hP : va_P (dC, dI) vwCl [(h0, .inr (7, [.ref qz1, .int 0, .int 0, .int 0, .int 0, .int 0, .int 0, .int 0, .int 0])), (qz1, .inl (kz2, 3, .inr (.inr (.inr (.inr (fun _ => none))))))] H := hP
  have hD : va_D A [(h0, .inr (7, [.ref qz1, .int 0, .int 0, .int 0, .int 0, .int 0, .int 0, .int 0, .int 0])), (qz1, .inl (kz2, 3, .inr (.inr (.inr (.inr (fun _ => none))))))] := hD
  refine lv_aload_n hx hb dX7_init_12 rfl (lv_at hl 0 rfl) ?_
  refine lv_iconst (v := (-1)) hx hb dX7_init_13 (by decide) ?_
  refine va_put (D := (dC, dI)) (ci := 7) (v := .int (-1)) (ty := .int) (C := RX7) (T := TX7) (N := 9) hx hb hts (fun w h => List.mem_cons_of_mem _ (List.mem_append_right _ (List.mem_append_left _ h))) tyX7 tyX7_ok nmX7 hown hK hP hD hS 0 rfl rfl 3 (by decide) (hts (.fieldLink RX7 17 "SagMemory$State" "came" "I") (wl_mem 5 rfl)) (fun _ h9 => h9) rfl (by decide +kernel) rfl rfl (Nat.le_of_ble_eq_true rfl) dX7_init_14 (fun H locs hP hD hS => ?_)
  have hP : va_P (dC, dI) vwCl [(h0, .inr (7, [.ref qz1, .int 0, .int 0, .int (-1), .int 0, .int 0, .int 0, .int 0, .int 0])), (qz1, .inl (kz2, 3, .inr (.inr (.inr (.inr (fun _ => none))))))] H := hP
  have hD : va_D A [(h0, .inr (7, [.ref qz1, .int 0, .int 0, .int (-1), .int 0, .int 0, .int 0, .int 0, .int 0])), (qz1, .inl (kz2, 3, .inr (.inr (.inr (.inr (fun _ => none))))))] := hD
  refine lv_aload_n hx hb dX7_init_17 rfl (lv_at hl 0 rfl) ?_
  refine lv_iconst (v := (-1)) hx hb dX7_init_18 (by decide) ?_
  refine va_put (D := (dC, dI)) (ci := 7) (v := .int (-1)) (ty := .int) (C := RX7) (T := TX7) (N := 9) hx hb hts (fun w h => List.mem_cons_of_mem _ (List.mem_append_right _ (List.mem_append_left _ h))) tyX7 tyX7_ok nmX7 hown hK hP hD hS 0 rfl rfl 4 (by decide) (hts (.fieldLink RX7 21 "SagMemory$State" "went" "I") (wl_mem 6 rfl)) (fun _ h9 => h9) rfl (by decide +kernel) rfl rfl (Nat.le_of_ble_eq_true rfl) dX7_init_19 (fun H locs hP hD hS => ?_)
  have hP : va_P (dC, dI) vwCl [(h0, .inr (7, [.ref qz1, .int 0, .int 0, .int (-1), .int (-1), .int 0, .int 0, .int 0, .int 0])), (qz1, .inl (kz2, 3, .inr (.inr (.inr (.inr (fun _ => none))))))] H := hP
  have hD : va_D A [(h0, .inr (7, [.ref qz1, .int 0, .int 0, .int (-1), .int (-1), .int 0, .int 0, .int 0, .int 0])), (qz1, .inl (kz2, 3, .inr (.inr (.inr (.inr (fun _ => none))))))] := hD
  refine lv_iconst (v := 0) hx hb dX7_init_22 (by decide) ?_
  refine lv_istore_n (lv' := [(1, .int 0), (0, .ref h0)]) hx hb dX7_init_23 rfl hl (by decide) rfl (fun ls hl => ?_)
  refine lv_iload_n hx hb dX7_init_24 rfl (lv_at hl 0 rfl) ?_
  refine lv_iconst (v := 3) hx hb dX7_init_25 (by decide) ?_
  refine lv_icmp_ge (tgt := 48) hx hb dX7_init_26 (by decide) (fun cz3 => ?_) (fun cz3 => ?_)
  · skip
    exact absurd cz3 (by decide)
  · skip
    refine lv_aload_n hx hb dX7_init_29 rfl (lv_at hl 1 rfl) ?_
    refine va_get (D := (dC, dI)) (ci := 7) (v := .ref qz1) (C := RX7) (T := TX7) (N := 9) hx hb hts (fun w h => List.mem_cons_of_mem _ (List.mem_append_right _ (List.mem_append_left _ h))) hown hK hP 0 rfl rfl 0 (by decide) (hts (.fieldLink RX7 11 "SagMemory$State" "memories" "[LSagMemory$Memory;") (wl_mem 4 rfl)) (fun _ h9 => h9) rfl dX7_init_30 ?_
    refine lv_iload_n hx hb dX7_init_33 rfl (lv_at hl 0 rfl) ?_
    refine va_new (ci := 2) (fs := [.null, .null, .int 0]) (C := RX2) (T := TX2) (N := 3) hx hb hts (fun w h => List.mem_cons_of_mem _ (List.mem_append_right _ (List.mem_append_right _ (List.mem_append_left _ h)))) tyX2 tyX2_ok hown (hts (.classLink RX7 9 RX2) (wl_mem 3 rfl)) (hts (.instantiable RX2 3) (wl_mem 7 rfl)) (hts (.initialized RX2) (wl_mem 8 rfl)) hK hP hD hS hA rfl (fun j hj => by rcases (show j = 0 ∨ j = 1 ∨ j = 2 by omega) with rfl | rfl | rfl <;> rfl) (Nat.le_of_ble_eq_true rfl) (Nat.le_of_ble_eq_true rfl) dX7_init_34 (fun qz4 H hP hD hS => ?_)
    have hP : va_P (dC, dI) vwCl [(h0, .inr (7, [.ref qz1, .int 0, .int 0, .int (-1), .int (-1), .int 0, .int 0, .int 0, .int 0])), (qz1, .inl (kz2, 3, .inr (.inr (.inr (.inr (fun _ => none)))))), (qz4, .inr (2, [.null, .null, .int 0]))] H := hP
    have hD : va_D A [(h0, .inr (7, [.ref qz1, .int 0, .int 0, .int (-1), .int (-1), .int 0, .int 0, .int 0, .int 0])), (qz1, .inl (kz2, 3, .inr (.inr (.inr (.inr (fun _ => none)))))), (qz4, .inr (2, [.null, .null, .int 0]))] := hD
    refine W.widen (k := 2) (n := 6) (Nat.le_of_ble_eq_true rfl) (Nat.le_of_ble_eq_true rfl) ?_
    refine lv_dup hx hb dX7_init_37 rfl ?_
    have hPc := hP.sub (ws' := [(qz4, .inr (2, [.null, .null, .int 0]))]) [2] rfl
    have hKc := hK.sub (tys' := []) [] rfl
    have hDc := hD.sub (ws' := [(qz4, .inr (2, [.null, .null, .int 0]))]) [2] (by decide) rfl
    have hFc := va_free (wc := [(qz4, .inr (2, [.null, .null, .int 0]))]) hD hS hA [2] rfl
    refine va_callv (va_runIN (As := []) (rest := [.ref qz4, .int 0, .ref qz1]) ⟨hx, hb, hml, hown, hts⟩ (f_X2_init l dC dI H.size qz4) ⟨va_cnB 0 hts (goodIn_sub (fun w h => List.mem_cons_of_mem _ (List.mem_append_right _ (List.mem_append_right _ (List.mem_append_right _ (List.mem_append_left _ h))))) wkg_f_X2_init) rfl rfl rfl (Nx_RX7_24 hN) (hts (.initialized RX2) (wl_mem 8 rfl)) (by decide +kernel) ⟨Nat.le_of_ble_eq_true rfl, Nat.le_of_ble_eq_true rfl⟩, rfl, (hts (.instanceMethod yX2_init) (wl_mem 9 rfl))⟩ ⟨fun a U g mk q => by obtain ⟨q0, q1, qP, qK, qD⟩ := q; exact ⟨q0, q1, qP, va_K.moved (u := U) (U := U.calling g mk a) (Vm.Alike.refl U.vm) qK, qD⟩, fun U hU hW => ⟨rfl, by rw [hU], by rw [hU]; exact hPc, va_K.moved hW.alike hKc, hDc.weaken (fun _ _ _ _ => trivial)⟩⟩ rfl rfl hl.1 rfl (lv_room (Nat.le_of_ble_eq_true rfl)) dX7_init_38 ⟨Nat.le_of_ble_eq_true rfl, Nat.le_of_ble_eq_true rfl⟩) hS (fun q _ h => hFc q h) hFc (fun u t H1 locs ht hvm hz5 hB hz1 hk1 hS => ?_)
    obtain ⟨qz7, qz8, hP1, hK1, hD1⟩ := hB
    rw [ht] at hP1
    have hK1 := va_K.moved hvm.symm hK1
    obtain ⟨hP, hD⟩ := va_join (wr := [(h0, .inr (7, [.ref qz1, .int 0, .int 0, .int (-1), .int (-1), .int 0, .int 0, .int 0, .int 0])), (qz1, .inl (kz2, 3, .inr (.inr (.inr (.inr (fun _ => none))))))]) (w1 := [(qz4, .inr (2, [.ref qz7, .ref qz8, .int 0]))]) hP hD [2] [0, 1] rfl rfl (by decide) (by decide) hk1 hFc hP1 hD1
    have hK := (hK.sub (tys' := [(kz2, .object RX2)]) [0] rfl).app hK1
    generalize H1 = H at hP hS ⊢
    have hK : va_K (dC, dI) vwCl [(kz2, .object RX2)] s := hK
    have hP : va_P (dC, dI) vwCl [(h0, .inr (7, [.ref qz1, .int 0, .int 0, .int (-1), .int (-1), .int 0, .int 0, .int 0, .int 0])), (qz1, .inl (kz2, 3, .inr (.inr (.inr (.inr (fun _ => none)))))), (qz4, .inr (2, [.ref qz7, .ref qz8, .int 0]))] H := hP
    have hD : va_D A [(h0, .inr (7, [.ref qz1, .int 0, .int 0, .int (-1), .int (-1), .int 0, .int 0, .int 0, .int 0])), (qz1, .inl (kz2, 3, .inr (.inr (.inr (.inr (fun _ => none)))))), (qz4, .inr (2, [.ref qz7, .ref qz8, .int 0]))] := hD
    refine W.widen (k := 4) (n := 22) (Nat.le_of_ble_eq_true rfl) (Nat.le_of_ble_eq_true rfl) ?_
    refine va_astq hx hb hK hP hD hS 1 0 2 2 rfl rfl rfl rfl (by unfold vp_in; decide) dX7_init_41 (fun H locs hP hD hS => ?_)
    have hP : va_P (dC, dI) vwCl [(h0, .inr (7, [.ref qz1, .int 0, .int 0, .int (-1), .int (-1), .int 0, .int 0, .int 0, .int 0])), (qz1, .inl (kz2, 3, .inr (.inr (.inr (.inr (va_up (fun _ => none) 0 (some qz4))))))), (qz4, .inr (2, [.ref qz7, .ref qz8, .int 0]))] H := hP
    have hD : va_D A [(h0, .inr (7, [.ref qz1, .int 0, .int 0, .int (-1), .int (-1), .int 0, .int 0, .int 0, .int 0])), (qz1, .inl (kz2, 3, .inr (.inr (.inr (.inr (va_up (fun _ => none) 0 (some qz4))))))), (qz4, .inr (2, [.ref qz7, .ref qz8, .int 0]))] := hD
    refine lv_iinc (v := 1) (lv' := [(1, .int 1), (0, .ref h0)]) hx hb dX7_init_42 hl (k := 0) rfl (by decide) (by decide) rfl (fun ls hl => ?_)
    refine lv_goto (tgt := 24) hx hb dX7_init_45 (by decide) ?_
    refine lv_iload_n hx hb dX7_init_24 rfl (lv_at hl 0 rfl) ?_
    refine lv_iconst (v := 3) hx hb dX7_init_25 (by decide) ?_
    refine lv_icmp_ge (tgt := 48) hx hb dX7_init_26 (by decide) (fun cz9 => ?_) (fun cz9 => ?_)
    · skip
      exact absurd cz9 (by decide)
    · skip
      refine lv_aload_n hx hb dX7_init_29 rfl (lv_at hl 1 rfl) ?_
      refine va_get (D := (dC, dI)) (ci := 7) (v := .ref qz1) (C := RX7) (T := TX7) (N := 9) hx hb hts (fun w h => List.mem_cons_of_mem _ (List.mem_append_right _ (List.mem_append_left _ h))) hown hK hP 0 rfl rfl 0 (by decide) (hts (.fieldLink RX7 11 "SagMemory$State" "memories" "[LSagMemory$Memory;") (wl_mem 4 rfl)) (fun _ h9 => h9) rfl dX7_init_30 ?_
      refine lv_iload_n hx hb dX7_init_33 rfl (lv_at hl 0 rfl) ?_
      refine va_new (ci := 2) (fs := [.null, .null, .int 0]) (C := RX2) (T := TX2) (N := 3) hx hb hts (fun w h => List.mem_cons_of_mem _ (List.mem_append_right _ (List.mem_append_right _ (List.mem_append_left _ h)))) tyX2 tyX2_ok hown (hts (.classLink RX7 9 RX2) (wl_mem 3 rfl)) (hts (.instantiable RX2 3) (wl_mem 7 rfl)) (hts (.initialized RX2) (wl_mem 8 rfl)) hK hP hD hS hA rfl (fun j hj => by rcases (show j = 0 ∨ j = 1 ∨ j = 2 by omega) with rfl | rfl | rfl <;> rfl) (Nat.le_of_ble_eq_true rfl) (Nat.le_of_ble_eq_true rfl) dX7_init_34 (fun qz10 H hP hD hS => ?_)
      have hP : va_P (dC, dI) vwCl [(h0, .inr (7, [.ref qz1, .int 0, .int 0, .int (-1), .int (-1), .int 0, .int 0, .int 0, .int 0])), (qz1, .inl (kz2, 3, .inr (.inr (.inr (.inr (va_up (fun _ => none) 0 (some qz4))))))), (qz4, .inr (2, [.ref qz7, .ref qz8, .int 0])), (qz10, .inr (2, [.null, .null, .int 0]))] H := hP
      have hD : va_D A [(h0, .inr (7, [.ref qz1, .int 0, .int 0, .int (-1), .int (-1), .int 0, .int 0, .int 0, .int 0])), (qz1, .inl (kz2, 3, .inr (.inr (.inr (.inr (va_up (fun _ => none) 0 (some qz4))))))), (qz4, .inr (2, [.ref qz7, .ref qz8, .int 0])), (qz10, .inr (2, [.null, .null, .int 0]))] := hD
      refine W.widen (k := 5) (n := 25) (Nat.le_of_ble_eq_true rfl) (Nat.le_of_ble_eq_true rfl) ?_
      refine lv_dup hx hb dX7_init_37 rfl ?_
      have hPc := hP.sub (ws' := [(qz10, .inr (2, [.null, .null, .int 0]))]) [3] rfl
      have hKc := hK.sub (tys' := []) [] rfl
      have hDc := hD.sub (ws' := [(qz10, .inr (2, [.null, .null, .int 0]))]) [3] (by decide) rfl
      have hFc := va_free (wc := [(qz10, .inr (2, [.null, .null, .int 0]))]) hD hS hA [3] rfl
      refine va_callv (va_runIN (As := []) (rest := [.ref qz10, .int 1, .ref qz1]) ⟨hx, hb, hml, hown, hts⟩ (f_X2_init l dC dI H.size qz10) ⟨va_cnB 0 hts (goodIn_sub (fun w h => List.mem_cons_of_mem _ (List.mem_append_right _ (List.mem_append_right _ (List.mem_append_right _ (List.mem_append_left _ h))))) wkg_f_X2_init) rfl rfl rfl (Nx_RX7_24 hN) (hts (.initialized RX2) (wl_mem 8 rfl)) (by decide +kernel) ⟨Nat.le_of_ble_eq_true rfl, Nat.le_of_ble_eq_true rfl⟩, rfl, (hts (.instanceMethod yX2_init) (wl_mem 9 rfl))⟩ ⟨fun a U g mk q => by obtain ⟨q0, q1, qP, qK, qD⟩ := q; exact ⟨q0, q1, qP, va_K.moved (u := U) (U := U.calling g mk a) (Vm.Alike.refl U.vm) qK, qD⟩, fun U hU hW => ⟨rfl, by rw [hU], by rw [hU]; exact hPc, va_K.moved hW.alike hKc, hDc.weaken (fun _ _ _ _ => trivial)⟩⟩ rfl rfl hl.1 rfl (lv_room (Nat.le_of_ble_eq_true rfl)) dX7_init_38 ⟨Nat.le_of_ble_eq_true rfl, Nat.le_of_ble_eq_true rfl⟩) hS (fun q _ h => hFc q h) hFc (fun u t H1 locs ht hvm hz11 hB hz1 hk1 hS => ?_)
      obtain ⟨qz13, qz14, hP1, hK1, hD1⟩ := hB
      rw [ht] at hP1
      have hK1 := va_K.moved hvm.symm hK1
      obtain ⟨hP, hD⟩ := va_join (wr := [(h0, .inr (7, [.ref qz1, .int 0, .int 0, .int (-1), .int (-1), .int 0, .int 0, .int 0, .int 0])), (qz1, .inl (kz2, 3, .inr (.inr (.inr (.inr (va_up (fun _ => none) 0 (some qz4))))))), (qz4, .inr (2, [.ref qz7, .ref qz8, .int 0]))]) (w1 := [(qz10, .inr (2, [.ref qz13, .ref qz14, .int 0]))]) hP hD [3] [0, 1, 2] rfl rfl (by decide) (by decide) hk1 hFc hP1 hD1
      have hK := (hK.sub (tys' := [(kz2, .object RX2)]) [0] rfl).app hK1
      generalize H1 = H at hP hS ⊢
      have hK : va_K (dC, dI) vwCl [(kz2, .object RX2)] s := hK
      have hP : va_P (dC, dI) vwCl [(h0, .inr (7, [.ref qz1, .int 0, .int 0, .int (-1), .int (-1), .int 0, .int 0, .int 0, .int 0])), (qz1, .inl (kz2, 3, .inr (.inr (.inr (.inr (va_up (fun _ => none) 0 (some qz4))))))), (qz4, .inr (2, [.ref qz7, .ref qz8, .int 0])), (qz10, .inr (2, [.ref qz13, .ref qz14, .int 0]))] H := hP
      have hD : va_D A [(h0, .inr (7, [.ref qz1, .int 0, .int 0, .int (-1), .int (-1), .int 0, .int 0, .int 0, .int 0])), (qz1, .inl (kz2, 3, .inr (.inr (.inr (.inr (va_up (fun _ => none) 0 (some qz4))))))), (qz4, .inr (2, [.ref qz7, .ref qz8, .int 0])), (qz10, .inr (2, [.ref qz13, .ref qz14, .int 0]))] := hD
      refine W.widen (k := 7) (n := 41) (Nat.le_of_ble_eq_true rfl) (Nat.le_of_ble_eq_true rfl) ?_
      refine va_astq hx hb hK hP hD hS 1 0 3 2 rfl rfl rfl rfl (by unfold vp_in; decide) dX7_init_41 (fun H locs hP hD hS => ?_)
      have hP : va_P (dC, dI) vwCl [(h0, .inr (7, [.ref qz1, .int 0, .int 0, .int (-1), .int (-1), .int 0, .int 0, .int 0, .int 0])), (qz1, .inl (kz2, 3, .inr (.inr (.inr (.inr (va_up (va_up (fun _ => none) 0 (some qz4)) 1 (some qz10))))))), (qz4, .inr (2, [.ref qz7, .ref qz8, .int 0])), (qz10, .inr (2, [.ref qz13, .ref qz14, .int 0]))] H := hP
      have hD : va_D A [(h0, .inr (7, [.ref qz1, .int 0, .int 0, .int (-1), .int (-1), .int 0, .int 0, .int 0, .int 0])), (qz1, .inl (kz2, 3, .inr (.inr (.inr (.inr (va_up (va_up (fun _ => none) 0 (some qz4)) 1 (some qz10))))))), (qz4, .inr (2, [.ref qz7, .ref qz8, .int 0])), (qz10, .inr (2, [.ref qz13, .ref qz14, .int 0]))] := hD
      refine lv_iinc (v := 2) (lv' := [(1, .int 2), (0, .ref h0)]) hx hb dX7_init_42 hl (k := 0) rfl (by decide) (by decide) rfl (fun ls hl => ?_)
      refine lv_goto (tgt := 24) hx hb dX7_init_45 (by decide) ?_
      refine lv_iload_n hx hb dX7_init_24 rfl (lv_at hl 0 rfl) ?_
      refine lv_iconst (v := 3) hx hb dX7_init_25 (by decide) ?_
      refine lv_icmp_ge (tgt := 48) hx hb dX7_init_26 (by decide) (fun cz15 => ?_) (fun cz15 => ?_)
      · skip
        exact absurd cz15 (by decide)
      · skip
        refine lv_aload_n hx hb dX7_init_29 rfl (lv_at hl 1 rfl) ?_
        refine va_get (D := (dC, dI)) (ci := 7) (v := .ref qz1) (C := RX7) (T := TX7) (N := 9) hx hb hts (fun w h => List.mem_cons_of_mem _ (List.mem_append_right _ (List.mem_append_left _ h))) hown hK hP 0 rfl rfl 0 (by decide) (hts (.fieldLink RX7 11 "SagMemory$State" "memories" "[LSagMemory$Memory;") (wl_mem 4 rfl)) (fun _ h9 => h9) rfl dX7_init_30 ?_
        refine lv_iload_n hx hb dX7_init_33 rfl (lv_at hl 0 rfl) ?_
        refine va_new (ci := 2) (fs := [.null, .null, .int 0]) (C := RX2) (T := TX2) (N := 3) hx hb hts (fun w h => List.mem_cons_of_mem _ (List.mem_append_right _ (List.mem_append_right _ (List.mem_append_left _ h)))) tyX2 tyX2_ok hown (hts (.classLink RX7 9 RX2) (wl_mem 3 rfl)) (hts (.instantiable RX2 3) (wl_mem 7 rfl)) (hts (.initialized RX2) (wl_mem 8 rfl)) hK hP hD hS hA rfl (fun j hj => by rcases (show j = 0 ∨ j = 1 ∨ j = 2 by omega) with rfl | rfl | rfl <;> rfl) (Nat.le_of_ble_eq_true rfl) (Nat.le_of_ble_eq_true rfl) dX7_init_34 (fun qz16 H hP hD hS => ?_)
        have hP : va_P (dC, dI) vwCl [(h0, .inr (7, [.ref qz1, .int 0, .int 0, .int (-1), .int (-1), .int 0, .int 0, .int 0, .int 0])), (qz1, .inl (kz2, 3, .inr (.inr (.inr (.inr (va_up (va_up (fun _ => none) 0 (some qz4)) 1 (some qz10))))))), (qz4, .inr (2, [.ref qz7, .ref qz8, .int 0])), (qz10, .inr (2, [.ref qz13, .ref qz14, .int 0])), (qz16, .inr (2, [.null, .null, .int 0]))] H := hP
        have hD : va_D A [(h0, .inr (7, [.ref qz1, .int 0, .int 0, .int (-1), .int (-1), .int 0, .int 0, .int 0, .int 0])), (qz1, .inl (kz2, 3, .inr (.inr (.inr (.inr (va_up (va_up (fun _ => none) 0 (some qz4)) 1 (some qz10))))))), (qz4, .inr (2, [.ref qz7, .ref qz8, .int 0])), (qz10, .inr (2, [.ref qz13, .ref qz14, .int 0])), (qz16, .inr (2, [.null, .null, .int 0]))] := hD
        refine W.widen (k := 8) (n := 44) (Nat.le_of_ble_eq_true rfl) (Nat.le_of_ble_eq_true rfl) ?_
        refine lv_dup hx hb dX7_init_37 rfl ?_
        have hPc := hP.sub (ws' := [(qz16, .inr (2, [.null, .null, .int 0]))]) [4] rfl
        have hKc := hK.sub (tys' := []) [] rfl
        have hDc := hD.sub (ws' := [(qz16, .inr (2, [.null, .null, .int 0]))]) [4] (by decide) rfl
        have hFc := va_free (wc := [(qz16, .inr (2, [.null, .null, .int 0]))]) hD hS hA [4] rfl
        refine va_callv (va_runIN (As := []) (rest := [.ref qz16, .int 2, .ref qz1]) ⟨hx, hb, hml, hown, hts⟩ (f_X2_init l dC dI H.size qz16) ⟨va_cnB 0 hts (goodIn_sub (fun w h => List.mem_cons_of_mem _ (List.mem_append_right _ (List.mem_append_right _ (List.mem_append_right _ (List.mem_append_left _ h))))) wkg_f_X2_init) rfl rfl rfl (Nx_RX7_24 hN) (hts (.initialized RX2) (wl_mem 8 rfl)) (by decide +kernel) ⟨Nat.le_of_ble_eq_true rfl, Nat.le_of_ble_eq_true rfl⟩, rfl, (hts (.instanceMethod yX2_init) (wl_mem 9 rfl))⟩ ⟨fun a U g mk q => by obtain ⟨q0, q1, qP, qK, qD⟩ := q; exact ⟨q0, q1, qP, va_K.moved (u := U) (U := U.calling g mk a) (Vm.Alike.refl U.vm) qK, qD⟩, fun U hU hW => ⟨rfl, by rw [hU], by rw [hU]; exact hPc, va_K.moved hW.alike hKc, hDc.weaken (fun _ _ _ _ => trivial)⟩⟩ rfl rfl hl.1 rfl (lv_room (Nat.le_of_ble_eq_true rfl)) dX7_init_38 ⟨Nat.le_of_ble_eq_true rfl, Nat.le_of_ble_eq_true rfl⟩) hS (fun q _ h => hFc q h) hFc (fun u t H1 locs ht hvm hz17 hB hz1 hk1 hS => ?_)
        obtain ⟨qz19, qz20, hP1, hK1, hD1⟩ := hB
        rw [ht] at hP1
        have hK1 := va_K.moved hvm.symm hK1
        obtain ⟨hP, hD⟩ := va_join (wr := [(h0, .inr (7, [.ref qz1, .int 0, .int 0, .int (-1), .int (-1), .int 0, .int 0, .int 0, .int 0])), (qz1, .inl (kz2, 3, .inr (.inr (.inr (.inr (va_up (va_up (fun _ => none) 0 (some qz4)) 1 (some qz10))))))), (qz4, .inr (2, [.ref qz7, .ref qz8, .int 0])), (qz10, .inr (2, [.ref qz13, .ref qz14, .int 0]))]) (w1 := [(qz16, .inr (2, [.ref qz19, .ref qz20, .int 0]))]) hP hD [4] [0, 1, 2, 3] rfl rfl (by decide) (by decide) hk1 hFc hP1 hD1
        have hK := (hK.sub (tys' := [(kz2, .object RX2)]) [0] rfl).app hK1
        generalize H1 = H at hP hS ⊢
        have hK : va_K (dC, dI) vwCl [(kz2, .object RX2)] s := hK
        have hP : va_P (dC, dI) vwCl [(h0, .inr (7, [.ref qz1, .int 0, .int 0, .int (-1), .int (-1), .int 0, .int 0, .int 0, .int 0])), (qz1, .inl (kz2, 3, .inr (.inr (.inr (.inr (va_up (va_up (fun _ => none) 0 (some qz4)) 1 (some qz10))))))), (qz4, .inr (2, [.ref qz7, .ref qz8, .int 0])), (qz10, .inr (2, [.ref qz13, .ref qz14, .int 0])), (qz16, .inr (2, [.ref qz19, .ref qz20, .int 0]))] H := hP
        have hD : va_D A [(h0, .inr (7, [.ref qz1, .int 0, .int 0, .int (-1), .int (-1), .int 0, .int 0, .int 0, .int 0])), (qz1, .inl (kz2, 3, .inr (.inr (.inr (.inr (va_up (va_up (fun _ => none) 0 (some qz4)) 1 (some qz10))))))), (qz4, .inr (2, [.ref qz7, .ref qz8, .int 0])), (qz10, .inr (2, [.ref qz13, .ref qz14, .int 0])), (qz16, .inr (2, [.ref qz19, .ref qz20, .int 0]))] := hD
        refine W.widen (k := 10) (n := 60) (Nat.le_of_ble_eq_true rfl) (Nat.le_of_ble_eq_true rfl) ?_
        refine va_astq hx hb hK hP hD hS 1 0 4 2 rfl rfl rfl rfl (by unfold vp_in; decide) dX7_init_41 (fun H locs hP hD hS => ?_)
        have hP : va_P (dC, dI) vwCl [(h0, .inr (7, [.ref qz1, .int 0, .int 0, .int (-1), .int (-1), .int 0, .int 0, .int 0, .int 0])), (qz1, .inl (kz2, 3, .inr (.inr (.inr (.inr (va_up (va_up (va_up (fun _ => none) 0 (some qz4)) 1 (some qz10)) 2 (some qz16))))))), (qz4, .inr (2, [.ref qz7, .ref qz8, .int 0])), (qz10, .inr (2, [.ref qz13, .ref qz14, .int 0])), (qz16, .inr (2, [.ref qz19, .ref qz20, .int 0]))] H := hP
        have hD : va_D A [(h0, .inr (7, [.ref qz1, .int 0, .int 0, .int (-1), .int (-1), .int 0, .int 0, .int 0, .int 0])), (qz1, .inl (kz2, 3, .inr (.inr (.inr (.inr (va_up (va_up (va_up (fun _ => none) 0 (some qz4)) 1 (some qz10)) 2 (some qz16))))))), (qz4, .inr (2, [.ref qz7, .ref qz8, .int 0])), (qz10, .inr (2, [.ref qz13, .ref qz14, .int 0])), (qz16, .inr (2, [.ref qz19, .ref qz20, .int 0]))] := hD
        refine lv_iinc (v := 3) (lv' := [(1, .int 3), (0, .ref h0)]) hx hb dX7_init_42 hl (k := 0) rfl (by decide) (by decide) rfl (fun ls hl => ?_)
        refine lv_goto (tgt := 24) hx hb dX7_init_45 (by decide) ?_
        refine lv_iload_n hx hb dX7_init_24 rfl (lv_at hl 0 rfl) ?_
        refine lv_iconst (v := 3) hx hb dX7_init_25 (by decide) ?_
        refine lv_icmp_ge (tgt := 48) hx hb dX7_init_26 (by decide) (fun cz21 => ?_) (fun cz21 => ?_)
        · skip
          refine W.widen (k := 10) (n := 60) (Nat.le_of_ble_eq_true rfl) (Nat.le_of_ble_eq_true rfl) ?_
          have hP9 := hP.sub (ws' := [(h0, .inr (7, [.ref qz1, .int 0, .int 0, .int (-1), .int (-1), .int 0, .int 0, .int 0, .int 0]))]) [0] rfl
          have hD9 := hD.sub (ws' := [(h0, .inr (7, [.ref qz1, .int 0, .int 0, .int (-1), .int (-1), .int 0, .int 0, .int 0, .int 0]))]) [0] (by decide) rfl
          have hK9 := hK.sub (tys' := []) [] rfl
          exact W.vret hx hb hr (fun t ht hW => ⟨⟨(), rfl, trivial, qz1, by rw [ht]; exact hP9, va_K.moved hW.alike hK9, hD9⟩, hS.F ht⟩) hS.2.2 dX7_init_48
        · skip
          exact absurd cz21 (by decide)
def wk_f_X8_init : List Cond := .code yX8_init cX8_init 4 none :: ([.methodLink RX8 3 objectInit, .instanceMethod objectInit, .code objectInit ⟨#[0xb1]⟩ 1 none, .classLink RX8 9 RX7, .instantiable RX7 9, .initialized RX7, .methodLink RX8 11 yX7_init, .instanceMethod yX7_init, .fieldLink RX8 12 "SagMemory$Story" "start" "LSagMemory$State;", .fieldLink RX8 18 "SagMemory$Story" "states" "[LSagMemory$State;", .fieldLink RX8 22 "SagMemory$Story" "valley" "LSagMemory$Valley;", .fieldLink RX8 26 "SagMemory$Story" "plan" "LSagMemory$Plan;"] ++ (wsX70 ++ (wk_f_X7_init ++ (wsX80 ++ []))))
theorem wkg_f_X8_init : wk_f_X8_init.all goodWord = true := by decide +kernel
set_option maxHeartbeats 4000000 in
set_option maxRecDepth 100000 in
theorem f_X8_init (l : Launch) (dC : Nat → ClassId) (dI : Nat → Nat → Nat) (sz : Nat) (h0 : Nat) (p1 : Nat) (p2 : Nat) : Met l yX8_init wk_f_X8_init ({ frames := 3, cells := 89, slots := 559, locals := 65 }) (va_Pc [.ref h0, .ref p1, .ref p2] (fun U => U.heap.size = sz ∧ Nx U ∧ va_P (dC, dI) vwCl [(h0, .inr (8, [.null, .null, .null, .null]))] U.heap ∧ va_K (dC, dI) vwCl [] U ∧ va_D (fun _ => True) [(h0, .inr (8, [.null, .null, .null, .null]))])) (va_Qv (fun _ : Unit => True) (fun (_ : Unit) (t : State) => ∃ (b0 : Nat) (b1 : Nat), va_P (dC, dI) vwCl [(h0, .inr (8, [.ref p1, .ref p2, .ref b0, .ref b1]))] t.heap ∧ va_K (dC, dI) vwCl [] t ∧ va_D (va_A [(h0, .inr (8, [.null, .null, .null, .null]))] sz) [(h0, .inr (8, [.ref p1, .ref p2, .ref b0, .ref b1]))]) (va_A [(h0, .inr (8, [.null, .null, .null, .null]))] sz)) 89 559 (va_A [(h0, .inr (8, [.null, .null, .null, .null]))] sz) := by
  refine Met.ofW (cc := cX8_init) (maxL := 4) (ret := none) (by decide) rfl ?_
  intro p e s m args below meth c s₁ B hml hv
  obtain ⟨rfl, hsz, hN, hP, hK, hD0⟩ := hv
  have hx := B.exec
  have hb := B.bytes
  have hr := B.returns
  have hts := atoms_spec (ws := wk_f_X8_init) B.pre
  have hown : s.vm.findClass RX8 = some m.cls := findClass_of_methodNamed B.named
  have hlocks := B.notSynchronized
  have hin : meth.name = "<init>" := (name_of_methodNamed B.named B.method).1
  subst hsz
  have hD := hD0.self (sz := s.heap.size)
  generalize hAe : va_A [(h0, .inr (8, [.null, .null, .null, .null]))] s.heap.size = A at hD ⊢
  have hA : ∀ q : Nat, s.heap.size ≤ q → A q := fun q h => by rw [← hAe]; exact Or.inr h
  have hS : va_S A s.heap s.heap [] := va_S.rf
  have hP : va_P (dC, dI) vwCl [(h0, .inr (8, [.null, .null, .null, .null]))] s.heap := hP
  have hl := lv_entry ([.ref h0, .ref p1, .ref p2]) (n := 4) (Nat.le_of_ble_eq_true rfl)
  rw [lg_entry_eq]
  generalize (lg_sl ([.ref h0, .ref p1, .ref p2]) ++ List.replicate (4 - (lg_sl ([.ref h0, .ref p1, .ref p2])).length) Slot.unset).toArray = ls at hl ⊢
  have hl : lv_has ls 4 [(0, .ref h0), (1, .ref p1), (2, .ref p2)] := hl
  refine lv_aload_n hx hb dX8_init_0 rfl (lv_at hl 0 rfl) ?_
  refine W.objInit hx hb hown (hts (.methodLink RX8 3 objectInit) (wl_mem 0 rfl)) (hts (.instanceMethod objectInit) (wl_mem 1 rfl)) (hts (.code objectInit ⟨#[0xb1]⟩ 1 none) (wl_mem 2 rfl)) rfl (by rw [hml]; exact hl.1) rfl dX8_init_1 (Nat.le_of_ble_eq_true rfl) (Nat.le_of_ble_eq_true rfl) ?_
  refine W.eq (g2 := F0 m 4 ls []) rfl ?_
  refine lv_aload_n hx hb dX8_init_4 rfl (lv_at hl 0 rfl) ?_
  refine va_new (ci := 7) (fs := [.null, .int 0, .int 0, .int 0, .int 0, .int 0, .int 0, .int 0, .int 0]) (C := RX7) (T := TX7) (N := 9) hx hb hts (fun w h => List.mem_cons_of_mem _ (List.mem_append_right _ (List.mem_append_left _ h))) tyX7 tyX7_ok hown (hts (.classLink RX8 9 RX7) (wl_mem 3 rfl)) (hts (.instantiable RX7 9) (wl_mem 4 rfl)) (hts (.initialized RX7) (wl_mem 5 rfl)) hK hP hD hS hA rfl (fun j hj => by rcases (show j = 0 ∨ j = 1 ∨ j = 2 ∨ j = 3 ∨ j = 4 ∨ j = 5 ∨ j = 6 ∨ j = 7 ∨ j = 8 by omega) with rfl | rfl | rfl | rfl | rfl | rfl | rfl | rfl | rfl <;> rfl) (Nat.le_of_ble_eq_true rfl) (Nat.le_of_ble_eq_true rfl) dX8_init_5 (fun qz1 H hP hD hS => ?_)
  have hP : va_P (dC, dI) vwCl [(h0, .inr (8, [.null, .null, .null, .null])), (qz1, .inr (7, [.null, .int 0, .int 0, .int 0, .int 0, .int 0, .int 0, .int 0, .int 0]))] H := hP
  have hD : va_D A [(h0, .inr (8, [.null, .null, .null, .null])), (qz1, .inr (7, [.null, .int 0, .int 0, .int 0, .int 0, .int 0, .int 0, .int 0, .int 0]))] := hD
  refine W.widen (k := 1) (n := 9) (Nat.le_of_ble_eq_true rfl) (Nat.le_of_ble_eq_true rfl) ?_
  refine lv_dup hx hb dX8_init_8 rfl ?_
  have hPc := hP.sub (ws' := [(qz1, .inr (7, [.null, .int 0, .int 0, .int 0, .int 0, .int 0, .int 0, .int 0, .int 0]))]) [1] rfl
  have hKc := hK.sub (tys' := []) [] rfl
  have hDc := hD.sub (ws' := [(qz1, .inr (7, [.null, .int 0, .int 0, .int 0, .int 0, .int 0, .int 0, .int 0, .int 0]))]) [1] (by decide) rfl
  have hFc := va_free (wc := [(qz1, .inr (7, [.null, .int 0, .int 0, .int 0, .int 0, .int 0, .int 0, .int 0, .int 0]))]) hD hS hA [1] rfl
  refine va_callv (va_runI (As := []) (rest := [.ref qz1, .ref h0]) ⟨hx, hb, hml, hown, hts⟩ (f_X7_init l dC dI H.size qz1) (cwI 0 hts (goodIn_sub (fun w h => List.mem_cons_of_mem _ (List.mem_append_right _ (List.mem_append_right _ (List.mem_append_left _ h)))) wkg_f_X7_init) rfl rfl rfl (hts (.initialized RX7) (wl_mem 5 rfl)) (hts (.methodLink RX8 11 yX7_init) (wl_mem 6 rfl)) (hts (.instanceMethod yX7_init) (wl_mem 7 rfl)) rfl (by decide +kernel) ⟨Nat.le_of_ble_eq_true rfl, Nat.le_of_ble_eq_true rfl⟩) ⟨fun a U g mk q => by obtain ⟨q0, q1, qN, qP, qK, qD⟩ := q; exact ⟨q0, q1, Nx_same rfl qN, qP, va_K.moved (u := U) (U := U.calling g mk a) (Vm.Alike.refl U.vm) qK, qD⟩, fun U hU hW => ⟨rfl, by rw [hU], Nx_warm hW hN, by rw [hU]; exact hPc, va_K.moved hW.alike hKc, hDc.weaken (fun _ _ _ _ => trivial)⟩⟩ rfl rfl hl.1 rfl (lv_room (Nat.le_of_ble_eq_true rfl)) dX8_init_9 ⟨Nat.le_of_ble_eq_true rfl, Nat.le_of_ble_eq_true rfl⟩) hS (fun q _ h => hFc q h) hFc (fun u t H1 locs ht hvm hz2 hB hz1 hk1 hS => ?_)
  obtain ⟨qz4, hP1, hK1, hD1⟩ := hB
  rw [ht] at hP1
  have hK1 := va_K.moved hvm.symm hK1
  obtain ⟨hP, hD⟩ := va_join (wr := [(h0, .inr (8, [.null, .null, .null, .null]))]) (w1 := [(qz1, .inr (7, [.ref qz4, .int 0, .int 0, .int (-1), .int (-1), .int 0, .int 0, .int 0, .int 0]))]) hP hD [1] [0] rfl rfl (by decide) (by decide) hk1 hFc hP1 hD1
  have hK := (hK.sub (tys' := []) [] rfl).app hK1
  generalize H1 = H at hP hS ⊢
  have hK : va_K (dC, dI) vwCl [] s := hK
  have hP : va_P (dC, dI) vwCl [(h0, .inr (8, [.null, .null, .null, .null])), (qz1, .inr (7, [.ref qz4, .int 0, .int 0, .int (-1), .int (-1), .int 0, .int 0, .int 0, .int 0]))] H := hP
  have hD : va_D A [(h0, .inr (8, [.null, .null, .null, .null])), (qz1, .inr (7, [.ref qz4, .int 0, .int 0, .int (-1), .int (-1), .int 0, .int 0, .int 0, .int 0]))] := hD
  refine W.widen (k := 11) (n := 69) (Nat.le_of_ble_eq_true rfl) (Nat.le_of_ble_eq_true rfl) ?_
  refine va_putF (D := (dC, dI)) (ci := 8) (v := .ref qz1) (ty := .object "SagMemory$State") (C := RX8) (T := TX8) (N := 4) hx hb hts (fun w h => List.mem_cons_of_mem _ (List.mem_append_right _ (List.mem_append_right _ (List.mem_append_right _ (List.mem_append_left _ h))))) tyX8 tyX8_ok nmX8 hown hK hP hD hS 0 rfl rfl 2 (by decide) (hts (.fieldLink RX8 12 "SagMemory$Story" "start" "LSagMemory$State;") (wl_mem 8 rfl)) (fun _ h9 => h9) rfl hin rfl (by decide +kernel) rfl rfl (Nat.le_of_ble_eq_true rfl) dX8_init_12 (fun H locs hP hD hS => ?_)
  have hP : va_P (dC, dI) vwCl [(h0, .inr (8, [.null, .null, .ref qz1, .null])), (qz1, .inr (7, [.ref qz4, .int 0, .int 0, .int (-1), .int (-1), .int 0, .int 0, .int 0, .int 0]))] H := hP
  have hD : va_D A [(h0, .inr (8, [.null, .null, .ref qz1, .null])), (qz1, .inr (7, [.ref qz4, .int 0, .int 0, .int (-1), .int (-1), .int 0, .int 0, .int 0, .int 0]))] := hD
  refine lv_aload_n hx hb dX8_init_15 rfl (lv_at hl 0 rfl) ?_
  refine lv_bipush (v := 7) hx hb dX8_init_16 (by decide) ?_
  refine va_newq (C := RX7) hx hb hown (hts (.classLink RX8 9 RX7) (wl_mem 3 rfl)) (Nx_ao_RX7 hN) hK hP hD hS hA (N' := 7) (by decide) (by decide) (by decide) (Nat.le_of_ble_eq_true rfl) (Nat.le_of_ble_eq_true rfl) dX8_init_18 (fun qz5 kz6 H hK hP hD hS => ?_)
  have hK : va_K (dC, dI) vwCl [(kz6, .object RX7)] s := hK
  have hP : va_P (dC, dI) vwCl [(h0, .inr (8, [.null, .null, .ref qz1, .null])), (qz1, .inr (7, [.ref qz4, .int 0, .int 0, .int (-1), .int (-1), .int 0, .int 0, .int 0, .int 0])), (qz5, .inl (kz6, 7, .inr (.inr (.inr (.inr (fun _ => none))))))] H := hP
  have hD : va_D A [(h0, .inr (8, [.null, .null, .ref qz1, .null])), (qz1, .inr (7, [.ref qz4, .int 0, .int 0, .int (-1), .int (-1), .int 0, .int 0, .int 0, .int 0])), (qz5, .inl (kz6, 7, .inr (.inr (.inr (.inr (fun _ => none))))))] := hD
  refine W.widen (k := 12) (n := 76) (Nat.le_of_ble_eq_true rfl) (Nat.le_of_ble_eq_true rfl) ?_
  refine va_putF (D := (dC, dI)) (ci := 8) (v := .ref qz5) (ty := .array (.object "SagMemory$State")) (C := RX8) (T := TX8) (N := 4) hx hb hts (fun w h => List.mem_cons_of_mem _ (List.mem_append_right _ (List.mem_append_right _ (List.mem_append_right _ (List.mem_append_left _ h))))) tyX8 tyX8_ok nmX8 hown hK hP hD hS 0 rfl rfl 3 (by decide) (hts (.fieldLink RX8 18 "SagMemory$Story" "states" "[LSagMemory$State;") (wl_mem 9 rfl)) (fun _ h9 => h9) rfl hin rfl (by decide +kernel) rfl rfl (Nat.le_of_ble_eq_true rfl) dX8_init_21 (fun H locs hP hD hS => ?_)
  have hP : va_P (dC, dI) vwCl [(h0, .inr (8, [.null, .null, .ref qz1, .ref qz5])), (qz1, .inr (7, [.ref qz4, .int 0, .int 0, .int (-1), .int (-1), .int 0, .int 0, .int 0, .int 0])), (qz5, .inl (kz6, 7, .inr (.inr (.inr (.inr (fun _ => none))))))] H := hP
  have hD : va_D A [(h0, .inr (8, [.null, .null, .ref qz1, .ref qz5])), (qz1, .inr (7, [.ref qz4, .int 0, .int 0, .int (-1), .int (-1), .int 0, .int 0, .int 0, .int 0])), (qz5, .inl (kz6, 7, .inr (.inr (.inr (.inr (fun _ => none))))))] := hD
  refine lv_aload_n hx hb dX8_init_24 rfl (lv_at hl 0 rfl) ?_
  refine lv_aload_n hx hb dX8_init_25 rfl (lv_at hl 1 rfl) ?_
  refine va_putF (D := (dC, dI)) (ci := 8) (v := .ref p1) (ty := .object "SagMemory$Valley") (C := RX8) (T := TX8) (N := 4) hx hb hts (fun w h => List.mem_cons_of_mem _ (List.mem_append_right _ (List.mem_append_right _ (List.mem_append_right _ (List.mem_append_left _ h))))) tyX8 tyX8_ok nmX8 hown hK hP hD hS 0 rfl rfl 0 (by decide) (hts (.fieldLink RX8 22 "SagMemory$Story" "valley" "LSagMemory$Valley;") (wl_mem 10 rfl)) (fun _ h9 => h9) rfl hin rfl (by decide +kernel) rfl rfl (Nat.le_of_ble_eq_true rfl) dX8_init_26 (fun H locs hP hD hS => ?_)
  have hP : va_P (dC, dI) vwCl [(h0, .inr (8, [.ref p1, .null, .ref qz1, .ref qz5])), (qz1, .inr (7, [.ref qz4, .int 0, .int 0, .int (-1), .int (-1), .int 0, .int 0, .int 0, .int 0])), (qz5, .inl (kz6, 7, .inr (.inr (.inr (.inr (fun _ => none))))))] H := hP
  have hD : va_D A [(h0, .inr (8, [.ref p1, .null, .ref qz1, .ref qz5])), (qz1, .inr (7, [.ref qz4, .int 0, .int 0, .int (-1), .int (-1), .int 0, .int 0, .int 0, .int 0])), (qz5, .inl (kz6, 7, .inr (.inr (.inr (.inr (fun _ => none))))))] := hD
  refine lv_aload_n hx hb dX8_init_29 rfl (lv_at hl 0 rfl) ?_
  refine lv_aload_n hx hb dX8_init_30 rfl (lv_at hl 2 rfl) ?_
  refine va_putF (D := (dC, dI)) (ci := 8) (v := .ref p2) (ty := .object "SagMemory$Plan") (C := RX8) (T := TX8) (N := 4) hx hb hts (fun w h => List.mem_cons_of_mem _ (List.mem_append_right _ (List.mem_append_right _ (List.mem_append_right _ (List.mem_append_left _ h))))) tyX8 tyX8_ok nmX8 hown hK hP hD hS 0 rfl rfl 1 (by decide) (hts (.fieldLink RX8 26 "SagMemory$Story" "plan" "LSagMemory$Plan;") (wl_mem 11 rfl)) (fun _ h9 => h9) rfl hin rfl (by decide +kernel) rfl rfl (Nat.le_of_ble_eq_true rfl) dX8_init_31 (fun H locs hP hD hS => ?_)
  have hP : va_P (dC, dI) vwCl [(h0, .inr (8, [.ref p1, .ref p2, .ref qz1, .ref qz5])), (qz1, .inr (7, [.ref qz4, .int 0, .int 0, .int (-1), .int (-1), .int 0, .int 0, .int 0, .int 0])), (qz5, .inl (kz6, 7, .inr (.inr (.inr (.inr (fun _ => none))))))] H := hP
  have hD : va_D A [(h0, .inr (8, [.ref p1, .ref p2, .ref qz1, .ref qz5])), (qz1, .inr (7, [.ref qz4, .int 0, .int 0, .int (-1), .int (-1), .int 0, .int 0, .int 0, .int 0])), (qz5, .inl (kz6, 7, .inr (.inr (.inr (.inr (fun _ => none))))))] := hD
  refine lv_iconst (v := 0) hx hb dX8_init_34 (by decide) ?_
  refine lv_istore_n (lv' := [(3, .int 0), (0, .ref h0), (1, .ref p1), (2, .ref p2)]) hx hb dX8_init_35 rfl hl (by decide) rfl (fun ls hl => ?_)
  refine lv_iload_n hx hb dX8_init_36 rfl (lv_at hl 0 rfl) ?_
  refine lv_bipush (v := 7) hx hb dX8_init_37 (by decide) ?_
  refine lv_icmp_ge (tgt := 61) hx hb dX8_init_39 (by decide) (fun cz7 => ?_) (fun cz7 => ?_)
  · skip
    exact absurd cz7 (by decide)
  · skip
    refine lv_aload_n hx hb dX8_init_42 rfl (lv_at hl 1 rfl) ?_
    refine va_get (D := (dC, dI)) (ci := 8) (v := .ref qz5) (C := RX8) (T := TX8) (N := 4) hx hb hts (fun w h => List.mem_cons_of_mem _ (List.mem_append_right _ (List.mem_append_right _ (List.mem_append_right _ (List.mem_append_left _ h))))) hown hK hP 0 rfl rfl 3 (by decide) (hts (.fieldLink RX8 18 "SagMemory$Story" "states" "[LSagMemory$State;") (wl_mem 9 rfl)) (fun _ h9 => h9) rfl dX8_init_43 ?_
    refine lv_iload_n hx hb dX8_init_46 rfl (lv_at hl 0 rfl) ?_
    refine va_new (ci := 7) (fs := [.null, .int 0, .int 0, .int 0, .int 0, .int 0, .int 0, .int 0, .int 0]) (C := RX7) (T := TX7) (N := 9) hx hb hts (fun w h => List.mem_cons_of_mem _ (List.mem_append_right _ (List.mem_append_left _ h))) tyX7 tyX7_ok hown (hts (.classLink RX8 9 RX7) (wl_mem 3 rfl)) (hts (.instantiable RX7 9) (wl_mem 4 rfl)) (hts (.initialized RX7) (wl_mem 5 rfl)) hK hP hD hS hA rfl (fun j hj => by rcases (show j = 0 ∨ j = 1 ∨ j = 2 ∨ j = 3 ∨ j = 4 ∨ j = 5 ∨ j = 6 ∨ j = 7 ∨ j = 8 by omega) with rfl | rfl | rfl | rfl | rfl | rfl | rfl | rfl | rfl <;> rfl) (Nat.le_of_ble_eq_true rfl) (Nat.le_of_ble_eq_true rfl) dX8_init_47 (fun qz8 H hP hD hS => ?_)
    have hP : va_P (dC, dI) vwCl [(h0, .inr (8, [.ref p1, .ref p2, .ref qz1, .ref qz5])), (qz1, .inr (7, [.ref qz4, .int 0, .int 0, .int (-1), .int (-1), .int 0, .int 0, .int 0, .int 0])), (qz5, .inl (kz6, 7, .inr (.inr (.inr (.inr (fun _ => none)))))), (qz8, .inr (7, [.null, .int 0, .int 0, .int 0, .int 0, .int 0, .int 0, .int 0, .int 0]))] H := hP
    have hD : va_D A [(h0, .inr (8, [.ref p1, .ref p2, .ref qz1, .ref qz5])), (qz1, .inr (7, [.ref qz4, .int 0, .int 0, .int (-1), .int (-1), .int 0, .int 0, .int 0, .int 0])), (qz5, .inl (kz6, 7, .inr (.inr (.inr (.inr (fun _ => none)))))), (qz8, .inr (7, [.null, .int 0, .int 0, .int 0, .int 0, .int 0, .int 0, .int 0, .int 0]))] := hD
    refine W.widen (k := 13) (n := 85) (Nat.le_of_ble_eq_true rfl) (Nat.le_of_ble_eq_true rfl) ?_
    refine lv_dup hx hb dX8_init_50 rfl ?_
    have hPc := hP.sub (ws' := [(qz8, .inr (7, [.null, .int 0, .int 0, .int 0, .int 0, .int 0, .int 0, .int 0, .int 0]))]) [3] rfl
    have hKc := hK.sub (tys' := []) [] rfl
    have hDc := hD.sub (ws' := [(qz8, .inr (7, [.null, .int 0, .int 0, .int 0, .int 0, .int 0, .int 0, .int 0, .int 0]))]) [3] (by decide) rfl
    have hFc := va_free (wc := [(qz8, .inr (7, [.null, .int 0, .int 0, .int 0, .int 0, .int 0, .int 0, .int 0, .int 0]))]) hD hS hA [3] rfl
    refine va_callv (va_runI (As := []) (rest := [.ref qz8, .int 0, .ref qz5]) ⟨hx, hb, hml, hown, hts⟩ (f_X7_init l dC dI H.size qz8) (cwI 0 hts (goodIn_sub (fun w h => List.mem_cons_of_mem _ (List.mem_append_right _ (List.mem_append_right _ (List.mem_append_left _ h)))) wkg_f_X7_init) rfl rfl rfl (hts (.initialized RX7) (wl_mem 5 rfl)) (hts (.methodLink RX8 11 yX7_init) (wl_mem 6 rfl)) (hts (.instanceMethod yX7_init) (wl_mem 7 rfl)) rfl (by decide +kernel) ⟨Nat.le_of_ble_eq_true rfl, Nat.le_of_ble_eq_true rfl⟩) ⟨fun a U g mk q => by obtain ⟨q0, q1, qN, qP, qK, qD⟩ := q; exact ⟨q0, q1, Nx_same rfl qN, qP, va_K.moved (u := U) (U := U.calling g mk a) (Vm.Alike.refl U.vm) qK, qD⟩, fun U hU hW => ⟨rfl, by rw [hU], Nx_warm hW hN, by rw [hU]; exact hPc, va_K.moved hW.alike hKc, hDc.weaken (fun _ _ _ _ => trivial)⟩⟩ rfl rfl hl.1 rfl (lv_room (Nat.le_of_ble_eq_true rfl)) dX8_init_51 ⟨Nat.le_of_ble_eq_true rfl, Nat.le_of_ble_eq_true rfl⟩) hS (fun q _ h => hFc q h) hFc (fun u t H1 locs ht hvm hz9 hB hz1 hk1 hS => ?_)
    obtain ⟨qz11, hP1, hK1, hD1⟩ := hB
    rw [ht] at hP1
    have hK1 := va_K.moved hvm.symm hK1
    obtain ⟨hP, hD⟩ := va_join (wr := [(h0, .inr (8, [.ref p1, .ref p2, .ref qz1, .ref qz5])), (qz1, .inr (7, [.ref qz4, .int 0, .int 0, .int (-1), .int (-1), .int 0, .int 0, .int 0, .int 0])), (qz5, .inl (kz6, 7, .inr (.inr (.inr (.inr (fun _ => none))))))]) (w1 := [(qz8, .inr (7, [.ref qz11, .int 0, .int 0, .int (-1), .int (-1), .int 0, .int 0, .int 0, .int 0]))]) hP hD [3] [0, 1, 2] rfl rfl (by decide) (by decide) hk1 hFc hP1 hD1
    have hK := (hK.sub (tys' := [(kz6, .object RX7)]) [0] rfl).app hK1
    generalize H1 = H at hP hS ⊢
    have hK : va_K (dC, dI) vwCl [(kz6, .object RX7)] s := hK
    have hP : va_P (dC, dI) vwCl [(h0, .inr (8, [.ref p1, .ref p2, .ref qz1, .ref qz5])), (qz1, .inr (7, [.ref qz4, .int 0, .int 0, .int (-1), .int (-1), .int 0, .int 0, .int 0, .int 0])), (qz5, .inl (kz6, 7, .inr (.inr (.inr (.inr (fun _ => none)))))), (qz8, .inr (7, [.ref qz11, .int 0, .int 0, .int (-1), .int (-1), .int 0, .int 0, .int 0, .int 0]))] H := hP
    have hD : va_D A [(h0, .inr (8, [.ref p1, .ref p2, .ref qz1, .ref qz5])), (qz1, .inr (7, [.ref qz4, .int 0, .int 0, .int (-1), .int (-1), .int 0, .int 0, .int 0, .int 0])), (qz5, .inl (kz6, 7, .inr (.inr (.inr (.inr (fun _ => none)))))), (qz8, .inr (7, [.ref qz11, .int 0, .int 0, .int (-1), .int (-1), .int 0, .int 0, .int 0, .int 0]))] := hD
    refine W.widen (k := 23) (n := 145) (Nat.le_of_ble_eq_true rfl) (Nat.le_of_ble_eq_true rfl) ?_
    refine va_astq hx hb hK hP hD hS 2 0 3 7 rfl rfl rfl rfl (by unfold vp_in; decide) dX8_init_54 (fun H locs hP hD hS => ?_)
    have hP : va_P (dC, dI) vwCl [(h0, .inr (8, [.ref p1, .ref p2, .ref qz1, .ref qz5])), (qz1, .inr (7, [.ref qz4, .int 0, .int 0, .int (-1), .int (-1), .int 0, .int 0, .int 0, .int 0])), (qz5, .inl (kz6, 7, .inr (.inr (.inr (.inr (va_up (fun _ => none) 0 (some qz8))))))), (qz8, .inr (7, [.ref qz11, .int 0, .int 0, .int (-1), .int (-1), .int 0, .int 0, .int 0, .int 0]))] H := hP
    have hD : va_D A [(h0, .inr (8, [.ref p1, .ref p2, .ref qz1, .ref qz5])), (qz1, .inr (7, [.ref qz4, .int 0, .int 0, .int (-1), .int (-1), .int 0, .int 0, .int 0, .int 0])), (qz5, .inl (kz6, 7, .inr (.inr (.inr (.inr (va_up (fun _ => none) 0 (some qz8))))))), (qz8, .inr (7, [.ref qz11, .int 0, .int 0, .int (-1), .int (-1), .int 0, .int 0, .int 0, .int 0]))] := hD
    refine lv_iinc (v := 1) (lv' := [(3, .int 1), (0, .ref h0), (1, .ref p1), (2, .ref p2)]) hx hb dX8_init_55 hl (k := 0) rfl (by decide) (by decide) rfl (fun ls hl => ?_)
    refine lv_goto (tgt := 36) hx hb dX8_init_58 (by decide) ?_
    refine lv_iload_n hx hb dX8_init_36 rfl (lv_at hl 0 rfl) ?_
    refine lv_bipush (v := 7) hx hb dX8_init_37 (by decide) ?_
    refine lv_icmp_ge (tgt := 61) hx hb dX8_init_39 (by decide) (fun cz12 => ?_) (fun cz12 => ?_)
    · skip
      exact absurd cz12 (by decide)
    · skip
      refine lv_aload_n hx hb dX8_init_42 rfl (lv_at hl 1 rfl) ?_
      refine va_get (D := (dC, dI)) (ci := 8) (v := .ref qz5) (C := RX8) (T := TX8) (N := 4) hx hb hts (fun w h => List.mem_cons_of_mem _ (List.mem_append_right _ (List.mem_append_right _ (List.mem_append_right _ (List.mem_append_left _ h))))) hown hK hP 0 rfl rfl 3 (by decide) (hts (.fieldLink RX8 18 "SagMemory$Story" "states" "[LSagMemory$State;") (wl_mem 9 rfl)) (fun _ h9 => h9) rfl dX8_init_43 ?_
      refine lv_iload_n hx hb dX8_init_46 rfl (lv_at hl 0 rfl) ?_
      refine va_new (ci := 7) (fs := [.null, .int 0, .int 0, .int 0, .int 0, .int 0, .int 0, .int 0, .int 0]) (C := RX7) (T := TX7) (N := 9) hx hb hts (fun w h => List.mem_cons_of_mem _ (List.mem_append_right _ (List.mem_append_left _ h))) tyX7 tyX7_ok hown (hts (.classLink RX8 9 RX7) (wl_mem 3 rfl)) (hts (.instantiable RX7 9) (wl_mem 4 rfl)) (hts (.initialized RX7) (wl_mem 5 rfl)) hK hP hD hS hA rfl (fun j hj => by rcases (show j = 0 ∨ j = 1 ∨ j = 2 ∨ j = 3 ∨ j = 4 ∨ j = 5 ∨ j = 6 ∨ j = 7 ∨ j = 8 by omega) with rfl | rfl | rfl | rfl | rfl | rfl | rfl | rfl | rfl <;> rfl) (Nat.le_of_ble_eq_true rfl) (Nat.le_of_ble_eq_true rfl) dX8_init_47 (fun qz13 H hP hD hS => ?_)
      have hP : va_P (dC, dI) vwCl [(h0, .inr (8, [.ref p1, .ref p2, .ref qz1, .ref qz5])), (qz1, .inr (7, [.ref qz4, .int 0, .int 0, .int (-1), .int (-1), .int 0, .int 0, .int 0, .int 0])), (qz5, .inl (kz6, 7, .inr (.inr (.inr (.inr (va_up (fun _ => none) 0 (some qz8))))))), (qz8, .inr (7, [.ref qz11, .int 0, .int 0, .int (-1), .int (-1), .int 0, .int 0, .int 0, .int 0])), (qz13, .inr (7, [.null, .int 0, .int 0, .int 0, .int 0, .int 0, .int 0, .int 0, .int 0]))] H := hP
      have hD : va_D A [(h0, .inr (8, [.ref p1, .ref p2, .ref qz1, .ref qz5])), (qz1, .inr (7, [.ref qz4, .int 0, .int 0, .int (-1), .int (-1), .int 0, .int 0, .int 0, .int 0])), (qz5, .inl (kz6, 7, .inr (.inr (.inr (.inr (va_up (fun _ => none) 0 (some qz8))))))), (qz8, .inr (7, [.ref qz11, .int 0, .int 0, .int (-1), .int (-1), .int 0, .int 0, .int 0, .int 0])), (qz13, .inr (7, [.null, .int 0, .int 0, .int 0, .int 0, .int 0, .int 0, .int 0, .int 0]))] := hD
      refine W.widen (k := 24) (n := 154) (Nat.le_of_ble_eq_true rfl) (Nat.le_of_ble_eq_true rfl) ?_
      refine lv_dup hx hb dX8_init_50 rfl ?_
      have hPc := hP.sub (ws' := [(qz13, .inr (7, [.null, .int 0, .int 0, .int 0, .int 0, .int 0, .int 0, .int 0, .int 0]))]) [4] rfl
      have hKc := hK.sub (tys' := []) [] rfl
      have hDc := hD.sub (ws' := [(qz13, .inr (7, [.null, .int 0, .int 0, .int 0, .int 0, .int 0, .int 0, .int 0, .int 0]))]) [4] (by decide) rfl
      have hFc := va_free (wc := [(qz13, .inr (7, [.null, .int 0, .int 0, .int 0, .int 0, .int 0, .int 0, .int 0, .int 0]))]) hD hS hA [4] rfl
      refine va_callv (va_runI (As := []) (rest := [.ref qz13, .int 1, .ref qz5]) ⟨hx, hb, hml, hown, hts⟩ (f_X7_init l dC dI H.size qz13) (cwI 0 hts (goodIn_sub (fun w h => List.mem_cons_of_mem _ (List.mem_append_right _ (List.mem_append_right _ (List.mem_append_left _ h)))) wkg_f_X7_init) rfl rfl rfl (hts (.initialized RX7) (wl_mem 5 rfl)) (hts (.methodLink RX8 11 yX7_init) (wl_mem 6 rfl)) (hts (.instanceMethod yX7_init) (wl_mem 7 rfl)) rfl (by decide +kernel) ⟨Nat.le_of_ble_eq_true rfl, Nat.le_of_ble_eq_true rfl⟩) ⟨fun a U g mk q => by obtain ⟨q0, q1, qN, qP, qK, qD⟩ := q; exact ⟨q0, q1, Nx_same rfl qN, qP, va_K.moved (u := U) (U := U.calling g mk a) (Vm.Alike.refl U.vm) qK, qD⟩, fun U hU hW => ⟨rfl, by rw [hU], Nx_warm hW hN, by rw [hU]; exact hPc, va_K.moved hW.alike hKc, hDc.weaken (fun _ _ _ _ => trivial)⟩⟩ rfl rfl hl.1 rfl (lv_room (Nat.le_of_ble_eq_true rfl)) dX8_init_51 ⟨Nat.le_of_ble_eq_true rfl, Nat.le_of_ble_eq_true rfl⟩) hS (fun q _ h => hFc q h) hFc (fun u t H1 locs ht hvm hz14 hB hz1 hk1 hS => ?_)
      obtain ⟨qz16, hP1, hK1, hD1⟩ := hB
      rw [ht] at hP1
      have hK1 := va_K.moved hvm.symm hK1
      obtain ⟨hP, hD⟩ := va_join (wr := [(h0, .inr (8, [.ref p1, .ref p2, .ref qz1, .ref qz5])), (qz1, .inr (7, [.ref qz4, .int 0, .int 0, .int (-1), .int (-1), .int 0, .int 0, .int 0, .int 0])), (qz5, .inl (kz6, 7, .inr (.inr (.inr (.inr (va_up (fun _ => none) 0 (some qz8))))))), (qz8, .inr (7, [.ref qz11, .int 0, .int 0, .int (-1), .int (-1), .int 0, .int 0, .int 0, .int 0]))]) (w1 := [(qz13, .inr (7, [.ref qz16, .int 0, .int 0, .int (-1), .int (-1), .int 0, .int 0, .int 0, .int 0]))]) hP hD [4] [0, 1, 2, 3] rfl rfl (by decide) (by decide) hk1 hFc hP1 hD1
      have hK := (hK.sub (tys' := [(kz6, .object RX7)]) [0] rfl).app hK1
      generalize H1 = H at hP hS ⊢
      have hK : va_K (dC, dI) vwCl [(kz6, .object RX7)] s := hK
      have hP : va_P (dC, dI) vwCl [(h0, .inr (8, [.ref p1, .ref p2, .ref qz1, .ref qz5])), (qz1, .inr (7, [.ref qz4, .int 0, .int 0, .int (-1), .int (-1), .int 0, .int 0, .int 0, .int 0])), (qz5, .inl (kz6, 7, .inr (.inr (.inr (.inr (va_up (fun _ => none) 0 (some qz8))))))), (qz8, .inr (7, [.ref qz11, .int 0, .int 0, .int (-1), .int (-1), .int 0, .int 0, .int 0, .int 0])), (qz13, .inr (7, [.ref qz16, .int 0, .int 0, .int (-1), .int (-1), .int 0, .int 0, .int 0, .int 0]))] H := hP
      have hD : va_D A [(h0, .inr (8, [.ref p1, .ref p2, .ref qz1, .ref qz5])), (qz1, .inr (7, [.ref qz4, .int 0, .int 0, .int (-1), .int (-1), .int 0, .int 0, .int 0, .int 0])), (qz5, .inl (kz6, 7, .inr (.inr (.inr (.inr (va_up (fun _ => none) 0 (some qz8))))))), (qz8, .inr (7, [.ref qz11, .int 0, .int 0, .int (-1), .int (-1), .int 0, .int 0, .int 0, .int 0])), (qz13, .inr (7, [.ref qz16, .int 0, .int 0, .int (-1), .int (-1), .int 0, .int 0, .int 0, .int 0]))] := hD
      refine W.widen (k := 34) (n := 214) (Nat.le_of_ble_eq_true rfl) (Nat.le_of_ble_eq_true rfl) ?_
      refine va_astq hx hb hK hP hD hS 2 0 4 7 rfl rfl rfl rfl (by unfold vp_in; decide) dX8_init_54 (fun H locs hP hD hS => ?_)
      have hP : va_P (dC, dI) vwCl [(h0, .inr (8, [.ref p1, .ref p2, .ref qz1, .ref qz5])), (qz1, .inr (7, [.ref qz4, .int 0, .int 0, .int (-1), .int (-1), .int 0, .int 0, .int 0, .int 0])), (qz5, .inl (kz6, 7, .inr (.inr (.inr (.inr (va_up (va_up (fun _ => none) 0 (some qz8)) 1 (some qz13))))))), (qz8, .inr (7, [.ref qz11, .int 0, .int 0, .int (-1), .int (-1), .int 0, .int 0, .int 0, .int 0])), (qz13, .inr (7, [.ref qz16, .int 0, .int 0, .int (-1), .int (-1), .int 0, .int 0, .int 0, .int 0]))] H := hP
      have hD : va_D A [(h0, .inr (8, [.ref p1, .ref p2, .ref qz1, .ref qz5])), (qz1, .inr (7, [.ref qz4, .int 0, .int 0, .int (-1), .int (-1), .int 0, .int 0, .int 0, .int 0])), (qz5, .inl (kz6, 7, .inr (.inr (.inr (.inr (va_up (va_up (fun _ => none) 0 (some qz8)) 1 (some qz13))))))), (qz8, .inr (7, [.ref qz11, .int 0, .int 0, .int (-1), .int (-1), .int 0, .int 0, .int 0, .int 0])), (qz13, .inr (7, [.ref qz16, .int 0, .int 0, .int (-1), .int (-1), .int 0, .int 0, .int 0, .int 0]))] := hD
      refine lv_iinc (v := 2) (lv' := [(3, .int 2), (0, .ref h0), (1, .ref p1), (2, .ref p2)]) hx hb dX8_init_55 hl (k := 0) rfl (by decide) (by decide) rfl (fun ls hl => ?_)
      refine lv_goto (tgt := 36) hx hb dX8_init_58 (by decide) ?_
      refine lv_iload_n hx hb dX8_init_36 rfl (lv_at hl 0 rfl) ?_
      refine lv_bipush (v := 7) hx hb dX8_init_37 (by decide) ?_
      refine lv_icmp_ge (tgt := 61) hx hb dX8_init_39 (by decide) (fun cz17 => ?_) (fun cz17 => ?_)
      · skip
        exact absurd cz17 (by decide)
      · skip
        refine lv_aload_n hx hb dX8_init_42 rfl (lv_at hl 1 rfl) ?_
        refine va_get (D := (dC, dI)) (ci := 8) (v := .ref qz5) (C := RX8) (T := TX8) (N := 4) hx hb hts (fun w h => List.mem_cons_of_mem _ (List.mem_append_right _ (List.mem_append_right _ (List.mem_append_right _ (List.mem_append_left _ h))))) hown hK hP 0 rfl rfl 3 (by decide) (hts (.fieldLink RX8 18 "SagMemory$Story" "states" "[LSagMemory$State;") (wl_mem 9 rfl)) (fun _ h9 => h9) rfl dX8_init_43 ?_
        refine lv_iload_n hx hb dX8_init_46 rfl (lv_at hl 0 rfl) ?_
        refine va_new (ci := 7) (fs := [.null, .int 0, .int 0, .int 0, .int 0, .int 0, .int 0, .int 0, .int 0]) (C := RX7) (T := TX7) (N := 9) hx hb hts (fun w h => List.mem_cons_of_mem _ (List.mem_append_right _ (List.mem_append_left _ h))) tyX7 tyX7_ok hown (hts (.classLink RX8 9 RX7) (wl_mem 3 rfl)) (hts (.instantiable RX7 9) (wl_mem 4 rfl)) (hts (.initialized RX7) (wl_mem 5 rfl)) hK hP hD hS hA rfl (fun j hj => by rcases (show j = 0 ∨ j = 1 ∨ j = 2 ∨ j = 3 ∨ j = 4 ∨ j = 5 ∨ j = 6 ∨ j = 7 ∨ j = 8 by omega) with rfl | rfl | rfl | rfl | rfl | rfl | rfl | rfl | rfl <;> rfl) (Nat.le_of_ble_eq_true rfl) (Nat.le_of_ble_eq_true rfl) dX8_init_47 (fun qz18 H hP hD hS => ?_)
        have hP : va_P (dC, dI) vwCl [(h0, .inr (8, [.ref p1, .ref p2, .ref qz1, .ref qz5])), (qz1, .inr (7, [.ref qz4, .int 0, .int 0, .int (-1), .int (-1), .int 0, .int 0, .int 0, .int 0])), (qz5, .inl (kz6, 7, .inr (.inr (.inr (.inr (va_up (va_up (fun _ => none) 0 (some qz8)) 1 (some qz13))))))), (qz8, .inr (7, [.ref qz11, .int 0, .int 0, .int (-1), .int (-1), .int 0, .int 0, .int 0, .int 0])), (qz13, .inr (7, [.ref qz16, .int 0, .int 0, .int (-1), .int (-1), .int 0, .int 0, .int 0, .int 0])), (qz18, .inr (7, [.null, .int 0, .int 0, .int 0, .int 0, .int 0, .int 0, .int 0, .int 0]))] H := hP
        have hD : va_D A [(h0, .inr (8, [.ref p1, .ref p2, .ref qz1, .ref qz5])), (qz1, .inr (7, [.ref qz4, .int 0, .int 0, .int (-1), .int (-1), .int 0, .int 0, .int 0, .int 0])), (qz5, .inl (kz6, 7, .inr (.inr (.inr (.inr (va_up (va_up (fun _ => none) 0 (some qz8)) 1 (some qz13))))))), (qz8, .inr (7, [.ref qz11, .int 0, .int 0, .int (-1), .int (-1), .int 0, .int 0, .int 0, .int 0])), (qz13, .inr (7, [.ref qz16, .int 0, .int 0, .int (-1), .int (-1), .int 0, .int 0, .int 0, .int 0])), (qz18, .inr (7, [.null, .int 0, .int 0, .int 0, .int 0, .int 0, .int 0, .int 0, .int 0]))] := hD
        refine W.widen (k := 35) (n := 223) (Nat.le_of_ble_eq_true rfl) (Nat.le_of_ble_eq_true rfl) ?_
        refine lv_dup hx hb dX8_init_50 rfl ?_
        have hPc := hP.sub (ws' := [(qz18, .inr (7, [.null, .int 0, .int 0, .int 0, .int 0, .int 0, .int 0, .int 0, .int 0]))]) [5] rfl
        have hKc := hK.sub (tys' := []) [] rfl
        have hDc := hD.sub (ws' := [(qz18, .inr (7, [.null, .int 0, .int 0, .int 0, .int 0, .int 0, .int 0, .int 0, .int 0]))]) [5] (by decide) rfl
        have hFc := va_free (wc := [(qz18, .inr (7, [.null, .int 0, .int 0, .int 0, .int 0, .int 0, .int 0, .int 0, .int 0]))]) hD hS hA [5] rfl
        refine va_callv (va_runI (As := []) (rest := [.ref qz18, .int 2, .ref qz5]) ⟨hx, hb, hml, hown, hts⟩ (f_X7_init l dC dI H.size qz18) (cwI 0 hts (goodIn_sub (fun w h => List.mem_cons_of_mem _ (List.mem_append_right _ (List.mem_append_right _ (List.mem_append_left _ h)))) wkg_f_X7_init) rfl rfl rfl (hts (.initialized RX7) (wl_mem 5 rfl)) (hts (.methodLink RX8 11 yX7_init) (wl_mem 6 rfl)) (hts (.instanceMethod yX7_init) (wl_mem 7 rfl)) rfl (by decide +kernel) ⟨Nat.le_of_ble_eq_true rfl, Nat.le_of_ble_eq_true rfl⟩) ⟨fun a U g mk q => by obtain ⟨q0, q1, qN, qP, qK, qD⟩ := q; exact ⟨q0, q1, Nx_same rfl qN, qP, va_K.moved (u := U) (U := U.calling g mk a) (Vm.Alike.refl U.vm) qK, qD⟩, fun U hU hW => ⟨rfl, by rw [hU], Nx_warm hW hN, by rw [hU]; exact hPc, va_K.moved hW.alike hKc, hDc.weaken (fun _ _ _ _ => trivial)⟩⟩ rfl rfl hl.1 rfl (lv_room (Nat.le_of_ble_eq_true rfl)) dX8_init_51 ⟨Nat.le_of_ble_eq_true rfl, Nat.le_of_ble_eq_true rfl⟩) hS (fun q _ h => hFc q h) hFc (fun u t H1 locs ht hvm hz19 hB hz1 hk1 hS => ?_)
        obtain ⟨qz21, hP1, hK1, hD1⟩ := hB
        rw [ht] at hP1
        have hK1 := va_K.moved hvm.symm hK1
        obtain ⟨hP, hD⟩ := va_join (wr := [(h0, .inr (8, [.ref p1, .ref p2, .ref qz1, .ref qz5])), (qz1, .inr (7, [.ref qz4, .int 0, .int 0, .int (-1), .int (-1), .int 0, .int 0, .int 0, .int 0])), (qz5, .inl (kz6, 7, .inr (.inr (.inr (.inr (va_up (va_up (fun _ => none) 0 (some qz8)) 1 (some qz13))))))), (qz8, .inr (7, [.ref qz11, .int 0, .int 0, .int (-1), .int (-1), .int 0, .int 0, .int 0, .int 0])), (qz13, .inr (7, [.ref qz16, .int 0, .int 0, .int (-1), .int (-1), .int 0, .int 0, .int 0, .int 0]))]) (w1 := [(qz18, .inr (7, [.ref qz21, .int 0, .int 0, .int (-1), .int (-1), .int 0, .int 0, .int 0, .int 0]))]) hP hD [5] [0, 1, 2, 3, 4] rfl rfl (by decide) (by decide) hk1 hFc hP1 hD1
        have hK := (hK.sub (tys' := [(kz6, .object RX7)]) [0] rfl).app hK1
        generalize H1 = H at hP hS ⊢
        have hK : va_K (dC, dI) vwCl [(kz6, .object RX7)] s := hK
        have hP : va_P (dC, dI) vwCl [(h0, .inr (8, [.ref p1, .ref p2, .ref qz1, .ref qz5])), (qz1, .inr (7, [.ref qz4, .int 0, .int 0, .int (-1), .int (-1), .int 0, .int 0, .int 0, .int 0])), (qz5, .inl (kz6, 7, .inr (.inr (.inr (.inr (va_up (va_up (fun _ => none) 0 (some qz8)) 1 (some qz13))))))), (qz8, .inr (7, [.ref qz11, .int 0, .int 0, .int (-1), .int (-1), .int 0, .int 0, .int 0, .int 0])), (qz13, .inr (7, [.ref qz16, .int 0, .int 0, .int (-1), .int (-1), .int 0, .int 0, .int 0, .int 0])), (qz18, .inr (7, [.ref qz21, .int 0, .int 0, .int (-1), .int (-1), .int 0, .int 0, .int 0, .int 0]))] H := hP
        have hD : va_D A [(h0, .inr (8, [.ref p1, .ref p2, .ref qz1, .ref qz5])), (qz1, .inr (7, [.ref qz4, .int 0, .int 0, .int (-1), .int (-1), .int 0, .int 0, .int 0, .int 0])), (qz5, .inl (kz6, 7, .inr (.inr (.inr (.inr (va_up (va_up (fun _ => none) 0 (some qz8)) 1 (some qz13))))))), (qz8, .inr (7, [.ref qz11, .int 0, .int 0, .int (-1), .int (-1), .int 0, .int 0, .int 0, .int 0])), (qz13, .inr (7, [.ref qz16, .int 0, .int 0, .int (-1), .int (-1), .int 0, .int 0, .int 0, .int 0])), (qz18, .inr (7, [.ref qz21, .int 0, .int 0, .int (-1), .int (-1), .int 0, .int 0, .int 0, .int 0]))] := hD
        refine W.widen (k := 45) (n := 283) (Nat.le_of_ble_eq_true rfl) (Nat.le_of_ble_eq_true rfl) ?_
        refine va_astq hx hb hK hP hD hS 2 0 5 7 rfl rfl rfl rfl (by unfold vp_in; decide) dX8_init_54 (fun H locs hP hD hS => ?_)
        have hP : va_P (dC, dI) vwCl [(h0, .inr (8, [.ref p1, .ref p2, .ref qz1, .ref qz5])), (qz1, .inr (7, [.ref qz4, .int 0, .int 0, .int (-1), .int (-1), .int 0, .int 0, .int 0, .int 0])), (qz5, .inl (kz6, 7, .inr (.inr (.inr (.inr (va_up (va_up (va_up (fun _ => none) 0 (some qz8)) 1 (some qz13)) 2 (some qz18))))))), (qz8, .inr (7, [.ref qz11, .int 0, .int 0, .int (-1), .int (-1), .int 0, .int 0, .int 0, .int 0])), (qz13, .inr (7, [.ref qz16, .int 0, .int 0, .int (-1), .int (-1), .int 0, .int 0, .int 0, .int 0])), (qz18, .inr (7, [.ref qz21, .int 0, .int 0, .int (-1), .int (-1), .int 0, .int 0, .int 0, .int 0]))] H := hP
        have hD : va_D A [(h0, .inr (8, [.ref p1, .ref p2, .ref qz1, .ref qz5])), (qz1, .inr (7, [.ref qz4, .int 0, .int 0, .int (-1), .int (-1), .int 0, .int 0, .int 0, .int 0])), (qz5, .inl (kz6, 7, .inr (.inr (.inr (.inr (va_up (va_up (va_up (fun _ => none) 0 (some qz8)) 1 (some qz13)) 2 (some qz18))))))), (qz8, .inr (7, [.ref qz11, .int 0, .int 0, .int (-1), .int (-1), .int 0, .int 0, .int 0, .int 0])), (qz13, .inr (7, [.ref qz16, .int 0, .int 0, .int (-1), .int (-1), .int 0, .int 0, .int 0, .int 0])), (qz18, .inr (7, [.ref qz21, .int 0, .int 0, .int (-1), .int (-1), .int 0, .int 0, .int 0, .int 0]))] := hD
        refine lv_iinc (v := 3) (lv' := [(3, .int 3), (0, .ref h0), (1, .ref p1), (2, .ref p2)]) hx hb dX8_init_55 hl (k := 0) rfl (by decide) (by decide) rfl (fun ls hl => ?_)
        refine lv_goto (tgt := 36) hx hb dX8_init_58 (by decide) ?_
        refine lv_iload_n hx hb dX8_init_36 rfl (lv_at hl 0 rfl) ?_
        refine lv_bipush (v := 7) hx hb dX8_init_37 (by decide) ?_
        refine lv_icmp_ge (tgt := 61) hx hb dX8_init_39 (by decide) (fun cz22 => ?_) (fun cz22 => ?_)
        · skip
          exact absurd cz22 (by decide)
        · skip
          refine lv_aload_n hx hb dX8_init_42 rfl (lv_at hl 1 rfl) ?_
          refine va_get (D := (dC, dI)) (ci := 8) (v := .ref qz5) (C := RX8) (T := TX8) (N := 4) hx hb hts (fun w h => List.mem_cons_of_mem _ (List.mem_append_right _ (List.mem_append_right _ (List.mem_append_right _ (List.mem_append_left _ h))))) hown hK hP 0 rfl rfl 3 (by decide) (hts (.fieldLink RX8 18 "SagMemory$Story" "states" "[LSagMemory$State;") (wl_mem 9 rfl)) (fun _ h9 => h9) rfl dX8_init_43 ?_
          refine lv_iload_n hx hb dX8_init_46 rfl (lv_at hl 0 rfl) ?_
          refine va_new (ci := 7) (fs := [.null, .int 0, .int 0, .int 0, .int 0, .int 0, .int 0, .int 0, .int 0]) (C := RX7) (T := TX7) (N := 9) hx hb hts (fun w h => List.mem_cons_of_mem _ (List.mem_append_right _ (List.mem_append_left _ h))) tyX7 tyX7_ok hown (hts (.classLink RX8 9 RX7) (wl_mem 3 rfl)) (hts (.instantiable RX7 9) (wl_mem 4 rfl)) (hts (.initialized RX7) (wl_mem 5 rfl)) hK hP hD hS hA rfl (fun j hj => by rcases (show j = 0 ∨ j = 1 ∨ j = 2 ∨ j = 3 ∨ j = 4 ∨ j = 5 ∨ j = 6 ∨ j = 7 ∨ j = 8 by omega) with rfl | rfl | rfl | rfl | rfl | rfl | rfl | rfl | rfl <;> rfl) (Nat.le_of_ble_eq_true rfl) (Nat.le_of_ble_eq_true rfl) dX8_init_47 (fun qz23 H hP hD hS => ?_)
          have hP : va_P (dC, dI) vwCl [(h0, .inr (8, [.ref p1, .ref p2, .ref qz1, .ref qz5])), (qz1, .inr (7, [.ref qz4, .int 0, .int 0, .int (-1), .int (-1), .int 0, .int 0, .int 0, .int 0])), (qz5, .inl (kz6, 7, .inr (.inr (.inr (.inr (va_up (va_up (va_up (fun _ => none) 0 (some qz8)) 1 (some qz13)) 2 (some qz18))))))), (qz8, .inr (7, [.ref qz11, .int 0, .int 0, .int (-1), .int (-1), .int 0, .int 0, .int 0, .int 0])), (qz13, .inr (7, [.ref qz16, .int 0, .int 0, .int (-1), .int (-1), .int 0, .int 0, .int 0, .int 0])), (qz18, .inr (7, [.ref qz21, .int 0, .int 0, .int (-1), .int (-1), .int 0, .int 0, .int 0, .int 0])), (qz23, .inr (7, [.null, .int 0, .int 0, .int 0, .int 0, .int 0, .int 0, .int 0, .int 0]))] H := hP
          have hD : va_D A [(h0, .inr (8, [.ref p1, .ref p2, .ref qz1, .ref qz5])), (qz1, .inr (7, [.ref qz4, .int 0, .int 0, .int (-1), .int (-1), .int 0, .int 0, .int 0, .int 0])), (qz5, .inl (kz6, 7, .inr (.inr (.inr (.inr (va_up (va_up (va_up (fun _ => none) 0 (some qz8)) 1 (some qz13)) 2 (some qz18))))))), (qz8, .inr (7, [.ref qz11, .int 0, .int 0, .int (-1), .int (-1), .int 0, .int 0, .int 0, .int 0])), (qz13, .inr (7, [.ref qz16, .int 0, .int 0, .int (-1), .int (-1), .int 0, .int 0, .int 0, .int 0])), (qz18, .inr (7, [.ref qz21, .int 0, .int 0, .int (-1), .int (-1), .int 0, .int 0, .int 0, .int 0])), (qz23, .inr (7, [.null, .int 0, .int 0, .int 0, .int 0, .int 0, .int 0, .int 0, .int 0]))] := hD
          refine W.widen (k := 46) (n := 292) (Nat.le_of_ble_eq_true rfl) (Nat.le_of_ble_eq_true rfl) ?_
          refine lv_dup hx hb dX8_init_50 rfl ?_
          have hPc := hP.sub (ws' := [(qz23, .inr (7, [.null, .int 0, .int 0, .int 0, .int 0, .int 0, .int 0, .int 0, .int 0]))]) [6] rfl
          have hKc := hK.sub (tys' := []) [] rfl
          have hDc := hD.sub (ws' := [(qz23, .inr (7, [.null, .int 0, .int 0, .int 0, .int 0, .int 0, .int 0, .int 0, .int 0]))]) [6] (by decide) rfl
          have hFc := va_free (wc := [(qz23, .inr (7, [.null, .int 0, .int 0, .int 0, .int 0, .int 0, .int 0, .int 0, .int 0]))]) hD hS hA [6] rfl
          refine va_callv (va_runI (As := []) (rest := [.ref qz23, .int 3, .ref qz5]) ⟨hx, hb, hml, hown, hts⟩ (f_X7_init l dC dI H.size qz23) (cwI 0 hts (goodIn_sub (fun w h => List.mem_cons_of_mem _ (List.mem_append_right _ (List.mem_append_right _ (List.mem_append_left _ h)))) wkg_f_X7_init) rfl rfl rfl (hts (.initialized RX7) (wl_mem 5 rfl)) (hts (.methodLink RX8 11 yX7_init) (wl_mem 6 rfl)) (hts (.instanceMethod yX7_init) (wl_mem 7 rfl)) rfl (by decide +kernel) ⟨Nat.le_of_ble_eq_true rfl, Nat.le_of_ble_eq_true rfl⟩) ⟨fun a U g mk q => by obtain ⟨q0, q1, qN, qP, qK, qD⟩ := q; exact ⟨q0, q1, Nx_same rfl qN, qP, va_K.moved (u := U) (U := U.calling g mk a) (Vm.Alike.refl U.vm) qK, qD⟩, fun U hU hW => ⟨rfl, by rw [hU], Nx_warm hW hN, by rw [hU]; exact hPc, va_K.moved hW.alike hKc, hDc.weaken (fun _ _ _ _ => trivial)⟩⟩ rfl rfl hl.1 rfl (lv_room (Nat.le_of_ble_eq_true rfl)) dX8_init_51 ⟨Nat.le_of_ble_eq_true rfl, Nat.le_of_ble_eq_true rfl⟩) hS (fun q _ h => hFc q h) hFc (fun u t H1 locs ht hvm hz24 hB hz1 hk1 hS => ?_)
          obtain ⟨qz26, hP1, hK1, hD1⟩ := hB
          rw [ht] at hP1
          have hK1 := va_K.moved hvm.symm hK1
          obtain ⟨hP, hD⟩ := va_join (wr := [(h0, .inr (8, [.ref p1, .ref p2, .ref qz1, .ref qz5])), (qz1, .inr (7, [.ref qz4, .int 0, .int 0, .int (-1), .int (-1), .int 0, .int 0, .int 0, .int 0])), (qz5, .inl (kz6, 7, .inr (.inr (.inr (.inr (va_up (va_up (va_up (fun _ => none) 0 (some qz8)) 1 (some qz13)) 2 (some qz18))))))), (qz8, .inr (7, [.ref qz11, .int 0, .int 0, .int (-1), .int (-1), .int 0, .int 0, .int 0, .int 0])), (qz13, .inr (7, [.ref qz16, .int 0, .int 0, .int (-1), .int (-1), .int 0, .int 0, .int 0, .int 0])), (qz18, .inr (7, [.ref qz21, .int 0, .int 0, .int (-1), .int (-1), .int 0, .int 0, .int 0, .int 0]))]) (w1 := [(qz23, .inr (7, [.ref qz26, .int 0, .int 0, .int (-1), .int (-1), .int 0, .int 0, .int 0, .int 0]))]) hP hD [6] [0, 1, 2, 3, 4, 5] rfl rfl (by decide) (by decide) hk1 hFc hP1 hD1
          have hK := (hK.sub (tys' := [(kz6, .object RX7)]) [0] rfl).app hK1
          generalize H1 = H at hP hS ⊢
          have hK : va_K (dC, dI) vwCl [(kz6, .object RX7)] s := hK
          have hP : va_P (dC, dI) vwCl [(h0, .inr (8, [.ref p1, .ref p2, .ref qz1, .ref qz5])), (qz1, .inr (7, [.ref qz4, .int 0, .int 0, .int (-1), .int (-1), .int 0, .int 0, .int 0, .int 0])), (qz5, .inl (kz6, 7, .inr (.inr (.inr (.inr (va_up (va_up (va_up (fun _ => none) 0 (some qz8)) 1 (some qz13)) 2 (some qz18))))))), (qz8, .inr (7, [.ref qz11, .int 0, .int 0, .int (-1), .int (-1), .int 0, .int 0, .int 0, .int 0])), (qz13, .inr (7, [.ref qz16, .int 0, .int 0, .int (-1), .int (-1), .int 0, .int 0, .int 0, .int 0])), (qz18, .inr (7, [.ref qz21, .int 0, .int 0, .int (-1), .int (-1), .int 0, .int 0, .int 0, .int 0])), (qz23, .inr (7, [.ref qz26, .int 0, .int 0, .int (-1), .int (-1), .int 0, .int 0, .int 0, .int 0]))] H := hP
          have hD : va_D A [(h0, .inr (8, [.ref p1, .ref p2, .ref qz1, .ref qz5])), (qz1, .inr (7, [.ref qz4, .int 0, .int 0, .int (-1), .int (-1), .int 0, .int 0, .int 0, .int 0])), (qz5, .inl (kz6, 7, .inr (.inr (.inr (.inr (va_up (va_up (va_up (fun _ => none) 0 (some qz8)) 1 (some qz13)) 2 (some qz18))))))), (qz8, .inr (7, [.ref qz11, .int 0, .int 0, .int (-1), .int (-1), .int 0, .int 0, .int 0, .int 0])), (qz13, .inr (7, [.ref qz16, .int 0, .int 0, .int (-1), .int (-1), .int 0, .int 0, .int 0, .int 0])), (qz18, .inr (7, [.ref qz21, .int 0, .int 0, .int (-1), .int (-1), .int 0, .int 0, .int 0, .int 0])), (qz23, .inr (7, [.ref qz26, .int 0, .int 0, .int (-1), .int (-1), .int 0, .int 0, .int 0, .int 0]))] := hD
          refine W.widen (k := 56) (n := 352) (Nat.le_of_ble_eq_true rfl) (Nat.le_of_ble_eq_true rfl) ?_
          refine va_astq hx hb hK hP hD hS 2 0 6 7 rfl rfl rfl rfl (by unfold vp_in; decide) dX8_init_54 (fun H locs hP hD hS => ?_)
          have hP : va_P (dC, dI) vwCl [(h0, .inr (8, [.ref p1, .ref p2, .ref qz1, .ref qz5])), (qz1, .inr (7, [.ref qz4, .int 0, .int 0, .int (-1), .int (-1), .int 0, .int 0, .int 0, .int 0])), (qz5, .inl (kz6, 7, .inr (.inr (.inr (.inr (va_up (va_up (va_up (va_up (fun _ => none) 0 (some qz8)) 1 (some qz13)) 2 (some qz18)) 3 (some qz23))))))), (qz8, .inr (7, [.ref qz11, .int 0, .int 0, .int (-1), .int (-1), .int 0, .int 0, .int 0, .int 0])), (qz13, .inr (7, [.ref qz16, .int 0, .int 0, .int (-1), .int (-1), .int 0, .int 0, .int 0, .int 0])), (qz18, .inr (7, [.ref qz21, .int 0, .int 0, .int (-1), .int (-1), .int 0, .int 0, .int 0, .int 0])), (qz23, .inr (7, [.ref qz26, .int 0, .int 0, .int (-1), .int (-1), .int 0, .int 0, .int 0, .int 0]))] H := hP
          have hD : va_D A [(h0, .inr (8, [.ref p1, .ref p2, .ref qz1, .ref qz5])), (qz1, .inr (7, [.ref qz4, .int 0, .int 0, .int (-1), .int (-1), .int 0, .int 0, .int 0, .int 0])), (qz5, .inl (kz6, 7, .inr (.inr (.inr (.inr (va_up (va_up (va_up (va_up (fun _ => none) 0 (some qz8)) 1 (some qz13)) 2 (some qz18)) 3 (some qz23))))))), (qz8, .inr (7, [.ref qz11, .int 0, .int 0, .int (-1), .int (-1), .int 0, .int 0, .int 0, .int 0])), (qz13, .inr (7, [.ref qz16, .int 0, .int 0, .int (-1), .int (-1), .int 0, .int 0, .int 0, .int 0])), (qz18, .inr (7, [.ref qz21, .int 0, .int 0, .int (-1), .int (-1), .int 0, .int 0, .int 0, .int 0])), (qz23, .inr (7, [.ref qz26, .int 0, .int 0, .int (-1), .int (-1), .int 0, .int 0, .int 0, .int 0]))] := hD
          refine lv_iinc (v := 4) (lv' := [(3, .int 4), (0, .ref h0), (1, .ref p1), (2, .ref p2)]) hx hb dX8_init_55 hl (k := 0) rfl (by decide) (by decide) rfl (fun ls hl => ?_)
          refine lv_goto (tgt := 36) hx hb dX8_init_58 (by decide) ?_
          refine lv_iload_n hx hb dX8_init_36 rfl (lv_at hl 0 rfl) ?_
          refine lv_bipush (v := 7) hx hb dX8_init_37 (by decide) ?_
          refine lv_icmp_ge (tgt := 61) hx hb dX8_init_39 (by decide) (fun cz27 => ?_) (fun cz27 => ?_)
          · skip
            exact absurd cz27 (by decide)
          · skip
            refine lv_aload_n hx hb dX8_init_42 rfl (lv_at hl 1 rfl) ?_
            refine va_get (D := (dC, dI)) (ci := 8) (v := .ref qz5) (C := RX8) (T := TX8) (N := 4) hx hb hts (fun w h => List.mem_cons_of_mem _ (List.mem_append_right _ (List.mem_append_right _ (List.mem_append_right _ (List.mem_append_left _ h))))) hown hK hP 0 rfl rfl 3 (by decide) (hts (.fieldLink RX8 18 "SagMemory$Story" "states" "[LSagMemory$State;") (wl_mem 9 rfl)) (fun _ h9 => h9) rfl dX8_init_43 ?_
            refine lv_iload_n hx hb dX8_init_46 rfl (lv_at hl 0 rfl) ?_
            refine va_new (ci := 7) (fs := [.null, .int 0, .int 0, .int 0, .int 0, .int 0, .int 0, .int 0, .int 0]) (C := RX7) (T := TX7) (N := 9) hx hb hts (fun w h => List.mem_cons_of_mem _ (List.mem_append_right _ (List.mem_append_left _ h))) tyX7 tyX7_ok hown (hts (.classLink RX8 9 RX7) (wl_mem 3 rfl)) (hts (.instantiable RX7 9) (wl_mem 4 rfl)) (hts (.initialized RX7) (wl_mem 5 rfl)) hK hP hD hS hA rfl (fun j hj => by rcases (show j = 0 ∨ j = 1 ∨ j = 2 ∨ j = 3 ∨ j = 4 ∨ j = 5 ∨ j = 6 ∨ j = 7 ∨ j = 8 by omega) with rfl | rfl | rfl | rfl | rfl | rfl | rfl | rfl | rfl <;> rfl) (Nat.le_of_ble_eq_true rfl) (Nat.le_of_ble_eq_true rfl) dX8_init_47 (fun qz28 H hP hD hS => ?_)
            have hP : va_P (dC, dI) vwCl [(h0, .inr (8, [.ref p1, .ref p2, .ref qz1, .ref qz5])), (qz1, .inr (7, [.ref qz4, .int 0, .int 0, .int (-1), .int (-1), .int 0, .int 0, .int 0, .int 0])), (qz5, .inl (kz6, 7, .inr (.inr (.inr (.inr (va_up (va_up (va_up (va_up (fun _ => none) 0 (some qz8)) 1 (some qz13)) 2 (some qz18)) 3 (some qz23))))))), (qz8, .inr (7, [.ref qz11, .int 0, .int 0, .int (-1), .int (-1), .int 0, .int 0, .int 0, .int 0])), (qz13, .inr (7, [.ref qz16, .int 0, .int 0, .int (-1), .int (-1), .int 0, .int 0, .int 0, .int 0])), (qz18, .inr (7, [.ref qz21, .int 0, .int 0, .int (-1), .int (-1), .int 0, .int 0, .int 0, .int 0])), (qz23, .inr (7, [.ref qz26, .int 0, .int 0, .int (-1), .int (-1), .int 0, .int 0, .int 0, .int 0])), (qz28, .inr (7, [.null, .int 0, .int 0, .int 0, .int 0, .int 0, .int 0, .int 0, .int 0]))] H := hP
            have hD : va_D A [(h0, .inr (8, [.ref p1, .ref p2, .ref qz1, .ref qz5])), (qz1, .inr (7, [.ref qz4, .int 0, .int 0, .int (-1), .int (-1), .int 0, .int 0, .int 0, .int 0])), (qz5, .inl (kz6, 7, .inr (.inr (.inr (.inr (va_up (va_up (va_up (va_up (fun _ => none) 0 (some qz8)) 1 (some qz13)) 2 (some qz18)) 3 (some qz23))))))), (qz8, .inr (7, [.ref qz11, .int 0, .int 0, .int (-1), .int (-1), .int 0, .int 0, .int 0, .int 0])), (qz13, .inr (7, [.ref qz16, .int 0, .int 0, .int (-1), .int (-1), .int 0, .int 0, .int 0, .int 0])), (qz18, .inr (7, [.ref qz21, .int 0, .int 0, .int (-1), .int (-1), .int 0, .int 0, .int 0, .int 0])), (qz23, .inr (7, [.ref qz26, .int 0, .int 0, .int (-1), .int (-1), .int 0, .int 0, .int 0, .int 0])), (qz28, .inr (7, [.null, .int 0, .int 0, .int 0, .int 0, .int 0, .int 0, .int 0, .int 0]))] := hD
            refine W.widen (k := 57) (n := 361) (Nat.le_of_ble_eq_true rfl) (Nat.le_of_ble_eq_true rfl) ?_
            refine lv_dup hx hb dX8_init_50 rfl ?_
            have hPc := hP.sub (ws' := [(qz28, .inr (7, [.null, .int 0, .int 0, .int 0, .int 0, .int 0, .int 0, .int 0, .int 0]))]) [7] rfl
            have hKc := hK.sub (tys' := []) [] rfl
            have hDc := hD.sub (ws' := [(qz28, .inr (7, [.null, .int 0, .int 0, .int 0, .int 0, .int 0, .int 0, .int 0, .int 0]))]) [7] (by decide) rfl
            have hFc := va_free (wc := [(qz28, .inr (7, [.null, .int 0, .int 0, .int 0, .int 0, .int 0, .int 0, .int 0, .int 0]))]) hD hS hA [7] rfl
            refine va_callv (va_runI (As := []) (rest := [.ref qz28, .int 4, .ref qz5]) ⟨hx, hb, hml, hown, hts⟩ (f_X7_init l dC dI H.size qz28) (cwI 0 hts (goodIn_sub (fun w h => List.mem_cons_of_mem _ (List.mem_append_right _ (List.mem_append_right _ (List.mem_append_left _ h)))) wkg_f_X7_init) rfl rfl rfl (hts (.initialized RX7) (wl_mem 5 rfl)) (hts (.methodLink RX8 11 yX7_init) (wl_mem 6 rfl)) (hts (.instanceMethod yX7_init) (wl_mem 7 rfl)) rfl (by decide +kernel) ⟨Nat.le_of_ble_eq_true rfl, Nat.le_of_ble_eq_true rfl⟩) ⟨fun a U g mk q => by obtain ⟨q0, q1, qN, qP, qK, qD⟩ := q; exact ⟨q0, q1, Nx_same rfl qN, qP, va_K.moved (u := U) (U := U.calling g mk a) (Vm.Alike.refl U.vm) qK, qD⟩, fun U hU hW => ⟨rfl, by rw [hU], Nx_warm hW hN, by rw [hU]; exact hPc, va_K.moved hW.alike hKc, hDc.weaken (fun _ _ _ _ => trivial)⟩⟩ rfl rfl hl.1 rfl (lv_room (Nat.le_of_ble_eq_true rfl)) dX8_init_51 ⟨Nat.le_of_ble_eq_true rfl, Nat.le_of_ble_eq_true rfl⟩) hS (fun q _ h => hFc q h) hFc (fun u t H1 locs ht hvm hz29 hB hz1 hk1 hS => ?_)
            obtain ⟨qz31, hP1, hK1, hD1⟩ := hB
            rw [ht] at hP1
            have hK1 := va_K.moved hvm.symm hK1
            obtain ⟨hP, hD⟩ := va_join (wr := [(h0, .inr (8, [.ref p1, .ref p2, .ref qz1, .ref qz5])), (qz1, .inr (7, [.ref qz4, .int 0, .int 0, .int (-1), .int (-1), .int 0, .int 0, .int 0, .int 0])), (qz5, .inl (kz6, 7, .inr (.inr (.inr (.inr (va_up (va_up (va_up (va_up (fun _ => none) 0 (some qz8)) 1 (some qz13)) 2 (some qz18)) 3 (some qz23))))))), (qz8, .inr (7, [.ref qz11, .int 0, .int 0, .int (-1), .int (-1), .int 0, .int 0, .int 0, .int 0])), (qz13, .inr (7, [.ref qz16, .int 0, .int 0, .int (-1), .int (-1), .int 0, .int 0, .int 0, .int 0])), (qz18, .inr (7, [.ref qz21, .int 0, .int 0, .int (-1), .int (-1), .int 0, .int 0, .int 0, .int 0])), (qz23, .inr (7, [.ref qz26, .int 0, .int 0, .int (-1), .int (-1), .int 0, .int 0, .int 0, .int 0]))]) (w1 := [(qz28, .inr (7, [.ref qz31, .int 0, .int 0, .int (-1), .int (-1), .int 0, .int 0, .int 0, .int 0]))]) hP hD [7] [0, 1, 2, 3, 4, 5, 6] rfl rfl (by decide) (by decide) hk1 hFc hP1 hD1
            have hK := (hK.sub (tys' := [(kz6, .object RX7)]) [0] rfl).app hK1
            generalize H1 = H at hP hS ⊢
            have hK : va_K (dC, dI) vwCl [(kz6, .object RX7)] s := hK
            have hP : va_P (dC, dI) vwCl [(h0, .inr (8, [.ref p1, .ref p2, .ref qz1, .ref qz5])), (qz1, .inr (7, [.ref qz4, .int 0, .int 0, .int (-1), .int (-1), .int 0, .int 0, .int 0, .int 0])), (qz5, .inl (kz6, 7, .inr (.inr (.inr (.inr (va_up (va_up (va_up (va_up (fun _ => none) 0 (some qz8)) 1 (some qz13)) 2 (some qz18)) 3 (some qz23))))))), (qz8, .inr (7, [.ref qz11, .int 0, .int 0, .int (-1), .int (-1), .int 0, .int 0, .int 0, .int 0])), (qz13, .inr (7, [.ref qz16, .int 0, .int 0, .int (-1), .int (-1), .int 0, .int 0, .int 0, .int 0])), (qz18, .inr (7, [.ref qz21, .int 0, .int 0, .int (-1), .int (-1), .int 0, .int 0, .int 0, .int 0])), (qz23, .inr (7, [.ref qz26, .int 0, .int 0, .int (-1), .int (-1), .int 0, .int 0, .int 0, .int 0])), (qz28, .inr (7, [.ref qz31, .int 0, .int 0, .int (-1), .int (-1), .int 0, .int 0, .int 0, .int 0]))] H := hP
            have hD : va_D A [(h0, .inr (8, [.ref p1, .ref p2, .ref qz1, .ref qz5])), (qz1, .inr (7, [.ref qz4, .int 0, .int 0, .int (-1), .int (-1), .int 0, .int 0, .int 0, .int 0])), (qz5, .inl (kz6, 7, .inr (.inr (.inr (.inr (va_up (va_up (va_up (va_up (fun _ => none) 0 (some qz8)) 1 (some qz13)) 2 (some qz18)) 3 (some qz23))))))), (qz8, .inr (7, [.ref qz11, .int 0, .int 0, .int (-1), .int (-1), .int 0, .int 0, .int 0, .int 0])), (qz13, .inr (7, [.ref qz16, .int 0, .int 0, .int (-1), .int (-1), .int 0, .int 0, .int 0, .int 0])), (qz18, .inr (7, [.ref qz21, .int 0, .int 0, .int (-1), .int (-1), .int 0, .int 0, .int 0, .int 0])), (qz23, .inr (7, [.ref qz26, .int 0, .int 0, .int (-1), .int (-1), .int 0, .int 0, .int 0, .int 0])), (qz28, .inr (7, [.ref qz31, .int 0, .int 0, .int (-1), .int (-1), .int 0, .int 0, .int 0, .int 0]))] := hD
            refine W.widen (k := 67) (n := 421) (Nat.le_of_ble_eq_true rfl) (Nat.le_of_ble_eq_true rfl) ?_
            refine va_astq hx hb hK hP hD hS 2 0 7 7 rfl rfl rfl rfl (by unfold vp_in; decide) dX8_init_54 (fun H locs hP hD hS => ?_)
            have hP : va_P (dC, dI) vwCl [(h0, .inr (8, [.ref p1, .ref p2, .ref qz1, .ref qz5])), (qz1, .inr (7, [.ref qz4, .int 0, .int 0, .int (-1), .int (-1), .int 0, .int 0, .int 0, .int 0])), (qz5, .inl (kz6, 7, .inr (.inr (.inr (.inr (va_up (va_up (va_up (va_up (va_up (fun _ => none) 0 (some qz8)) 1 (some qz13)) 2 (some qz18)) 3 (some qz23)) 4 (some qz28))))))), (qz8, .inr (7, [.ref qz11, .int 0, .int 0, .int (-1), .int (-1), .int 0, .int 0, .int 0, .int 0])), (qz13, .inr (7, [.ref qz16, .int 0, .int 0, .int (-1), .int (-1), .int 0, .int 0, .int 0, .int 0])), (qz18, .inr (7, [.ref qz21, .int 0, .int 0, .int (-1), .int (-1), .int 0, .int 0, .int 0, .int 0])), (qz23, .inr (7, [.ref qz26, .int 0, .int 0, .int (-1), .int (-1), .int 0, .int 0, .int 0, .int 0])), (qz28, .inr (7, [.ref qz31, .int 0, .int 0, .int (-1), .int (-1), .int 0, .int 0, .int 0, .int 0]))] H := hP
            have hD : va_D A [(h0, .inr (8, [.ref p1, .ref p2, .ref qz1, .ref qz5])), (qz1, .inr (7, [.ref qz4, .int 0, .int 0, .int (-1), .int (-1), .int 0, .int 0, .int 0, .int 0])), (qz5, .inl (kz6, 7, .inr (.inr (.inr (.inr (va_up (va_up (va_up (va_up (va_up (fun _ => none) 0 (some qz8)) 1 (some qz13)) 2 (some qz18)) 3 (some qz23)) 4 (some qz28))))))), (qz8, .inr (7, [.ref qz11, .int 0, .int 0, .int (-1), .int (-1), .int 0, .int 0, .int 0, .int 0])), (qz13, .inr (7, [.ref qz16, .int 0, .int 0, .int (-1), .int (-1), .int 0, .int 0, .int 0, .int 0])), (qz18, .inr (7, [.ref qz21, .int 0, .int 0, .int (-1), .int (-1), .int 0, .int 0, .int 0, .int 0])), (qz23, .inr (7, [.ref qz26, .int 0, .int 0, .int (-1), .int (-1), .int 0, .int 0, .int 0, .int 0])), (qz28, .inr (7, [.ref qz31, .int 0, .int 0, .int (-1), .int (-1), .int 0, .int 0, .int 0, .int 0]))] := hD
            refine lv_iinc (v := 5) (lv' := [(3, .int 5), (0, .ref h0), (1, .ref p1), (2, .ref p2)]) hx hb dX8_init_55 hl (k := 0) rfl (by decide) (by decide) rfl (fun ls hl => ?_)
            refine lv_goto (tgt := 36) hx hb dX8_init_58 (by decide) ?_
            refine lv_iload_n hx hb dX8_init_36 rfl (lv_at hl 0 rfl) ?_
            refine lv_bipush (v := 7) hx hb dX8_init_37 (by decide) ?_
            refine lv_icmp_ge (tgt := 61) hx hb dX8_init_39 (by decide) (fun cz32 => ?_) (fun cz32 => ?_)
            · skip
              exact absurd cz32 (by decide)
            · skip
              refine lv_aload_n hx hb dX8_init_42 rfl (lv_at hl 1 rfl) ?_
              refine va_get (D := (dC, dI)) (ci := 8) (v := .ref qz5) (C := RX8) (T := TX8) (N := 4) hx hb hts (fun w h => List.mem_cons_of_mem _ (List.mem_append_right _ (List.mem_append_right _ (List.mem_append_right _ (List.mem_append_left _ h))))) hown hK hP 0 rfl rfl 3 (by decide) (hts (.fieldLink RX8 18 "SagMemory$Story" "states" "[LSagMemory$State;") (wl_mem 9 rfl)) (fun _ h9 => h9) rfl dX8_init_43 ?_
              refine lv_iload_n hx hb dX8_init_46 rfl (lv_at hl 0 rfl) ?_
              refine va_new (ci := 7) (fs := [.null, .int 0, .int 0, .int 0, .int 0, .int 0, .int 0, .int 0, .int 0]) (C := RX7) (T := TX7) (N := 9) hx hb hts (fun w h => List.mem_cons_of_mem _ (List.mem_append_right _ (List.mem_append_left _ h))) tyX7 tyX7_ok hown (hts (.classLink RX8 9 RX7) (wl_mem 3 rfl)) (hts (.instantiable RX7 9) (wl_mem 4 rfl)) (hts (.initialized RX7) (wl_mem 5 rfl)) hK hP hD hS hA rfl (fun j hj => by rcases (show j = 0 ∨ j = 1 ∨ j = 2 ∨ j = 3 ∨ j = 4 ∨ j = 5 ∨ j = 6 ∨ j = 7 ∨ j = 8 by omega) with rfl | rfl | rfl | rfl | rfl | rfl | rfl | rfl | rfl <;> rfl) (Nat.le_of_ble_eq_true rfl) (Nat.le_of_ble_eq_true rfl) dX8_init_47 (fun qz33 H hP hD hS => ?_)
              have hP : va_P (dC, dI) vwCl [(h0, .inr (8, [.ref p1, .ref p2, .ref qz1, .ref qz5])), (qz1, .inr (7, [.ref qz4, .int 0, .int 0, .int (-1), .int (-1), .int 0, .int 0, .int 0, .int 0])), (qz5, .inl (kz6, 7, .inr (.inr (.inr (.inr (va_up (va_up (va_up (va_up (va_up (fun _ => none) 0 (some qz8)) 1 (some qz13)) 2 (some qz18)) 3 (some qz23)) 4 (some qz28))))))), (qz8, .inr (7, [.ref qz11, .int 0, .int 0, .int (-1), .int (-1), .int 0, .int 0, .int 0, .int 0])), (qz13, .inr (7, [.ref qz16, .int 0, .int 0, .int (-1), .int (-1), .int 0, .int 0, .int 0, .int 0])), (qz18, .inr (7, [.ref qz21, .int 0, .int 0, .int (-1), .int (-1), .int 0, .int 0, .int 0, .int 0])), (qz23, .inr (7, [.ref qz26, .int 0, .int 0, .int (-1), .int (-1), .int 0, .int 0, .int 0, .int 0])), (qz28, .inr (7, [.ref qz31, .int 0, .int 0, .int (-1), .int (-1), .int 0, .int 0, .int 0, .int 0])), (qz33, .inr (7, [.null, .int 0, .int 0, .int 0, .int 0, .int 0, .int 0, .int 0, .int 0]))] H := hP
              have hD : va_D A [(h0, .inr (8, [.ref p1, .ref p2, .ref qz1, .ref qz5])), (qz1, .inr (7, [.ref qz4, .int 0, .int 0, .int (-1), .int (-1), .int 0, .int 0, .int 0, .int 0])), (qz5, .inl (kz6, 7, .inr (.inr (.inr (.inr (va_up (va_up (va_up (va_up (va_up (fun _ => none) 0 (some qz8)) 1 (some qz13)) 2 (some qz18)) 3 (some qz23)) 4 (some qz28))))))), (qz8, .inr (7, [.ref qz11, .int 0, .int 0, .int (-1), .int (-1), .int 0, .int 0, .int 0, .int 0])), (qz13, .inr (7, [.ref qz16, .int 0, .int 0, .int (-1), .int (-1), .int 0, .int 0, .int 0, .int 0])), (qz18, .inr (7, [.ref qz21, .int 0, .int 0, .int (-1), .int (-1), .int 0, .int 0, .int 0, .int 0])), (qz23, .inr (7, [.ref qz26, .int 0, .int 0, .int (-1), .int (-1), .int 0, .int 0, .int 0, .int 0])), (qz28, .inr (7, [.ref qz31, .int 0, .int 0, .int (-1), .int (-1), .int 0, .int 0, .int 0, .int 0])), (qz33, .inr (7, [.null, .int 0, .int 0, .int 0, .int 0, .int 0, .int 0, .int 0, .int 0]))] := hD
              refine W.widen (k := 68) (n := 430) (Nat.le_of_ble_eq_true rfl) (Nat.le_of_ble_eq_true rfl) ?_
              refine lv_dup hx hb dX8_init_50 rfl ?_
              have hPc := hP.sub (ws' := [(qz33, .inr (7, [.null, .int 0, .int 0, .int 0, .int 0, .int 0, .int 0, .int 0, .int 0]))]) [8] rfl
              have hKc := hK.sub (tys' := []) [] rfl
              have hDc := hD.sub (ws' := [(qz33, .inr (7, [.null, .int 0, .int 0, .int 0, .int 0, .int 0, .int 0, .int 0, .int 0]))]) [8] (by decide) rfl
              have hFc := va_free (wc := [(qz33, .inr (7, [.null, .int 0, .int 0, .int 0, .int 0, .int 0, .int 0, .int 0, .int 0]))]) hD hS hA [8] rfl
              refine va_callv (va_runI (As := []) (rest := [.ref qz33, .int 5, .ref qz5]) ⟨hx, hb, hml, hown, hts⟩ (f_X7_init l dC dI H.size qz33) (cwI 0 hts (goodIn_sub (fun w h => List.mem_cons_of_mem _ (List.mem_append_right _ (List.mem_append_right _ (List.mem_append_left _ h)))) wkg_f_X7_init) rfl rfl rfl (hts (.initialized RX7) (wl_mem 5 rfl)) (hts (.methodLink RX8 11 yX7_init) (wl_mem 6 rfl)) (hts (.instanceMethod yX7_init) (wl_mem 7 rfl)) rfl (by decide +kernel) ⟨Nat.le_of_ble_eq_true rfl, Nat.le_of_ble_eq_true rfl⟩) ⟨fun a U g mk q => by obtain ⟨q0, q1, qN, qP, qK, qD⟩ := q; exact ⟨q0, q1, Nx_same rfl qN, qP, va_K.moved (u := U) (U := U.calling g mk a) (Vm.Alike.refl U.vm) qK, qD⟩, fun U hU hW => ⟨rfl, by rw [hU], Nx_warm hW hN, by rw [hU]; exact hPc, va_K.moved hW.alike hKc, hDc.weaken (fun _ _ _ _ => trivial)⟩⟩ rfl rfl hl.1 rfl (lv_room (Nat.le_of_ble_eq_true rfl)) dX8_init_51 ⟨Nat.le_of_ble_eq_true rfl, Nat.le_of_ble_eq_true rfl⟩) hS (fun q _ h => hFc q h) hFc (fun u t H1 locs ht hvm hz34 hB hz1 hk1 hS => ?_)
              obtain ⟨qz36, hP1, hK1, hD1⟩ := hB
              rw [ht] at hP1
              have hK1 := va_K.moved hvm.symm hK1
              obtain ⟨hP, hD⟩ := va_join (wr := [(h0, .inr (8, [.ref p1, .ref p2, .ref qz1, .ref qz5])), (qz1, .inr (7, [.ref qz4, .int 0, .int 0, .int (-1), .int (-1), .int 0, .int 0, .int 0, .int 0])), (qz5, .inl (kz6, 7, .inr (.inr (.inr (.inr (va_up (va_up (va_up (va_up (va_up (fun _ => none) 0 (some qz8)) 1 (some qz13)) 2 (some qz18)) 3 (some qz23)) 4 (some qz28))))))), (qz8, .inr (7, [.ref qz11, .int 0, .int 0, .int (-1), .int (-1), .int 0, .int 0, .int 0, .int 0])), (qz13, .inr (7, [.ref qz16, .int 0, .int 0, .int (-1), .int (-1), .int 0, .int 0, .int 0, .int 0])), (qz18, .inr (7, [.ref qz21, .int 0, .int 0, .int (-1), .int (-1), .int 0, .int 0, .int 0, .int 0])), (qz23, .inr (7, [.ref qz26, .int 0, .int 0, .int (-1), .int (-1), .int 0, .int 0, .int 0, .int 0])), (qz28, .inr (7, [.ref qz31, .int 0, .int 0, .int (-1), .int (-1), .int 0, .int 0, .int 0, .int 0]))]) (w1 := [(qz33, .inr (7, [.ref qz36, .int 0, .int 0, .int (-1), .int (-1), .int 0, .int 0, .int 0, .int 0]))]) hP hD [8] [0, 1, 2, 3, 4, 5, 6, 7] rfl rfl (by decide) (by decide) hk1 hFc hP1 hD1
              have hK := (hK.sub (tys' := [(kz6, .object RX7)]) [0] rfl).app hK1
              generalize H1 = H at hP hS ⊢
              have hK : va_K (dC, dI) vwCl [(kz6, .object RX7)] s := hK
              have hP : va_P (dC, dI) vwCl [(h0, .inr (8, [.ref p1, .ref p2, .ref qz1, .ref qz5])), (qz1, .inr (7, [.ref qz4, .int 0, .int 0, .int (-1), .int (-1), .int 0, .int 0, .int 0, .int 0])), (qz5, .inl (kz6, 7, .inr (.inr (.inr (.inr (va_up (va_up (va_up (va_up (va_up (fun _ => none) 0 (some qz8)) 1 (some qz13)) 2 (some qz18)) 3 (some qz23)) 4 (some qz28))))))), (qz8, .inr (7, [.ref qz11, .int 0, .int 0, .int (-1), .int (-1), .int 0, .int 0, .int 0, .int 0])), (qz13, .inr (7, [.ref qz16, .int 0, .int 0, .int (-1), .int (-1), .int 0, .int 0, .int 0, .int 0])), (qz18, .inr (7, [.ref qz21, .int 0, .int 0, .int (-1), .int (-1), .int 0, .int 0, .int 0, .int 0])), (qz23, .inr (7, [.ref qz26, .int 0, .int 0, .int (-1), .int (-1), .int 0, .int 0, .int 0, .int 0])), (qz28, .inr (7, [.ref qz31, .int 0, .int 0, .int (-1), .int (-1), .int 0, .int 0, .int 0, .int 0])), (qz33, .inr (7, [.ref qz36, .int 0, .int 0, .int (-1), .int (-1), .int 0, .int 0, .int 0, .int 0]))] H := hP
              have hD : va_D A [(h0, .inr (8, [.ref p1, .ref p2, .ref qz1, .ref qz5])), (qz1, .inr (7, [.ref qz4, .int 0, .int 0, .int (-1), .int (-1), .int 0, .int 0, .int 0, .int 0])), (qz5, .inl (kz6, 7, .inr (.inr (.inr (.inr (va_up (va_up (va_up (va_up (va_up (fun _ => none) 0 (some qz8)) 1 (some qz13)) 2 (some qz18)) 3 (some qz23)) 4 (some qz28))))))), (qz8, .inr (7, [.ref qz11, .int 0, .int 0, .int (-1), .int (-1), .int 0, .int 0, .int 0, .int 0])), (qz13, .inr (7, [.ref qz16, .int 0, .int 0, .int (-1), .int (-1), .int 0, .int 0, .int 0, .int 0])), (qz18, .inr (7, [.ref qz21, .int 0, .int 0, .int (-1), .int (-1), .int 0, .int 0, .int 0, .int 0])), (qz23, .inr (7, [.ref qz26, .int 0, .int 0, .int (-1), .int (-1), .int 0, .int 0, .int 0, .int 0])), (qz28, .inr (7, [.ref qz31, .int 0, .int 0, .int (-1), .int (-1), .int 0, .int 0, .int 0, .int 0])), (qz33, .inr (7, [.ref qz36, .int 0, .int 0, .int (-1), .int (-1), .int 0, .int 0, .int 0, .int 0]))] := hD
              refine W.widen (k := 78) (n := 490) (Nat.le_of_ble_eq_true rfl) (Nat.le_of_ble_eq_true rfl) ?_
              refine va_astq hx hb hK hP hD hS 2 0 8 7 rfl rfl rfl rfl (by unfold vp_in; decide) dX8_init_54 (fun H locs hP hD hS => ?_)
              have hP : va_P (dC, dI) vwCl [(h0, .inr (8, [.ref p1, .ref p2, .ref qz1, .ref qz5])), (qz1, .inr (7, [.ref qz4, .int 0, .int 0, .int (-1), .int (-1), .int 0, .int 0, .int 0, .int 0])), (qz5, .inl (kz6, 7, .inr (.inr (.inr (.inr (va_up (va_up (va_up (va_up (va_up (va_up (fun _ => none) 0 (some qz8)) 1 (some qz13)) 2 (some qz18)) 3 (some qz23)) 4 (some qz28)) 5 (some qz33))))))), (qz8, .inr (7, [.ref qz11, .int 0, .int 0, .int (-1), .int (-1), .int 0, .int 0, .int 0, .int 0])), (qz13, .inr (7, [.ref qz16, .int 0, .int 0, .int (-1), .int (-1), .int 0, .int 0, .int 0, .int 0])), (qz18, .inr (7, [.ref qz21, .int 0, .int 0, .int (-1), .int (-1), .int 0, .int 0, .int 0, .int 0])), (qz23, .inr (7, [.ref qz26, .int 0, .int 0, .int (-1), .int (-1), .int 0, .int 0, .int 0, .int 0])), (qz28, .inr (7, [.ref qz31, .int 0, .int 0, .int (-1), .int (-1), .int 0, .int 0, .int 0, .int 0])), (qz33, .inr (7, [.ref qz36, .int 0, .int 0, .int (-1), .int (-1), .int 0, .int 0, .int 0, .int 0]))] H := hP
              have hD : va_D A [(h0, .inr (8, [.ref p1, .ref p2, .ref qz1, .ref qz5])), (qz1, .inr (7, [.ref qz4, .int 0, .int 0, .int (-1), .int (-1), .int 0, .int 0, .int 0, .int 0])), (qz5, .inl (kz6, 7, .inr (.inr (.inr (.inr (va_up (va_up (va_up (va_up (va_up (va_up (fun _ => none) 0 (some qz8)) 1 (some qz13)) 2 (some qz18)) 3 (some qz23)) 4 (some qz28)) 5 (some qz33))))))), (qz8, .inr (7, [.ref qz11, .int 0, .int 0, .int (-1), .int (-1), .int 0, .int 0, .int 0, .int 0])), (qz13, .inr (7, [.ref qz16, .int 0, .int 0, .int (-1), .int (-1), .int 0, .int 0, .int 0, .int 0])), (qz18, .inr (7, [.ref qz21, .int 0, .int 0, .int (-1), .int (-1), .int 0, .int 0, .int 0, .int 0])), (qz23, .inr (7, [.ref qz26, .int 0, .int 0, .int (-1), .int (-1), .int 0, .int 0, .int 0, .int 0])), (qz28, .inr (7, [.ref qz31, .int 0, .int 0, .int (-1), .int (-1), .int 0, .int 0, .int 0, .int 0])), (qz33, .inr (7, [.ref qz36, .int 0, .int 0, .int (-1), .int (-1), .int 0, .int 0, .int 0, .int 0]))] := hD
              refine lv_iinc (v := 6) (lv' := [(3, .int 6), (0, .ref h0), (1, .ref p1), (2, .ref p2)]) hx hb dX8_init_55 hl (k := 0) rfl (by decide) (by decide) rfl (fun ls hl => ?_)
              refine lv_goto (tgt := 36) hx hb dX8_init_58 (by decide) ?_
              refine lv_iload_n hx hb dX8_init_36 rfl (lv_at hl 0 rfl) ?_
              refine lv_bipush (v := 7) hx hb dX8_init_37 (by decide) ?_
              refine lv_icmp_ge (tgt := 61) hx hb dX8_init_39 (by decide) (fun cz37 => ?_) (fun cz37 => ?_)
              · skip
                exact absurd cz37 (by decide)
              · skip
                refine lv_aload_n hx hb dX8_init_42 rfl (lv_at hl 1 rfl) ?_
                refine va_get (D := (dC, dI)) (ci := 8) (v := .ref qz5) (C := RX8) (T := TX8) (N := 4) hx hb hts (fun w h => List.mem_cons_of_mem _ (List.mem_append_right _ (List.mem_append_right _ (List.mem_append_right _ (List.mem_append_left _ h))))) hown hK hP 0 rfl rfl 3 (by decide) (hts (.fieldLink RX8 18 "SagMemory$Story" "states" "[LSagMemory$State;") (wl_mem 9 rfl)) (fun _ h9 => h9) rfl dX8_init_43 ?_
                refine lv_iload_n hx hb dX8_init_46 rfl (lv_at hl 0 rfl) ?_
                refine va_new (ci := 7) (fs := [.null, .int 0, .int 0, .int 0, .int 0, .int 0, .int 0, .int 0, .int 0]) (C := RX7) (T := TX7) (N := 9) hx hb hts (fun w h => List.mem_cons_of_mem _ (List.mem_append_right _ (List.mem_append_left _ h))) tyX7 tyX7_ok hown (hts (.classLink RX8 9 RX7) (wl_mem 3 rfl)) (hts (.instantiable RX7 9) (wl_mem 4 rfl)) (hts (.initialized RX7) (wl_mem 5 rfl)) hK hP hD hS hA rfl (fun j hj => by rcases (show j = 0 ∨ j = 1 ∨ j = 2 ∨ j = 3 ∨ j = 4 ∨ j = 5 ∨ j = 6 ∨ j = 7 ∨ j = 8 by omega) with rfl | rfl | rfl | rfl | rfl | rfl | rfl | rfl | rfl <;> rfl) (Nat.le_of_ble_eq_true rfl) (Nat.le_of_ble_eq_true rfl) dX8_init_47 (fun qz38 H hP hD hS => ?_)
                have hP : va_P (dC, dI) vwCl [(h0, .inr (8, [.ref p1, .ref p2, .ref qz1, .ref qz5])), (qz1, .inr (7, [.ref qz4, .int 0, .int 0, .int (-1), .int (-1), .int 0, .int 0, .int 0, .int 0])), (qz5, .inl (kz6, 7, .inr (.inr (.inr (.inr (va_up (va_up (va_up (va_up (va_up (va_up (fun _ => none) 0 (some qz8)) 1 (some qz13)) 2 (some qz18)) 3 (some qz23)) 4 (some qz28)) 5 (some qz33))))))), (qz8, .inr (7, [.ref qz11, .int 0, .int 0, .int (-1), .int (-1), .int 0, .int 0, .int 0, .int 0])), (qz13, .inr (7, [.ref qz16, .int 0, .int 0, .int (-1), .int (-1), .int 0, .int 0, .int 0, .int 0])), (qz18, .inr (7, [.ref qz21, .int 0, .int 0, .int (-1), .int (-1), .int 0, .int 0, .int 0, .int 0])), (qz23, .inr (7, [.ref qz26, .int 0, .int 0, .int (-1), .int (-1), .int 0, .int 0, .int 0, .int 0])), (qz28, .inr (7, [.ref qz31, .int 0, .int 0, .int (-1), .int (-1), .int 0, .int 0, .int 0, .int 0])), (qz33, .inr (7, [.ref qz36, .int 0, .int 0, .int (-1), .int (-1), .int 0, .int 0, .int 0, .int 0])), (qz38, .inr (7, [.null, .int 0, .int 0, .int 0, .int 0, .int 0, .int 0, .int 0, .int 0]))] H := hP
                have hD : va_D A [(h0, .inr (8, [.ref p1, .ref p2, .ref qz1, .ref qz5])), (qz1, .inr (7, [.ref qz4, .int 0, .int 0, .int (-1), .int (-1), .int 0, .int 0, .int 0, .int 0])), (qz5, .inl (kz6, 7, .inr (.inr (.inr (.inr (va_up (va_up (va_up (va_up (va_up (va_up (fun _ => none) 0 (some qz8)) 1 (some qz13)) 2 (some qz18)) 3 (some qz23)) 4 (some qz28)) 5 (some qz33))))))), (qz8, .inr (7, [.ref qz11, .int 0, .int 0, .int (-1), .int (-1), .int 0, .int 0, .int 0, .int 0])), (qz13, .inr (7, [.ref qz16, .int 0, .int 0, .int (-1), .int (-1), .int 0, .int 0, .int 0, .int 0])), (qz18, .inr (7, [.ref qz21, .int 0, .int 0, .int (-1), .int (-1), .int 0, .int 0, .int 0, .int 0])), (qz23, .inr (7, [.ref qz26, .int 0, .int 0, .int (-1), .int (-1), .int 0, .int 0, .int 0, .int 0])), (qz28, .inr (7, [.ref qz31, .int 0, .int 0, .int (-1), .int (-1), .int 0, .int 0, .int 0, .int 0])), (qz33, .inr (7, [.ref qz36, .int 0, .int 0, .int (-1), .int (-1), .int 0, .int 0, .int 0, .int 0])), (qz38, .inr (7, [.null, .int 0, .int 0, .int 0, .int 0, .int 0, .int 0, .int 0, .int 0]))] := hD
                refine W.widen (k := 79) (n := 499) (Nat.le_of_ble_eq_true rfl) (Nat.le_of_ble_eq_true rfl) ?_
                refine lv_dup hx hb dX8_init_50 rfl ?_
                have hPc := hP.sub (ws' := [(qz38, .inr (7, [.null, .int 0, .int 0, .int 0, .int 0, .int 0, .int 0, .int 0, .int 0]))]) [9] rfl
                have hKc := hK.sub (tys' := []) [] rfl
                have hDc := hD.sub (ws' := [(qz38, .inr (7, [.null, .int 0, .int 0, .int 0, .int 0, .int 0, .int 0, .int 0, .int 0]))]) [9] (by decide) rfl
                have hFc := va_free (wc := [(qz38, .inr (7, [.null, .int 0, .int 0, .int 0, .int 0, .int 0, .int 0, .int 0, .int 0]))]) hD hS hA [9] rfl
                refine va_callv (va_runI (As := []) (rest := [.ref qz38, .int 6, .ref qz5]) ⟨hx, hb, hml, hown, hts⟩ (f_X7_init l dC dI H.size qz38) (cwI 0 hts (goodIn_sub (fun w h => List.mem_cons_of_mem _ (List.mem_append_right _ (List.mem_append_right _ (List.mem_append_left _ h)))) wkg_f_X7_init) rfl rfl rfl (hts (.initialized RX7) (wl_mem 5 rfl)) (hts (.methodLink RX8 11 yX7_init) (wl_mem 6 rfl)) (hts (.instanceMethod yX7_init) (wl_mem 7 rfl)) rfl (by decide +kernel) ⟨Nat.le_of_ble_eq_true rfl, Nat.le_of_ble_eq_true rfl⟩) ⟨fun a U g mk q => by obtain ⟨q0, q1, qN, qP, qK, qD⟩ := q; exact ⟨q0, q1, Nx_same rfl qN, qP, va_K.moved (u := U) (U := U.calling g mk a) (Vm.Alike.refl U.vm) qK, qD⟩, fun U hU hW => ⟨rfl, by rw [hU], Nx_warm hW hN, by rw [hU]; exact hPc, va_K.moved hW.alike hKc, hDc.weaken (fun _ _ _ _ => trivial)⟩⟩ rfl rfl hl.1 rfl (lv_room (Nat.le_of_ble_eq_true rfl)) dX8_init_51 ⟨Nat.le_of_ble_eq_true rfl, Nat.le_of_ble_eq_true rfl⟩) hS (fun q _ h => hFc q h) hFc (fun u t H1 locs ht hvm hz39 hB hz1 hk1 hS => ?_)
                obtain ⟨qz41, hP1, hK1, hD1⟩ := hB
                rw [ht] at hP1
                have hK1 := va_K.moved hvm.symm hK1
                obtain ⟨hP, hD⟩ := va_join (wr := [(h0, .inr (8, [.ref p1, .ref p2, .ref qz1, .ref qz5])), (qz1, .inr (7, [.ref qz4, .int 0, .int 0, .int (-1), .int (-1), .int 0, .int 0, .int 0, .int 0])), (qz5, .inl (kz6, 7, .inr (.inr (.inr (.inr (va_up (va_up (va_up (va_up (va_up (va_up (fun _ => none) 0 (some qz8)) 1 (some qz13)) 2 (some qz18)) 3 (some qz23)) 4 (some qz28)) 5 (some qz33))))))), (qz8, .inr (7, [.ref qz11, .int 0, .int 0, .int (-1), .int (-1), .int 0, .int 0, .int 0, .int 0])), (qz13, .inr (7, [.ref qz16, .int 0, .int 0, .int (-1), .int (-1), .int 0, .int 0, .int 0, .int 0])), (qz18, .inr (7, [.ref qz21, .int 0, .int 0, .int (-1), .int (-1), .int 0, .int 0, .int 0, .int 0])), (qz23, .inr (7, [.ref qz26, .int 0, .int 0, .int (-1), .int (-1), .int 0, .int 0, .int 0, .int 0])), (qz28, .inr (7, [.ref qz31, .int 0, .int 0, .int (-1), .int (-1), .int 0, .int 0, .int 0, .int 0])), (qz33, .inr (7, [.ref qz36, .int 0, .int 0, .int (-1), .int (-1), .int 0, .int 0, .int 0, .int 0]))]) (w1 := [(qz38, .inr (7, [.ref qz41, .int 0, .int 0, .int (-1), .int (-1), .int 0, .int 0, .int 0, .int 0]))]) hP hD [9] [0, 1, 2, 3, 4, 5, 6, 7, 8] rfl rfl (by decide) (by decide) hk1 hFc hP1 hD1
                have hK := (hK.sub (tys' := [(kz6, .object RX7)]) [0] rfl).app hK1
                generalize H1 = H at hP hS ⊢
                have hK : va_K (dC, dI) vwCl [(kz6, .object RX7)] s := hK
                have hP : va_P (dC, dI) vwCl [(h0, .inr (8, [.ref p1, .ref p2, .ref qz1, .ref qz5])), (qz1, .inr (7, [.ref qz4, .int 0, .int 0, .int (-1), .int (-1), .int 0, .int 0, .int 0, .int 0])), (qz5, .inl (kz6, 7, .inr (.inr (.inr (.inr (va_up (va_up (va_up (va_up (va_up (va_up (fun _ => none) 0 (some qz8)) 1 (some qz13)) 2 (some qz18)) 3 (some qz23)) 4 (some qz28)) 5 (some qz33))))))), (qz8, .inr (7, [.ref qz11, .int 0, .int 0, .int (-1), .int (-1), .int 0, .int 0, .int 0, .int 0])), (qz13, .inr (7, [.ref qz16, .int 0, .int 0, .int (-1), .int (-1), .int 0, .int 0, .int 0, .int 0])), (qz18, .inr (7, [.ref qz21, .int 0, .int 0, .int (-1), .int (-1), .int 0, .int 0, .int 0, .int 0])), (qz23, .inr (7, [.ref qz26, .int 0, .int 0, .int (-1), .int (-1), .int 0, .int 0, .int 0, .int 0])), (qz28, .inr (7, [.ref qz31, .int 0, .int 0, .int (-1), .int (-1), .int 0, .int 0, .int 0, .int 0])), (qz33, .inr (7, [.ref qz36, .int 0, .int 0, .int (-1), .int (-1), .int 0, .int 0, .int 0, .int 0])), (qz38, .inr (7, [.ref qz41, .int 0, .int 0, .int (-1), .int (-1), .int 0, .int 0, .int 0, .int 0]))] H := hP
                have hD : va_D A [(h0, .inr (8, [.ref p1, .ref p2, .ref qz1, .ref qz5])), (qz1, .inr (7, [.ref qz4, .int 0, .int 0, .int (-1), .int (-1), .int 0, .int 0, .int 0, .int 0])), (qz5, .inl (kz6, 7, .inr (.inr (.inr (.inr (va_up (va_up (va_up (va_up (va_up (va_up (fun _ => none) 0 (some qz8)) 1 (some qz13)) 2 (some qz18)) 3 (some qz23)) 4 (some qz28)) 5 (some qz33))))))), (qz8, .inr (7, [.ref qz11, .int 0, .int 0, .int (-1), .int (-1), .int 0, .int 0, .int 0, .int 0])), (qz13, .inr (7, [.ref qz16, .int 0, .int 0, .int (-1), .int (-1), .int 0, .int 0, .int 0, .int 0])), (qz18, .inr (7, [.ref qz21, .int 0, .int 0, .int (-1), .int (-1), .int 0, .int 0, .int 0, .int 0])), (qz23, .inr (7, [.ref qz26, .int 0, .int 0, .int (-1), .int (-1), .int 0, .int 0, .int 0, .int 0])), (qz28, .inr (7, [.ref qz31, .int 0, .int 0, .int (-1), .int (-1), .int 0, .int 0, .int 0, .int 0])), (qz33, .inr (7, [.ref qz36, .int 0, .int 0, .int (-1), .int (-1), .int 0, .int 0, .int 0, .int 0])), (qz38, .inr (7, [.ref qz41, .int 0, .int 0, .int (-1), .int (-1), .int 0, .int 0, .int 0, .int 0]))] := hD
                refine W.widen (k := 89) (n := 559) (Nat.le_of_ble_eq_true rfl) (Nat.le_of_ble_eq_true rfl) ?_
                refine va_astq hx hb hK hP hD hS 2 0 9 7 rfl rfl rfl rfl (by unfold vp_in; decide) dX8_init_54 (fun H locs hP hD hS => ?_)
                have hP : va_P (dC, dI) vwCl [(h0, .inr (8, [.ref p1, .ref p2, .ref qz1, .ref qz5])), (qz1, .inr (7, [.ref qz4, .int 0, .int 0, .int (-1), .int (-1), .int 0, .int 0, .int 0, .int 0])), (qz5, .inl (kz6, 7, .inr (.inr (.inr (.inr (va_up (va_up (va_up (va_up (va_up (va_up (va_up (fun _ => none) 0 (some qz8)) 1 (some qz13)) 2 (some qz18)) 3 (some qz23)) 4 (some qz28)) 5 (some qz33)) 6 (some qz38))))))), (qz8, .inr (7, [.ref qz11, .int 0, .int 0, .int (-1), .int (-1), .int 0, .int 0, .int 0, .int 0])), (qz13, .inr (7, [.ref qz16, .int 0, .int 0, .int (-1), .int (-1), .int 0, .int 0, .int 0, .int 0])), (qz18, .inr (7, [.ref qz21, .int 0, .int 0, .int (-1), .int (-1), .int 0, .int 0, .int 0, .int 0])), (qz23, .inr (7, [.ref qz26, .int 0, .int 0, .int (-1), .int (-1), .int 0, .int 0, .int 0, .int 0])), (qz28, .inr (7, [.ref qz31, .int 0, .int 0, .int (-1), .int (-1), .int 0, .int 0, .int 0, .int 0])), (qz33, .inr (7, [.ref qz36, .int 0, .int 0, .int (-1), .int (-1), .int 0, .int 0, .int 0, .int 0])), (qz38, .inr (7, [.ref qz41, .int 0, .int 0, .int (-1), .int (-1), .int 0, .int 0, .int 0, .int 0]))] H := hP
                have hD : va_D A [(h0, .inr (8, [.ref p1, .ref p2, .ref qz1, .ref qz5])), (qz1, .inr (7, [.ref qz4, .int 0, .int 0, .int (-1), .int (-1), .int 0, .int 0, .int 0, .int 0])), (qz5, .inl (kz6, 7, .inr (.inr (.inr (.inr (va_up (va_up (va_up (va_up (va_up (va_up (va_up (fun _ => none) 0 (some qz8)) 1 (some qz13)) 2 (some qz18)) 3 (some qz23)) 4 (some qz28)) 5 (some qz33)) 6 (some qz38))))))), (qz8, .inr (7, [.ref qz11, .int 0, .int 0, .int (-1), .int (-1), .int 0, .int 0, .int 0, .int 0])), (qz13, .inr (7, [.ref qz16, .int 0, .int 0, .int (-1), .int (-1), .int 0, .int 0, .int 0, .int 0])), (qz18, .inr (7, [.ref qz21, .int 0, .int 0, .int (-1), .int (-1), .int 0, .int 0, .int 0, .int 0])), (qz23, .inr (7, [.ref qz26, .int 0, .int 0, .int (-1), .int (-1), .int 0, .int 0, .int 0, .int 0])), (qz28, .inr (7, [.ref qz31, .int 0, .int 0, .int (-1), .int (-1), .int 0, .int 0, .int 0, .int 0])), (qz33, .inr (7, [.ref qz36, .int 0, .int 0, .int (-1), .int (-1), .int 0, .int 0, .int 0, .int 0])), (qz38, .inr (7, [.ref qz41, .int 0, .int 0, .int (-1), .int (-1), .int 0, .int 0, .int 0, .int 0]))] := hD
                refine lv_iinc (v := 7) (lv' := [(3, .int 7), (0, .ref h0), (1, .ref p1), (2, .ref p2)]) hx hb dX8_init_55 hl (k := 0) rfl (by decide) (by decide) rfl (fun ls hl => ?_)
                refine lv_goto (tgt := 36) hx hb dX8_init_58 (by decide) ?_
                refine lv_iload_n hx hb dX8_init_36 rfl (lv_at hl 0 rfl) ?_
                refine lv_bipush (v := 7) hx hb dX8_init_37 (by decide) ?_
                refine lv_icmp_ge (tgt := 61) hx hb dX8_init_39 (by decide) (fun cz42 => ?_) (fun cz42 => ?_)
                · skip
                  refine W.widen (k := 89) (n := 559) (Nat.le_of_ble_eq_true rfl) (Nat.le_of_ble_eq_true rfl) ?_
                  have hP9 := hP.sub (ws' := [(h0, .inr (8, [.ref p1, .ref p2, .ref qz1, .ref qz5]))]) [0] rfl
                  have hD9 := hD.sub (ws' := [(h0, .inr (8, [.ref p1, .ref p2, .ref qz1, .ref qz5]))]) [0] (by decide) rfl
                  have hK9 := hK.sub (tys' := []) [] rfl
                  exact W.vret hx hb hr (fun t ht hW => ⟨⟨(), rfl, trivial, qz1, qz5, by rw [ht]; exact hP9, va_K.moved hW.alike hK9, hD9⟩, hS.F ht⟩) hS.2.2 dX8_init_61
                · skip
                  exact absurd cz42 (by decide)
def wk_f_X9_init : List Cond := .code yX9_init cX9_init 1 none :: ([.methodLink RX9 3 objectInit, .instanceMethod objectInit, .code objectInit ⟨#[0xb1]⟩ 1 none, .arrayClass .int, .fieldLink RX9 9 "SagMemory$Tape" "bytes" "[I", .classLink RX9 15 RX10, .instantiable RX10 16, .initialized RX10, .instanceMethod yX10_init, .fieldLink RX9 18 "SagMemory$Tape" "read" "LSagMemory$Valley;", .fieldLink RX9 22 "SagMemory$Tape" "place" "I"] ++ (wsX90 ++ (wsX100 ++ (wk_f_X10_init ++ []))))
theorem wkg_f_X9_init : wk_f_X9_init.all goodWord = true := by decide +kernel
set_option maxHeartbeats 4000000 in
set_option maxRecDepth 100000 in
theorem f_X9_init (l : Launch) (dC : Nat → ClassId) (dI : Nat → Nat → Nat) (sz : Nat) (h0 : Nat) : Met l yX9_init wk_f_X9_init ({ frames := 2, cells := 9, slots := 751, locals := 44 }) (va_Pc [.ref h0] (fun U => U.heap.size = sz ∧ Nx U ∧ va_P (dC, dI) vwCl [(h0, .inr (9, [.null, .null, .int 0, .int 0, .int 0, .int 0, .int 0, .int 0, .int 0, .int 0]))] U.heap ∧ va_K (dC, dI) vwCl [] U ∧ va_D (fun _ => True) [(h0, .inr (9, [.null, .null, .int 0, .int 0, .int 0, .int 0, .int 0, .int 0, .int 0, .int 0]))])) (va_Qv (fun _ : Unit => True) (fun (_ : Unit) (t : State) => ∃ (yb : Nat) (rd : Nat) (kb : ClassId) (v0 : Nat) (v1 : Nat) (v2 : Nat) (v3 : Nat) (v4 : Nat) (v5 : Nat) (v6 : Nat) (k0 : ClassId) (k1 : ClassId) (k2 : ClassId) (k3 : ClassId) (k4 : ClassId) (k5 : ClassId) (k6 : ClassId), va_P (dC, dI) vwCl [(h0, .inr (9, [.ref yb, .ref rd, .int 0, .int 0, .int (-1), .int 0, .int 0, .int 0, .int 0, .int 0])), (yb, .inl (kb, 700, .inl (fun _ => 0))), (rd, .inr (10, [.ref v0, .ref v1, .ref v2, .ref v3, .ref v4, .ref v5, .ref v6, .int 0, .int 0, .int 0, .int 0, .int 0, .int 0, .int 0, .int 0, .int 0])), (v0, .inl (k0, 3, .inl (fun _ => 0))), (v1, .inl (k1, 3, .inl (fun _ => 0))), (v2, .inl (k2, 7, .inl (fun _ => 0))), (v3, .inl (k3, 7, .inl (fun _ => 0))), (v4, .inl (k4, 5, .inl (fun _ => 0))), (v5, .inl (k5, 5, .inl (fun _ => 0))), (v6, .inl (k6, 5, .inl (fun _ => 0)))] t.heap ∧ va_K (dC, dI) vwCl [(kb, .int), (k0, .int), (k1, .int), (k2, .int), (k3, .int), (k4, .int), (k5, .int), (k6, .int)] t ∧ va_D (va_A [(h0, .inr (9, [.null, .null, .int 0, .int 0, .int 0, .int 0, .int 0, .int 0, .int 0, .int 0]))] sz) [(h0, .inr (9, [.ref yb, .ref rd, .int 0, .int 0, .int (-1), .int 0, .int 0, .int 0, .int 0, .int 0])), (yb, .inl (kb, 700, .inl (fun _ => 0))), (rd, .inr (10, [.ref v0, .ref v1, .ref v2, .ref v3, .ref v4, .ref v5, .ref v6, .int 0, .int 0, .int 0, .int 0, .int 0, .int 0, .int 0, .int 0, .int 0])), (v0, .inl (k0, 3, .inl (fun _ => 0))), (v1, .inl (k1, 3, .inl (fun _ => 0))), (v2, .inl (k2, 7, .inl (fun _ => 0))), (v3, .inl (k3, 7, .inl (fun _ => 0))), (v4, .inl (k4, 5, .inl (fun _ => 0))), (v5, .inl (k5, 5, .inl (fun _ => 0))), (v6, .inl (k6, 5, .inl (fun _ => 0)))]) (va_A [(h0, .inr (9, [.null, .null, .int 0, .int 0, .int 0, .int 0, .int 0, .int 0, .int 0, .int 0]))] sz)) 9 751 (va_A [(h0, .inr (9, [.null, .null, .int 0, .int 0, .int 0, .int 0, .int 0, .int 0, .int 0, .int 0]))] sz) := by
  refine Met.ofW (cc := cX9_init) (maxL := 1) (ret := none) (by decide) rfl ?_
  intro p e s m args below meth c s₁ B hml hv
  obtain ⟨rfl, hsz, hN, hP, hK, hD0⟩ := hv
  have hx := B.exec
  have hb := B.bytes
  have hr := B.returns
  have hts := atoms_spec (ws := wk_f_X9_init) B.pre
  have hown : s.vm.findClass RX9 = some m.cls := findClass_of_methodNamed B.named
  have hlocks := B.notSynchronized
  have hin : meth.name = "<init>" := (name_of_methodNamed B.named B.method).1
  subst hsz
  have hD := hD0.self (sz := s.heap.size)
  generalize hAe : va_A [(h0, .inr (9, [.null, .null, .int 0, .int 0, .int 0, .int 0, .int 0, .int 0, .int 0, .int 0]))] s.heap.size = A at hD ⊢
  have hA : ∀ q : Nat, s.heap.size ≤ q → A q := fun q h => by rw [← hAe]; exact Or.inr h
  have hS : va_S A s.heap s.heap [] := va_S.rf
  have hP : va_P (dC, dI) vwCl [(h0, .inr (9, [.null, .null, .int 0, .int 0, .int 0, .int 0, .int 0, .int 0, .int 0, .int 0]))] s.heap := hP
  have hl := lv_entry ([.ref h0]) (n := 1) (Nat.le_of_ble_eq_true rfl)
  rw [lg_entry_eq]
  generalize (lg_sl ([.ref h0]) ++ List.replicate (1 - (lg_sl ([.ref h0])).length) Slot.unset).toArray = ls at hl ⊢
  have hl : lv_has ls 1 [(0, .ref h0)] := hl
  refine lv_aload_n hx hb dX9_init_0 rfl (lv_at hl 0 rfl) ?_
  refine W.objInit hx hb hown (hts (.methodLink RX9 3 objectInit) (wl_mem 0 rfl)) (hts (.instanceMethod objectInit) (wl_mem 1 rfl)) (hts (.code objectInit ⟨#[0xb1]⟩ 1 none) (wl_mem 2 rfl)) rfl (by rw [hml]; exact hl.1) rfl dX9_init_1 (Nat.le_of_ble_eq_true rfl) (Nat.le_of_ble_eq_true rfl) ?_
  refine W.eq (g2 := F0 m 4 ls []) rfl ?_
  refine lv_aload_n hx hb dX9_init_4 rfl (lv_at hl 0 rfl) ?_
  refine lv_sipush (v := 700) hx hb dX9_init_5 (by decide) ?_
  refine va_newa (atype := .int) (ty := .int) (a0 := (700, .inl (fun _ => 0))) (N' := 700) hx hb (hts (.arrayClass .int) (wl_mem 3 rfl)) rfl hK hP hD hS hA (fun _ => rfl) (by decide) (by decide) (by decide) (Nat.le_of_ble_eq_true rfl) (Nat.le_of_ble_eq_true rfl) dX9_init_8 (fun qz1 kz2 H hK hP hD hS => ?_)
  have hK : va_K (dC, dI) vwCl [(kz2, .int)] s := hK
  have hP : va_P (dC, dI) vwCl [(h0, .inr (9, [.null, .null, .int 0, .int 0, .int 0, .int 0, .int 0, .int 0, .int 0, .int 0])), (qz1, .inl (kz2, 700, .inl (fun _ => 0)))] H := hP
  have hD : va_D A [(h0, .inr (9, [.null, .null, .int 0, .int 0, .int 0, .int 0, .int 0, .int 0, .int 0, .int 0])), (qz1, .inl (kz2, 700, .inl (fun _ => 0)))] := hD
  refine W.widen (k := 1) (n := 700) (Nat.le_of_ble_eq_true rfl) (Nat.le_of_ble_eq_true rfl) ?_
  refine va_putF (D := (dC, dI)) (ci := 9) (v := .ref qz1) (ty := .array .int) (C := RX9) (T := TX9) (N := 10) hx hb hts (fun w h => List.mem_cons_of_mem _ (List.mem_append_right _ (List.mem_append_left _ h))) tyX9 tyX9_ok nmX9 hown hK hP hD hS 0 rfl rfl 0 (by decide) (hts (.fieldLink RX9 9 "SagMemory$Tape" "bytes" "[I") (wl_mem 4 rfl)) (fun _ h9 => h9) rfl hin rfl (by decide +kernel) rfl rfl (Nat.le_of_ble_eq_true rfl) dX9_init_10 (fun H locs hP hD hS => ?_)
  have hP : va_P (dC, dI) vwCl [(h0, .inr (9, [.ref qz1, .null, .int 0, .int 0, .int 0, .int 0, .int 0, .int 0, .int 0, .int 0])), (qz1, .inl (kz2, 700, .inl (fun _ => 0)))] H := hP
  have hD : va_D A [(h0, .inr (9, [.ref qz1, .null, .int 0, .int 0, .int 0, .int 0, .int 0, .int 0, .int 0, .int 0])), (qz1, .inl (kz2, 700, .inl (fun _ => 0)))] := hD
  refine lv_aload_n hx hb dX9_init_13 rfl (lv_at hl 0 rfl) ?_
  refine va_new (ci := 10) (fs := [.null, .null, .null, .null, .null, .null, .null, .int 0, .int 0, .int 0, .int 0, .int 0, .int 0, .int 0, .int 0, .int 0]) (C := RX10) (T := TX10) (N := 16) hx hb hts (fun w h => List.mem_cons_of_mem _ (List.mem_append_right _ (List.mem_append_right _ (List.mem_append_left _ h)))) tyX10 tyX10_ok hown (hts (.classLink RX9 15 RX10) (wl_mem 5 rfl)) (hts (.instantiable RX10 16) (wl_mem 6 rfl)) (hts (.initialized RX10) (wl_mem 7 rfl)) hK hP hD hS hA rfl (fun j hj => by rcases (show j = 0 ∨ j = 1 ∨ j = 2 ∨ j = 3 ∨ j = 4 ∨ j = 5 ∨ j = 6 ∨ j = 7 ∨ j = 8 ∨ j = 9 ∨ j = 10 ∨ j = 11 ∨ j = 12 ∨ j = 13 ∨ j = 14 ∨ j = 15 by omega) with rfl | rfl | rfl | rfl | rfl | rfl | rfl | rfl | rfl | rfl | rfl | rfl | rfl | rfl | rfl | rfl <;> rfl) (Nat.le_of_ble_eq_true rfl) (Nat.le_of_ble_eq_true rfl) dX9_init_14 (fun qz3 H hP hD hS => ?_)
  have hP : va_P (dC, dI) vwCl [(h0, .inr (9, [.ref qz1, .null, .int 0, .int 0, .int 0, .int 0, .int 0, .int 0, .int 0, .int 0])), (qz1, .inl (kz2, 700, .inl (fun _ => 0))), (qz3, .inr (10, [.null, .null, .null, .null, .null, .null, .null, .int 0, .int 0, .int 0, .int 0, .int 0, .int 0, .int 0, .int 0, .int 0]))] H := hP
  have hD : va_D A [(h0, .inr (9, [.ref qz1, .null, .int 0, .int 0, .int 0, .int 0, .int 0, .int 0, .int 0, .int 0])), (qz1, .inl (kz2, 700, .inl (fun _ => 0))), (qz3, .inr (10, [.null, .null, .null, .null, .null, .null, .null, .int 0, .int 0, .int 0, .int 0, .int 0, .int 0, .int 0, .int 0, .int 0]))] := hD
  refine W.widen (k := 2) (n := 716) (Nat.le_of_ble_eq_true rfl) (Nat.le_of_ble_eq_true rfl) ?_
  refine lv_dup hx hb dX9_init_17 rfl ?_
  have hPc := hP.sub (ws' := [(qz3, .inr (10, [.null, .null, .null, .null, .null, .null, .null, .int 0, .int 0, .int 0, .int 0, .int 0, .int 0, .int 0, .int 0, .int 0]))]) [2] rfl
  have hKc := hK.sub (tys' := []) [] rfl
  have hDc := hD.sub (ws' := [(qz3, .inr (10, [.null, .null, .null, .null, .null, .null, .null, .int 0, .int 0, .int 0, .int 0, .int 0, .int 0, .int 0, .int 0, .int 0]))]) [2] (by decide) rfl
  have hFc := va_free (wc := [(qz3, .inr (10, [.null, .null, .null, .null, .null, .null, .null, .int 0, .int 0, .int 0, .int 0, .int 0, .int 0, .int 0, .int 0, .int 0]))]) hD hS hA [2] rfl
  refine va_callv (va_runIN (As := []) (rest := [.ref qz3, .ref h0]) ⟨hx, hb, hml, hown, hts⟩ (f_X10_init l dC dI H.size qz3) ⟨va_cnB 0 hts (goodIn_sub (fun w h => List.mem_cons_of_mem _ (List.mem_append_right _ (List.mem_append_right _ (List.mem_append_right _ (List.mem_append_left _ h))))) wkg_f_X10_init) rfl rfl rfl (Nx_RX9_17 hN) (hts (.initialized RX10) (wl_mem 7 rfl)) (by decide +kernel) ⟨Nat.le_of_ble_eq_true rfl, Nat.le_of_ble_eq_true rfl⟩, rfl, (hts (.instanceMethod yX10_init) (wl_mem 8 rfl))⟩ ⟨fun a U g mk q => by obtain ⟨q0, q1, qP, qK, qD⟩ := q; exact ⟨q0, q1, qP, va_K.moved (u := U) (U := U.calling g mk a) (Vm.Alike.refl U.vm) qK, qD⟩, fun U hU hW => ⟨rfl, by rw [hU], by rw [hU]; exact hPc, va_K.moved hW.alike hKc, hDc.weaken (fun _ _ _ _ => trivial)⟩⟩ rfl rfl hl.1 rfl (lv_room (Nat.le_of_ble_eq_true rfl)) dX9_init_18 ⟨Nat.le_of_ble_eq_true rfl, Nat.le_of_ble_eq_true rfl⟩) hS (fun q _ h => hFc q h) hFc (fun u t H1 locs ht hvm hz4 hB hz1 hk1 hS => ?_)
  obtain ⟨qz6, qz7, qz8, qz9, qz10, qz11, qz12, kz13, kz14, kz15, kz16, kz17, kz18, kz19, hP1, hK1, hD1⟩ := hB
  rw [ht] at hP1
  have hK1 := va_K.moved hvm.symm hK1
  obtain ⟨hP, hD⟩ := va_join (wr := [(h0, .inr (9, [.ref qz1, .null, .int 0, .int 0, .int 0, .int 0, .int 0, .int 0, .int 0, .int 0])), (qz1, .inl (kz2, 700, .inl (fun _ => 0)))]) (w1 := [(qz3, .inr (10, [.ref qz6, .ref qz7, .ref qz8, .ref qz9, .ref qz10, .ref qz11, .ref qz12, .int 0, .int 0, .int 0, .int 0, .int 0, .int 0, .int 0, .int 0, .int 0])), (qz6, .inl (kz13, 3, .inl (fun _ => 0))), (qz7, .inl (kz14, 3, .inl (fun _ => 0))), (qz8, .inl (kz15, 7, .inl (fun _ => 0))), (qz9, .inl (kz16, 7, .inl (fun _ => 0))), (qz10, .inl (kz17, 5, .inl (fun _ => 0))), (qz11, .inl (kz18, 5, .inl (fun _ => 0))), (qz12, .inl (kz19, 5, .inl (fun _ => 0)))]) hP hD [2] [0, 1] rfl rfl (by decide) (by decide) hk1 hFc hP1 hD1
  have hK := (hK.sub (tys' := [(kz2, .int)]) [0] rfl).app hK1
  generalize H1 = H at hP hS ⊢
  have hK : va_K (dC, dI) vwCl [(kz2, .int), (kz13, .int), (kz14, .int), (kz15, .int), (kz16, .int), (kz17, .int), (kz18, .int), (kz19, .int)] s := hK
  have hP : va_P (dC, dI) vwCl [(h0, .inr (9, [.ref qz1, .null, .int 0, .int 0, .int 0, .int 0, .int 0, .int 0, .int 0, .int 0])), (qz1, .inl (kz2, 700, .inl (fun _ => 0))), (qz3, .inr (10, [.ref qz6, .ref qz7, .ref qz8, .ref qz9, .ref qz10, .ref qz11, .ref qz12, .int 0, .int 0, .int 0, .int 0, .int 0, .int 0, .int 0, .int 0, .int 0])), (qz6, .inl (kz13, 3, .inl (fun _ => 0))), (qz7, .inl (kz14, 3, .inl (fun _ => 0))), (qz8, .inl (kz15, 7, .inl (fun _ => 0))), (qz9, .inl (kz16, 7, .inl (fun _ => 0))), (qz10, .inl (kz17, 5, .inl (fun _ => 0))), (qz11, .inl (kz18, 5, .inl (fun _ => 0))), (qz12, .inl (kz19, 5, .inl (fun _ => 0)))] H := hP
  have hD : va_D A [(h0, .inr (9, [.ref qz1, .null, .int 0, .int 0, .int 0, .int 0, .int 0, .int 0, .int 0, .int 0])), (qz1, .inl (kz2, 700, .inl (fun _ => 0))), (qz3, .inr (10, [.ref qz6, .ref qz7, .ref qz8, .ref qz9, .ref qz10, .ref qz11, .ref qz12, .int 0, .int 0, .int 0, .int 0, .int 0, .int 0, .int 0, .int 0, .int 0])), (qz6, .inl (kz13, 3, .inl (fun _ => 0))), (qz7, .inl (kz14, 3, .inl (fun _ => 0))), (qz8, .inl (kz15, 7, .inl (fun _ => 0))), (qz9, .inl (kz16, 7, .inl (fun _ => 0))), (qz10, .inl (kz17, 5, .inl (fun _ => 0))), (qz11, .inl (kz18, 5, .inl (fun _ => 0))), (qz12, .inl (kz19, 5, .inl (fun _ => 0)))] := hD
  refine W.widen (k := 9) (n := 751) (Nat.le_of_ble_eq_true rfl) (Nat.le_of_ble_eq_true rfl) ?_
  refine va_putF (D := (dC, dI)) (ci := 9) (v := .ref qz3) (ty := .object "SagMemory$Valley") (C := RX9) (T := TX9) (N := 10) hx hb hts (fun w h => List.mem_cons_of_mem _ (List.mem_append_right _ (List.mem_append_left _ h))) tyX9 tyX9_ok nmX9 hown hK hP hD hS 0 rfl rfl 1 (by decide) (hts (.fieldLink RX9 18 "SagMemory$Tape" "read" "LSagMemory$Valley;") (wl_mem 9 rfl)) (fun _ h9 => h9) rfl hin rfl (by decide +kernel) rfl rfl (Nat.le_of_ble_eq_true rfl) dX9_init_21 (fun H locs hP hD hS => ?_)
  have hP : va_P (dC, dI) vwCl [(h0, .inr (9, [.ref qz1, .ref qz3, .int 0, .int 0, .int 0, .int 0, .int 0, .int 0, .int 0, .int 0])), (qz1, .inl (kz2, 700, .inl (fun _ => 0))), (qz3, .inr (10, [.ref qz6, .ref qz7, .ref qz8, .ref qz9, .ref qz10, .ref qz11, .ref qz12, .int 0, .int 0, .int 0, .int 0, .int 0, .int 0, .int 0, .int 0, .int 0])), (qz6, .inl (kz13, 3, .inl (fun _ => 0))), (qz7, .inl (kz14, 3, .inl (fun _ => 0))), (qz8, .inl (kz15, 7, .inl (fun _ => 0))), (qz9, .inl (kz16, 7, .inl (fun _ => 0))), (qz10, .inl (kz17, 5, .inl (fun _ => 0))), (qz11, .inl (kz18, 5, .inl (fun _ => 0))), (qz12, .inl (kz19, 5, .inl (fun _ => 0)))] H := hP
  have hD : va_D A [(h0, .inr (9, [.ref qz1, .ref qz3, .int 0, .int 0, .int 0, .int 0, .int 0, .int 0, .int 0, .int 0])), (qz1, .inl (kz2, 700, .inl (fun _ => 0))), (qz3, .inr (10, [.ref qz6, .ref qz7, .ref qz8, .ref qz9, .ref qz10, .ref qz11, .ref qz12, .int 0, .int 0, .int 0, .int 0, .int 0, .int 0, .int 0, .int 0, .int 0])), (qz6, .inl (kz13, 3, .inl (fun _ => 0))), (qz7, .inl (kz14, 3, .inl (fun _ => 0))), (qz8, .inl (kz15, 7, .inl (fun _ => 0))), (qz9, .inl (kz16, 7, .inl (fun _ => 0))), (qz10, .inl (kz17, 5, .inl (fun _ => 0))), (qz11, .inl (kz18, 5, .inl (fun _ => 0))), (qz12, .inl (kz19, 5, .inl (fun _ => 0)))] := hD
  refine lv_aload_n hx hb dX9_init_24 rfl (lv_at hl 0 rfl) ?_
  refine lv_iconst (v := (-1)) hx hb dX9_init_25 (by decide) ?_
  refine va_put (D := (dC, dI)) (ci := 9) (v := .int (-1)) (ty := .int) (C := RX9) (T := TX9) (N := 10) hx hb hts (fun w h => List.mem_cons_of_mem _ (List.mem_append_right _ (List.mem_append_left _ h))) tyX9 tyX9_ok nmX9 hown hK hP hD hS 0 rfl rfl 4 (by decide) (hts (.fieldLink RX9 22 "SagMemory$Tape" "place" "I") (wl_mem 10 rfl)) (fun _ h9 => h9) rfl (by decide +kernel) rfl rfl (Nat.le_of_ble_eq_true rfl) dX9_init_26 (fun H locs hP hD hS => ?_)
  have hP : va_P (dC, dI) vwCl [(h0, .inr (9, [.ref qz1, .ref qz3, .int 0, .int 0, .int (-1), .int 0, .int 0, .int 0, .int 0, .int 0])), (qz1, .inl (kz2, 700, .inl (fun _ => 0))), (qz3, .inr (10, [.ref qz6, .ref qz7, .ref qz8, .ref qz9, .ref qz10, .ref qz11, .ref qz12, .int 0, .int 0, .int 0, .int 0, .int 0, .int 0, .int 0, .int 0, .int 0])), (qz6, .inl (kz13, 3, .inl (fun _ => 0))), (qz7, .inl (kz14, 3, .inl (fun _ => 0))), (qz8, .inl (kz15, 7, .inl (fun _ => 0))), (qz9, .inl (kz16, 7, .inl (fun _ => 0))), (qz10, .inl (kz17, 5, .inl (fun _ => 0))), (qz11, .inl (kz18, 5, .inl (fun _ => 0))), (qz12, .inl (kz19, 5, .inl (fun _ => 0)))] H := hP
  have hD : va_D A [(h0, .inr (9, [.ref qz1, .ref qz3, .int 0, .int 0, .int (-1), .int 0, .int 0, .int 0, .int 0, .int 0])), (qz1, .inl (kz2, 700, .inl (fun _ => 0))), (qz3, .inr (10, [.ref qz6, .ref qz7, .ref qz8, .ref qz9, .ref qz10, .ref qz11, .ref qz12, .int 0, .int 0, .int 0, .int 0, .int 0, .int 0, .int 0, .int 0, .int 0])), (qz6, .inl (kz13, 3, .inl (fun _ => 0))), (qz7, .inl (kz14, 3, .inl (fun _ => 0))), (qz8, .inl (kz15, 7, .inl (fun _ => 0))), (qz9, .inl (kz16, 7, .inl (fun _ => 0))), (qz10, .inl (kz17, 5, .inl (fun _ => 0))), (qz11, .inl (kz18, 5, .inl (fun _ => 0))), (qz12, .inl (kz19, 5, .inl (fun _ => 0)))] := hD
  refine W.widen (k := 9) (n := 751) (Nat.le_of_ble_eq_true rfl) (Nat.le_of_ble_eq_true rfl) ?_
  have hP9 := hP.sub (ws' := [(h0, .inr (9, [.ref qz1, .ref qz3, .int 0, .int 0, .int (-1), .int 0, .int 0, .int 0, .int 0, .int 0])), (qz1, .inl (kz2, 700, .inl (fun _ => 0))), (qz3, .inr (10, [.ref qz6, .ref qz7, .ref qz8, .ref qz9, .ref qz10, .ref qz11, .ref qz12, .int 0, .int 0, .int 0, .int 0, .int 0, .int 0, .int 0, .int 0, .int 0])), (qz6, .inl (kz13, 3, .inl (fun _ => 0))), (qz7, .inl (kz14, 3, .inl (fun _ => 0))), (qz8, .inl (kz15, 7, .inl (fun _ => 0))), (qz9, .inl (kz16, 7, .inl (fun _ => 0))), (qz10, .inl (kz17, 5, .inl (fun _ => 0))), (qz11, .inl (kz18, 5, .inl (fun _ => 0))), (qz12, .inl (kz19, 5, .inl (fun _ => 0)))]) [0, 1, 2, 3, 4, 5, 6, 7, 8, 9] rfl
  have hD9 := hD.sub (ws' := [(h0, .inr (9, [.ref qz1, .ref qz3, .int 0, .int 0, .int (-1), .int 0, .int 0, .int 0, .int 0, .int 0])), (qz1, .inl (kz2, 700, .inl (fun _ => 0))), (qz3, .inr (10, [.ref qz6, .ref qz7, .ref qz8, .ref qz9, .ref qz10, .ref qz11, .ref qz12, .int 0, .int 0, .int 0, .int 0, .int 0, .int 0, .int 0, .int 0, .int 0])), (qz6, .inl (kz13, 3, .inl (fun _ => 0))), (qz7, .inl (kz14, 3, .inl (fun _ => 0))), (qz8, .inl (kz15, 7, .inl (fun _ => 0))), (qz9, .inl (kz16, 7, .inl (fun _ => 0))), (qz10, .inl (kz17, 5, .inl (fun _ => 0))), (qz11, .inl (kz18, 5, .inl (fun _ => 0))), (qz12, .inl (kz19, 5, .inl (fun _ => 0)))]) [0, 1, 2, 3, 4, 5, 6, 7, 8, 9] (by decide) rfl
  have hK9 := hK.sub (tys' := [(kz2, .int), (kz13, .int), (kz14, .int), (kz15, .int), (kz16, .int), (kz17, .int), (kz18, .int), (kz19, .int)]) [0, 1, 2, 3, 4, 5, 6, 7] rfl
  exact W.vret hx hb hr (fun t ht hW => ⟨⟨(), rfl, trivial, qz1, qz3, kz2, qz6, qz7, qz8, qz9, qz10, qz11, qz12, kz13, kz14, kz15, kz16, kz17, kz18, kz19, by rw [ht]; exact hP9, va_K.moved hW.alike hK9, hD9⟩, hS.F ht⟩) hS.2.2 dX9_init_29
def wk_f_X1_init : List Cond := .code yX1_init cX1_init 1 none :: ([.methodLink RX1 1 objectInit, .instanceMethod objectInit, .code objectInit ⟨#[0xb1]⟩ 1 none, .classLink RX1 7 RX10, .instantiable RX10 16, .initialized RX10, .instanceMethod yX10_init, .fieldLink RX1 10 "SagMemory$Image" "valley" "LSagMemory$Valley;", .classLink RX1 16 RX0, .instantiable RX0 4, .initialized RX0, .instanceMethod yX0_init, .fieldLink RX1 19 "SagMemory$Image" "acts" "LSagMemory$Acts;"] ++ (wsX100 ++ (wk_f_X10_init ++ (wsX10 ++ (wsX00 ++ (wk_f_X0_init ++ []))))))
theorem wkg_f_X1_init : wk_f_X1_init.all goodWord = true := by decide +kernel
set_option maxHeartbeats 4000000 in
set_option maxRecDepth 100000 in
theorem f_X1_init (l : Launch) (dC : Nat → ClassId) (dI : Nat → Nat → Nat) (sz : Nat) (h0 : Nat) : Met l yX1_init wk_f_X1_init ({ frames := 2, cells := 12, slots := 145, locals := 44 }) (va_Pc [.ref h0] (fun U => U.heap.size = sz ∧ Nx U ∧ va_P (dC, dI) vwCl [(h0, .inr (1, [.null, .null, .int 0]))] U.heap ∧ va_K (dC, dI) vwCl [] U ∧ va_D (fun _ => True) [(h0, .inr (1, [.null, .null, .int 0]))])) (va_Qv (fun _ : Unit => True) (fun (_ : Unit) (t : State) => ∃ (w0 : Nat) (w1 : Nat) (v0 : Nat) (v1 : Nat) (v2 : Nat) (v3 : Nat) (v4 : Nat) (v5 : Nat) (v6 : Nat) (k0 : ClassId) (k1 : ClassId) (k2 : ClassId) (k3 : ClassId) (k4 : ClassId) (k5 : ClassId) (k6 : ClassId) (b0 : Nat) (b1 : Nat) (b2 : Nat) (g0 : ClassId) (g1 : ClassId) (g2 : ClassId), va_P (dC, dI) vwCl [(h0, .inr (1, [.ref w0, .ref w1, .int 0])), (w0, .inr (10, [.ref v0, .ref v1, .ref v2, .ref v3, .ref v4, .ref v5, .ref v6, .int 0, .int 0, .int 0, .int 0, .int 0, .int 0, .int 0, .int 0, .int 0])), (v0, .inl (k0, 3, .inl (fun _ => 0))), (v1, .inl (k1, 3, .inl (fun _ => 0))), (v2, .inl (k2, 7, .inl (fun _ => 0))), (v3, .inl (k3, 7, .inl (fun _ => 0))), (v4, .inl (k4, 5, .inl (fun _ => 0))), (v5, .inl (k5, 5, .inl (fun _ => 0))), (v6, .inl (k6, 5, .inl (fun _ => 0))), (w1, .inr (0, [.ref b0, .ref b1, .ref b2, .int 0])), (b0, .inl (g0, 30, .inl (fun _ => 0))), (b1, .inl (g1, 30, .inl (fun _ => 0))), (b2, .inl (g2, 30, .inl (fun _ => 0)))] t.heap ∧ va_K (dC, dI) vwCl [(k0, .int), (k1, .int), (k2, .int), (k3, .int), (k4, .int), (k5, .int), (k6, .int), (g0, .int), (g1, .int), (g2, .int)] t ∧ va_D (va_A [(h0, .inr (1, [.null, .null, .int 0]))] sz) [(h0, .inr (1, [.ref w0, .ref w1, .int 0])), (w0, .inr (10, [.ref v0, .ref v1, .ref v2, .ref v3, .ref v4, .ref v5, .ref v6, .int 0, .int 0, .int 0, .int 0, .int 0, .int 0, .int 0, .int 0, .int 0])), (v0, .inl (k0, 3, .inl (fun _ => 0))), (v1, .inl (k1, 3, .inl (fun _ => 0))), (v2, .inl (k2, 7, .inl (fun _ => 0))), (v3, .inl (k3, 7, .inl (fun _ => 0))), (v4, .inl (k4, 5, .inl (fun _ => 0))), (v5, .inl (k5, 5, .inl (fun _ => 0))), (v6, .inl (k6, 5, .inl (fun _ => 0))), (w1, .inr (0, [.ref b0, .ref b1, .ref b2, .int 0])), (b0, .inl (g0, 30, .inl (fun _ => 0))), (b1, .inl (g1, 30, .inl (fun _ => 0))), (b2, .inl (g2, 30, .inl (fun _ => 0)))]) (va_A [(h0, .inr (1, [.null, .null, .int 0]))] sz)) 12 145 (va_A [(h0, .inr (1, [.null, .null, .int 0]))] sz) := by
  refine Met.ofW (cc := cX1_init) (maxL := 1) (ret := none) (by decide) rfl ?_
  intro p e s m args below meth c s₁ B hml hv
  obtain ⟨rfl, hsz, hN, hP, hK, hD0⟩ := hv
  have hx := B.exec
  have hb := B.bytes
  have hr := B.returns
  have hts := atoms_spec (ws := wk_f_X1_init) B.pre
  have hown : s.vm.findClass RX1 = some m.cls := findClass_of_methodNamed B.named
  have hlocks := B.notSynchronized
  have hin : meth.name = "<init>" := (name_of_methodNamed B.named B.method).1
  subst hsz
  have hD := hD0.self (sz := s.heap.size)
  generalize hAe : va_A [(h0, .inr (1, [.null, .null, .int 0]))] s.heap.size = A at hD ⊢
  have hA : ∀ q : Nat, s.heap.size ≤ q → A q := fun q h => by rw [← hAe]; exact Or.inr h
  have hS : va_S A s.heap s.heap [] := va_S.rf
  have hP : va_P (dC, dI) vwCl [(h0, .inr (1, [.null, .null, .int 0]))] s.heap := hP
  have hl := lv_entry ([.ref h0]) (n := 1) (Nat.le_of_ble_eq_true rfl)
  rw [lg_entry_eq]
  generalize (lg_sl ([.ref h0]) ++ List.replicate (1 - (lg_sl ([.ref h0])).length) Slot.unset).toArray = ls at hl ⊢
  have hl : lv_has ls 1 [(0, .ref h0)] := hl
  refine lv_aload_n hx hb dX1_init_0 rfl (lv_at hl 0 rfl) ?_
  refine W.objInit hx hb hown (hts (.methodLink RX1 1 objectInit) (wl_mem 0 rfl)) (hts (.instanceMethod objectInit) (wl_mem 1 rfl)) (hts (.code objectInit ⟨#[0xb1]⟩ 1 none) (wl_mem 2 rfl)) rfl (by rw [hml]; exact hl.1) rfl dX1_init_1 (Nat.le_of_ble_eq_true rfl) (Nat.le_of_ble_eq_true rfl) ?_
  refine W.eq (g2 := F0 m 4 ls []) rfl ?_
  refine lv_aload_n hx hb dX1_init_4 rfl (lv_at hl 0 rfl) ?_
  refine va_new (ci := 10) (fs := [.null, .null, .null, .null, .null, .null, .null, .int 0, .int 0, .int 0, .int 0, .int 0, .int 0, .int 0, .int 0, .int 0]) (C := RX10) (T := TX10) (N := 16) hx hb hts (fun w h => List.mem_cons_of_mem _ (List.mem_append_right _ (List.mem_append_left _ h))) tyX10 tyX10_ok hown (hts (.classLink RX1 7 RX10) (wl_mem 3 rfl)) (hts (.instantiable RX10 16) (wl_mem 4 rfl)) (hts (.initialized RX10) (wl_mem 5 rfl)) hK hP hD hS hA rfl (fun j hj => by rcases (show j = 0 ∨ j = 1 ∨ j = 2 ∨ j = 3 ∨ j = 4 ∨ j = 5 ∨ j = 6 ∨ j = 7 ∨ j = 8 ∨ j = 9 ∨ j = 10 ∨ j = 11 ∨ j = 12 ∨ j = 13 ∨ j = 14 ∨ j = 15 by omega) with rfl | rfl | rfl | rfl | rfl | rfl | rfl | rfl | rfl | rfl | rfl | rfl | rfl | rfl | rfl | rfl <;> rfl) (Nat.le_of_ble_eq_true rfl) (Nat.le_of_ble_eq_true rfl) dX1_init_5 (fun qz1 H hP hD hS => ?_)
  have hP : va_P (dC, dI) vwCl [(h0, .inr (1, [.null, .null, .int 0])), (qz1, .inr (10, [.null, .null, .null, .null, .null, .null, .null, .int 0, .int 0, .int 0, .int 0, .int 0, .int 0, .int 0, .int 0, .int 0]))] H := hP
  have hD : va_D A [(h0, .inr (1, [.null, .null, .int 0])), (qz1, .inr (10, [.null, .null, .null, .null, .null, .null, .null, .int 0, .int 0, .int 0, .int 0, .int 0, .int 0, .int 0, .int 0, .int 0]))] := hD
  refine W.widen (k := 1) (n := 16) (Nat.le_of_ble_eq_true rfl) (Nat.le_of_ble_eq_true rfl) ?_
  refine lv_dup hx hb dX1_init_8 rfl ?_
  have hPc := hP.sub (ws' := [(qz1, .inr (10, [.null, .null, .null, .null, .null, .null, .null, .int 0, .int 0, .int 0, .int 0, .int 0, .int 0, .int 0, .int 0, .int 0]))]) [1] rfl
  have hKc := hK.sub (tys' := []) [] rfl
  have hDc := hD.sub (ws' := [(qz1, .inr (10, [.null, .null, .null, .null, .null, .null, .null, .int 0, .int 0, .int 0, .int 0, .int 0, .int 0, .int 0, .int 0, .int 0]))]) [1] (by decide) rfl
  have hFc := va_free (wc := [(qz1, .inr (10, [.null, .null, .null, .null, .null, .null, .null, .int 0, .int 0, .int 0, .int 0, .int 0, .int 0, .int 0, .int 0, .int 0]))]) hD hS hA [1] rfl
  refine va_callv (va_runIN (As := []) (rest := [.ref qz1, .ref h0]) ⟨hx, hb, hml, hown, hts⟩ (f_X10_init l dC dI H.size qz1) ⟨va_cnB 0 hts (goodIn_sub (fun w h => List.mem_cons_of_mem _ (List.mem_append_right _ (List.mem_append_right _ (List.mem_append_left _ h)))) wkg_f_X10_init) rfl rfl rfl (Nx_RX1_9 hN) (hts (.initialized RX10) (wl_mem 5 rfl)) (by decide +kernel) ⟨Nat.le_of_ble_eq_true rfl, Nat.le_of_ble_eq_true rfl⟩, rfl, (hts (.instanceMethod yX10_init) (wl_mem 6 rfl))⟩ ⟨fun a U g mk q => by obtain ⟨q0, q1, qP, qK, qD⟩ := q; exact ⟨q0, q1, qP, va_K.moved (u := U) (U := U.calling g mk a) (Vm.Alike.refl U.vm) qK, qD⟩, fun U hU hW => ⟨rfl, by rw [hU], by rw [hU]; exact hPc, va_K.moved hW.alike hKc, hDc.weaken (fun _ _ _ _ => trivial)⟩⟩ rfl rfl hl.1 rfl (lv_room (Nat.le_of_ble_eq_true rfl)) dX1_init_9 ⟨Nat.le_of_ble_eq_true rfl, Nat.le_of_ble_eq_true rfl⟩) hS (fun q _ h => hFc q h) hFc (fun u t H1 locs ht hvm hz2 hB hz1 hk1 hS => ?_)
  obtain ⟨qz4, qz5, qz6, qz7, qz8, qz9, qz10, kz11, kz12, kz13, kz14, kz15, kz16, kz17, hP1, hK1, hD1⟩ := hB
  rw [ht] at hP1
  have hK1 := va_K.moved hvm.symm hK1
  obtain ⟨hP, hD⟩ := va_join (wr := [(h0, .inr (1, [.null, .null, .int 0]))]) (w1 := [(qz1, .inr (10, [.ref qz4, .ref qz5, .ref qz6, .ref qz7, .ref qz8, .ref qz9, .ref qz10, .int 0, .int 0, .int 0, .int 0, .int 0, .int 0, .int 0, .int 0, .int 0])), (qz4, .inl (kz11, 3, .inl (fun _ => 0))), (qz5, .inl (kz12, 3, .inl (fun _ => 0))), (qz6, .inl (kz13, 7, .inl (fun _ => 0))), (qz7, .inl (kz14, 7, .inl (fun _ => 0))), (qz8, .inl (kz15, 5, .inl (fun _ => 0))), (qz9, .inl (kz16, 5, .inl (fun _ => 0))), (qz10, .inl (kz17, 5, .inl (fun _ => 0)))]) hP hD [1] [0] rfl rfl (by decide) (by decide) hk1 hFc hP1 hD1
  have hK := (hK.sub (tys' := []) [] rfl).app hK1
  generalize H1 = H at hP hS ⊢
  have hK : va_K (dC, dI) vwCl [(kz11, .int), (kz12, .int), (kz13, .int), (kz14, .int), (kz15, .int), (kz16, .int), (kz17, .int)] s := hK
  have hP : va_P (dC, dI) vwCl [(h0, .inr (1, [.null, .null, .int 0])), (qz1, .inr (10, [.ref qz4, .ref qz5, .ref qz6, .ref qz7, .ref qz8, .ref qz9, .ref qz10, .int 0, .int 0, .int 0, .int 0, .int 0, .int 0, .int 0, .int 0, .int 0])), (qz4, .inl (kz11, 3, .inl (fun _ => 0))), (qz5, .inl (kz12, 3, .inl (fun _ => 0))), (qz6, .inl (kz13, 7, .inl (fun _ => 0))), (qz7, .inl (kz14, 7, .inl (fun _ => 0))), (qz8, .inl (kz15, 5, .inl (fun _ => 0))), (qz9, .inl (kz16, 5, .inl (fun _ => 0))), (qz10, .inl (kz17, 5, .inl (fun _ => 0)))] H := hP
  have hD : va_D A [(h0, .inr (1, [.null, .null, .int 0])), (qz1, .inr (10, [.ref qz4, .ref qz5, .ref qz6, .ref qz7, .ref qz8, .ref qz9, .ref qz10, .int 0, .int 0, .int 0, .int 0, .int 0, .int 0, .int 0, .int 0, .int 0])), (qz4, .inl (kz11, 3, .inl (fun _ => 0))), (qz5, .inl (kz12, 3, .inl (fun _ => 0))), (qz6, .inl (kz13, 7, .inl (fun _ => 0))), (qz7, .inl (kz14, 7, .inl (fun _ => 0))), (qz8, .inl (kz15, 5, .inl (fun _ => 0))), (qz9, .inl (kz16, 5, .inl (fun _ => 0))), (qz10, .inl (kz17, 5, .inl (fun _ => 0)))] := hD
  refine W.widen (k := 8) (n := 51) (Nat.le_of_ble_eq_true rfl) (Nat.le_of_ble_eq_true rfl) ?_
  refine va_putF (D := (dC, dI)) (ci := 1) (v := .ref qz1) (ty := .object "SagMemory$Valley") (C := RX1) (T := TX1) (N := 3) hx hb hts (fun w h => List.mem_cons_of_mem _ (List.mem_append_right _ (List.mem_append_right _ (List.mem_append_right _ (List.mem_append_left _ h))))) tyX1 tyX1_ok nmX1 hown hK hP hD hS 0 rfl rfl 0 (by decide) (hts (.fieldLink RX1 10 "SagMemory$Image" "valley" "LSagMemory$Valley;") (wl_mem 7 rfl)) (fun _ h9 => h9) rfl hin rfl (by decide +kernel) rfl rfl (Nat.le_of_ble_eq_true rfl) dX1_init_12 (fun H locs hP hD hS => ?_)
  have hP : va_P (dC, dI) vwCl [(h0, .inr (1, [.ref qz1, .null, .int 0])), (qz1, .inr (10, [.ref qz4, .ref qz5, .ref qz6, .ref qz7, .ref qz8, .ref qz9, .ref qz10, .int 0, .int 0, .int 0, .int 0, .int 0, .int 0, .int 0, .int 0, .int 0])), (qz4, .inl (kz11, 3, .inl (fun _ => 0))), (qz5, .inl (kz12, 3, .inl (fun _ => 0))), (qz6, .inl (kz13, 7, .inl (fun _ => 0))), (qz7, .inl (kz14, 7, .inl (fun _ => 0))), (qz8, .inl (kz15, 5, .inl (fun _ => 0))), (qz9, .inl (kz16, 5, .inl (fun _ => 0))), (qz10, .inl (kz17, 5, .inl (fun _ => 0)))] H := hP
  have hD : va_D A [(h0, .inr (1, [.ref qz1, .null, .int 0])), (qz1, .inr (10, [.ref qz4, .ref qz5, .ref qz6, .ref qz7, .ref qz8, .ref qz9, .ref qz10, .int 0, .int 0, .int 0, .int 0, .int 0, .int 0, .int 0, .int 0, .int 0])), (qz4, .inl (kz11, 3, .inl (fun _ => 0))), (qz5, .inl (kz12, 3, .inl (fun _ => 0))), (qz6, .inl (kz13, 7, .inl (fun _ => 0))), (qz7, .inl (kz14, 7, .inl (fun _ => 0))), (qz8, .inl (kz15, 5, .inl (fun _ => 0))), (qz9, .inl (kz16, 5, .inl (fun _ => 0))), (qz10, .inl (kz17, 5, .inl (fun _ => 0)))] := hD
  refine lv_aload_n hx hb dX1_init_15 rfl (lv_at hl 0 rfl) ?_
  refine va_new (ci := 0) (fs := [.null, .null, .null, .int 0]) (C := RX0) (T := TX0) (N := 4) hx hb hts (fun w h => List.mem_cons_of_mem _ (List.mem_append_right _ (List.mem_append_right _ (List.mem_append_right _ (List.mem_append_right _ (List.mem_append_left _ h)))))) tyX0 tyX0_ok hown (hts (.classLink RX1 16 RX0) (wl_mem 8 rfl)) (hts (.instantiable RX0 4) (wl_mem 9 rfl)) (hts (.initialized RX0) (wl_mem 10 rfl)) hK hP hD hS hA rfl (fun j hj => by rcases (show j = 0 ∨ j = 1 ∨ j = 2 ∨ j = 3 by omega) with rfl | rfl | rfl | rfl <;> rfl) (Nat.le_of_ble_eq_true rfl) (Nat.le_of_ble_eq_true rfl) dX1_init_16 (fun qz18 H hP hD hS => ?_)
  have hP : va_P (dC, dI) vwCl [(h0, .inr (1, [.ref qz1, .null, .int 0])), (qz1, .inr (10, [.ref qz4, .ref qz5, .ref qz6, .ref qz7, .ref qz8, .ref qz9, .ref qz10, .int 0, .int 0, .int 0, .int 0, .int 0, .int 0, .int 0, .int 0, .int 0])), (qz4, .inl (kz11, 3, .inl (fun _ => 0))), (qz5, .inl (kz12, 3, .inl (fun _ => 0))), (qz6, .inl (kz13, 7, .inl (fun _ => 0))), (qz7, .inl (kz14, 7, .inl (fun _ => 0))), (qz8, .inl (kz15, 5, .inl (fun _ => 0))), (qz9, .inl (kz16, 5, .inl (fun _ => 0))), (qz10, .inl (kz17, 5, .inl (fun _ => 0))), (qz18, .inr (0, [.null, .null, .null, .int 0]))] H := hP
  have hD : va_D A [(h0, .inr (1, [.ref qz1, .null, .int 0])), (qz1, .inr (10, [.ref qz4, .ref qz5, .ref qz6, .ref qz7, .ref qz8, .ref qz9, .ref qz10, .int 0, .int 0, .int 0, .int 0, .int 0, .int 0, .int 0, .int 0, .int 0])), (qz4, .inl (kz11, 3, .inl (fun _ => 0))), (qz5, .inl (kz12, 3, .inl (fun _ => 0))), (qz6, .inl (kz13, 7, .inl (fun _ => 0))), (qz7, .inl (kz14, 7, .inl (fun _ => 0))), (qz8, .inl (kz15, 5, .inl (fun _ => 0))), (qz9, .inl (kz16, 5, .inl (fun _ => 0))), (qz10, .inl (kz17, 5, .inl (fun _ => 0))), (qz18, .inr (0, [.null, .null, .null, .int 0]))] := hD
  refine W.widen (k := 9) (n := 55) (Nat.le_of_ble_eq_true rfl) (Nat.le_of_ble_eq_true rfl) ?_
  refine lv_dup hx hb dX1_init_19 rfl ?_
  have hPc := hP.sub (ws' := [(qz18, .inr (0, [.null, .null, .null, .int 0]))]) [9] rfl
  have hKc := hK.sub (tys' := []) [] rfl
  have hDc := hD.sub (ws' := [(qz18, .inr (0, [.null, .null, .null, .int 0]))]) [9] (by decide) rfl
  have hFc := va_free (wc := [(qz18, .inr (0, [.null, .null, .null, .int 0]))]) hD hS hA [9] rfl
  refine va_callv (va_runIN (As := []) (rest := [.ref qz18, .ref h0]) ⟨hx, hb, hml, hown, hts⟩ (f_X0_init l dC dI H.size qz18) ⟨va_cnB 0 hts (goodIn_sub (fun w h => List.mem_cons_of_mem _ (List.mem_append_right _ (List.mem_append_right _ (List.mem_append_right _ (List.mem_append_right _ (List.mem_append_right _ (List.mem_append_left _ h))))))) wkg_f_X0_init) rfl rfl rfl (Nx_RX1_18 hN) (hts (.initialized RX0) (wl_mem 10 rfl)) (by decide +kernel) ⟨Nat.le_of_ble_eq_true rfl, Nat.le_of_ble_eq_true rfl⟩, rfl, (hts (.instanceMethod yX0_init) (wl_mem 11 rfl))⟩ ⟨fun a U g mk q => by obtain ⟨q0, q1, qP, qK, qD⟩ := q; exact ⟨q0, q1, qP, va_K.moved (u := U) (U := U.calling g mk a) (Vm.Alike.refl U.vm) qK, qD⟩, fun U hU hW => ⟨rfl, by rw [hU], by rw [hU]; exact hPc, va_K.moved hW.alike hKc, hDc.weaken (fun _ _ _ _ => trivial)⟩⟩ rfl rfl hl.1 rfl (lv_room (Nat.le_of_ble_eq_true rfl)) dX1_init_20 ⟨Nat.le_of_ble_eq_true rfl, Nat.le_of_ble_eq_true rfl⟩) hS (fun q _ h => hFc q h) hFc (fun u t H1 locs ht hvm hz19 hB hz1 hk1 hS => ?_)
  obtain ⟨qz21, qz22, qz23, kz24, kz25, kz26, hP1, hK1, hD1⟩ := hB
  rw [ht] at hP1
  have hK1 := va_K.moved hvm.symm hK1
  obtain ⟨hP, hD⟩ := va_join (wr := [(h0, .inr (1, [.ref qz1, .null, .int 0])), (qz1, .inr (10, [.ref qz4, .ref qz5, .ref qz6, .ref qz7, .ref qz8, .ref qz9, .ref qz10, .int 0, .int 0, .int 0, .int 0, .int 0, .int 0, .int 0, .int 0, .int 0])), (qz4, .inl (kz11, 3, .inl (fun _ => 0))), (qz5, .inl (kz12, 3, .inl (fun _ => 0))), (qz6, .inl (kz13, 7, .inl (fun _ => 0))), (qz7, .inl (kz14, 7, .inl (fun _ => 0))), (qz8, .inl (kz15, 5, .inl (fun _ => 0))), (qz9, .inl (kz16, 5, .inl (fun _ => 0))), (qz10, .inl (kz17, 5, .inl (fun _ => 0)))]) (w1 := [(qz18, .inr (0, [.ref qz21, .ref qz22, .ref qz23, .int 0])), (qz21, .inl (kz24, 30, .inl (fun _ => 0))), (qz22, .inl (kz25, 30, .inl (fun _ => 0))), (qz23, .inl (kz26, 30, .inl (fun _ => 0)))]) hP hD [9] [0, 1, 2, 3, 4, 5, 6, 7, 8] rfl rfl (by decide) (by decide) hk1 hFc hP1 hD1
  have hK := (hK.sub (tys' := [(kz11, .int), (kz12, .int), (kz13, .int), (kz14, .int), (kz15, .int), (kz16, .int), (kz17, .int)]) [0, 1, 2, 3, 4, 5, 6] rfl).app hK1
  generalize H1 = H at hP hS ⊢
  have hK : va_K (dC, dI) vwCl [(kz11, .int), (kz12, .int), (kz13, .int), (kz14, .int), (kz15, .int), (kz16, .int), (kz17, .int), (kz24, .int), (kz25, .int), (kz26, .int)] s := hK
  have hP : va_P (dC, dI) vwCl [(h0, .inr (1, [.ref qz1, .null, .int 0])), (qz1, .inr (10, [.ref qz4, .ref qz5, .ref qz6, .ref qz7, .ref qz8, .ref qz9, .ref qz10, .int 0, .int 0, .int 0, .int 0, .int 0, .int 0, .int 0, .int 0, .int 0])), (qz4, .inl (kz11, 3, .inl (fun _ => 0))), (qz5, .inl (kz12, 3, .inl (fun _ => 0))), (qz6, .inl (kz13, 7, .inl (fun _ => 0))), (qz7, .inl (kz14, 7, .inl (fun _ => 0))), (qz8, .inl (kz15, 5, .inl (fun _ => 0))), (qz9, .inl (kz16, 5, .inl (fun _ => 0))), (qz10, .inl (kz17, 5, .inl (fun _ => 0))), (qz18, .inr (0, [.ref qz21, .ref qz22, .ref qz23, .int 0])), (qz21, .inl (kz24, 30, .inl (fun _ => 0))), (qz22, .inl (kz25, 30, .inl (fun _ => 0))), (qz23, .inl (kz26, 30, .inl (fun _ => 0)))] H := hP
  have hD : va_D A [(h0, .inr (1, [.ref qz1, .null, .int 0])), (qz1, .inr (10, [.ref qz4, .ref qz5, .ref qz6, .ref qz7, .ref qz8, .ref qz9, .ref qz10, .int 0, .int 0, .int 0, .int 0, .int 0, .int 0, .int 0, .int 0, .int 0])), (qz4, .inl (kz11, 3, .inl (fun _ => 0))), (qz5, .inl (kz12, 3, .inl (fun _ => 0))), (qz6, .inl (kz13, 7, .inl (fun _ => 0))), (qz7, .inl (kz14, 7, .inl (fun _ => 0))), (qz8, .inl (kz15, 5, .inl (fun _ => 0))), (qz9, .inl (kz16, 5, .inl (fun _ => 0))), (qz10, .inl (kz17, 5, .inl (fun _ => 0))), (qz18, .inr (0, [.ref qz21, .ref qz22, .ref qz23, .int 0])), (qz21, .inl (kz24, 30, .inl (fun _ => 0))), (qz22, .inl (kz25, 30, .inl (fun _ => 0))), (qz23, .inl (kz26, 30, .inl (fun _ => 0)))] := hD
  refine W.widen (k := 12) (n := 145) (Nat.le_of_ble_eq_true rfl) (Nat.le_of_ble_eq_true rfl) ?_
  refine va_putF (D := (dC, dI)) (ci := 1) (v := .ref qz18) (ty := .object "SagMemory$Acts") (C := RX1) (T := TX1) (N := 3) hx hb hts (fun w h => List.mem_cons_of_mem _ (List.mem_append_right _ (List.mem_append_right _ (List.mem_append_right _ (List.mem_append_left _ h))))) tyX1 tyX1_ok nmX1 hown hK hP hD hS 0 rfl rfl 1 (by decide) (hts (.fieldLink RX1 19 "SagMemory$Image" "acts" "LSagMemory$Acts;") (wl_mem 12 rfl)) (fun _ h9 => h9) rfl hin rfl (by decide +kernel) rfl rfl (Nat.le_of_ble_eq_true rfl) dX1_init_23 (fun H locs hP hD hS => ?_)
  have hP : va_P (dC, dI) vwCl [(h0, .inr (1, [.ref qz1, .ref qz18, .int 0])), (qz1, .inr (10, [.ref qz4, .ref qz5, .ref qz6, .ref qz7, .ref qz8, .ref qz9, .ref qz10, .int 0, .int 0, .int 0, .int 0, .int 0, .int 0, .int 0, .int 0, .int 0])), (qz4, .inl (kz11, 3, .inl (fun _ => 0))), (qz5, .inl (kz12, 3, .inl (fun _ => 0))), (qz6, .inl (kz13, 7, .inl (fun _ => 0))), (qz7, .inl (kz14, 7, .inl (fun _ => 0))), (qz8, .inl (kz15, 5, .inl (fun _ => 0))), (qz9, .inl (kz16, 5, .inl (fun _ => 0))), (qz10, .inl (kz17, 5, .inl (fun _ => 0))), (qz18, .inr (0, [.ref qz21, .ref qz22, .ref qz23, .int 0])), (qz21, .inl (kz24, 30, .inl (fun _ => 0))), (qz22, .inl (kz25, 30, .inl (fun _ => 0))), (qz23, .inl (kz26, 30, .inl (fun _ => 0)))] H := hP
  have hD : va_D A [(h0, .inr (1, [.ref qz1, .ref qz18, .int 0])), (qz1, .inr (10, [.ref qz4, .ref qz5, .ref qz6, .ref qz7, .ref qz8, .ref qz9, .ref qz10, .int 0, .int 0, .int 0, .int 0, .int 0, .int 0, .int 0, .int 0, .int 0])), (qz4, .inl (kz11, 3, .inl (fun _ => 0))), (qz5, .inl (kz12, 3, .inl (fun _ => 0))), (qz6, .inl (kz13, 7, .inl (fun _ => 0))), (qz7, .inl (kz14, 7, .inl (fun _ => 0))), (qz8, .inl (kz15, 5, .inl (fun _ => 0))), (qz9, .inl (kz16, 5, .inl (fun _ => 0))), (qz10, .inl (kz17, 5, .inl (fun _ => 0))), (qz18, .inr (0, [.ref qz21, .ref qz22, .ref qz23, .int 0])), (qz21, .inl (kz24, 30, .inl (fun _ => 0))), (qz22, .inl (kz25, 30, .inl (fun _ => 0))), (qz23, .inl (kz26, 30, .inl (fun _ => 0)))] := hD
  refine W.widen (k := 12) (n := 145) (Nat.le_of_ble_eq_true rfl) (Nat.le_of_ble_eq_true rfl) ?_
  have hP9 := hP.sub (ws' := [(h0, .inr (1, [.ref qz1, .ref qz18, .int 0])), (qz1, .inr (10, [.ref qz4, .ref qz5, .ref qz6, .ref qz7, .ref qz8, .ref qz9, .ref qz10, .int 0, .int 0, .int 0, .int 0, .int 0, .int 0, .int 0, .int 0, .int 0])), (qz4, .inl (kz11, 3, .inl (fun _ => 0))), (qz5, .inl (kz12, 3, .inl (fun _ => 0))), (qz6, .inl (kz13, 7, .inl (fun _ => 0))), (qz7, .inl (kz14, 7, .inl (fun _ => 0))), (qz8, .inl (kz15, 5, .inl (fun _ => 0))), (qz9, .inl (kz16, 5, .inl (fun _ => 0))), (qz10, .inl (kz17, 5, .inl (fun _ => 0))), (qz18, .inr (0, [.ref qz21, .ref qz22, .ref qz23, .int 0])), (qz21, .inl (kz24, 30, .inl (fun _ => 0))), (qz22, .inl (kz25, 30, .inl (fun _ => 0))), (qz23, .inl (kz26, 30, .inl (fun _ => 0)))]) [0, 1, 2, 3, 4, 5, 6, 7, 8, 9, 10, 11, 12] rfl
  have hD9 := hD.sub (ws' := [(h0, .inr (1, [.ref qz1, .ref qz18, .int 0])), (qz1, .inr (10, [.ref qz4, .ref qz5, .ref qz6, .ref qz7, .ref qz8, .ref qz9, .ref qz10, .int 0, .int 0, .int 0, .int 0, .int 0, .int 0, .int 0, .int 0, .int 0])), (qz4, .inl (kz11, 3, .inl (fun _ => 0))), (qz5, .inl (kz12, 3, .inl (fun _ => 0))), (qz6, .inl (kz13, 7, .inl (fun _ => 0))), (qz7, .inl (kz14, 7, .inl (fun _ => 0))), (qz8, .inl (kz15, 5, .inl (fun _ => 0))), (qz9, .inl (kz16, 5, .inl (fun _ => 0))), (qz10, .inl (kz17, 5, .inl (fun _ => 0))), (qz18, .inr (0, [.ref qz21, .ref qz22, .ref qz23, .int 0])), (qz21, .inl (kz24, 30, .inl (fun _ => 0))), (qz22, .inl (kz25, 30, .inl (fun _ => 0))), (qz23, .inl (kz26, 30, .inl (fun _ => 0)))]) [0, 1, 2, 3, 4, 5, 6, 7, 8, 9, 10, 11, 12] (by decide) rfl
  have hK9 := hK.sub (tys' := [(kz11, .int), (kz12, .int), (kz13, .int), (kz14, .int), (kz15, .int), (kz16, .int), (kz17, .int), (kz24, .int), (kz25, .int), (kz26, .int)]) [0, 1, 2, 3, 4, 5, 6, 7, 8, 9] rfl
  exact W.vret hx hb hr (fun t ht hW => ⟨⟨(), rfl, trivial, qz1, qz18, qz4, qz5, qz6, qz7, qz8, qz9, qz10, kz11, kz12, kz13, kz14, kz15, kz16, kz17, qz21, qz22, qz23, kz24, kz25, kz26, by rw [ht]; exact hP9, va_K.moved hW.alike hK9, hD9⟩, hS.F ht⟩) hS.2.2 dX1_init_26
