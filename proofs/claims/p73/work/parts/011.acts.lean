def wk_c_X0_add : List Cond := .code yX0_add cX0_add 4 (some .boolean) :: ([.fieldLink RX0 21 "SagMemory$Acts" "done" "I", .fieldLink RX0 9 "SagMemory$Acts" "kinds" "[I", .fieldLink RX0 15 "SagMemory$Acts" "carts" "[I", .fieldLink RX0 18 "SagMemory$Acts" "values" "[I"] ++ (wsX00 ++ []))
theorem wkg_c_X0_add : wk_c_X0_add.all goodWord = true := by decide +kernel
set_option maxHeartbeats 4000000 in
set_option maxRecDepth 100000 in
theorem c_X0_add (l : Launch) (dC : Nat → ClassId) (dI : Nat → Nat → Nat) (k : Nat → ClassId) (sz : Nat) (qA : Nat → Nat) (dA : Nat → Int32) (aA : Nat → Nat → Int32) (p1 : Int32) (p2 : Int32) (p3 : Int32) (hdA : Rg 0 30 dA) : Met l yX0_add wk_c_X0_add ({ frames := 0, cells := 0, slots := 0, locals := 0 }) (va_Pc [.ref (qA 0), .int p1, .int p2, .int p3] (fun U => U.heap.size = sz ∧ va_P (dC, dI) vwCl (List.flatten [(wActs qA k dA aA)] ++ List.flatten ([] : List va_W)) U.heap ∧ va_K (dC, dI) vwCl (tK k) U ∧ va_D (fun _ => True) (List.flatten [(wActs qA k dA aA)] ++ List.flatten ([] : List va_W)))) (va_Qi (fun (r : Int32) (_ : Unit) => (r.toInt = 0 ∨ r.toInt = 1)) (fun (_ : Unit) (t : State) => ∃ (dA' : Nat → Int32) (aA' : Nat → Nat → Int32), Rg 0 30 dA' ∧ va_P (dC, dI) vwCl (List.flatten [(wActs qA k dA' aA')] ++ List.flatten ([] : List va_W)) t.heap) (va_A (List.flatten [(wActs qA k dA aA)] ++ List.flatten ([] : List va_W)) sz)) 0 0 (va_A (List.flatten [(wActs qA k dA aA)] ++ List.flatten ([] : List va_W)) sz) := by
  refine Met.ofW (cc := cX0_add) (maxL := 4) (ret := (some .boolean)) (by decide) rfl ?_
  intro p e s m args below meth c s₁ B hml hv
  obtain ⟨rfl, hsz, hP, hK, hD0⟩ := hv
  have hx := B.exec
  have hb := B.bytes
  have hr := B.returns
  have hts := atoms_spec (ws := wk_c_X0_add) B.pre
  have hown : s.vm.findClass RX0 = some m.cls := findClass_of_methodNamed B.named
  have hlocks := B.notSynchronized
  subst hsz
  have hD := hD0.self (sz := s.heap.size)
  generalize hAe : va_A (List.flatten [(wActs qA k dA aA)] ++ List.flatten ([] : List va_W)) s.heap.size = A at hD ⊢
  have hA : ∀ q : Nat, s.heap.size ≤ q → A q := fun q h => by rw [← hAe]; exact Or.inr h
  have hS : va_S A s.heap s.heap [] := va_S.rf
  have hP : va_P (dC, dI) vwCl (List.flatten [(wActs qA k dA aA)] ++ List.flatten ([] : List va_W)) s.heap := hP
  have hl := lv_entry ([.ref (qA 0), .int p1, .int p2, .int p3]) (n := 4) (Nat.le_of_ble_eq_true rfl)
  rw [lg_entry_eq]
  generalize (lg_sl ([.ref (qA 0), .int p1, .int p2, .int p3]) ++ List.replicate (4 - (lg_sl ([.ref (qA 0), .int p1, .int p2, .int p3])).length) Slot.unset).toArray = ls at hl ⊢
  have hl : lv_has ls 4 [(0, .ref (qA 0)), (1, .int p1), (2, .int p2), (3, .int p3)] := hl
  refine w_gen (fun Q hQ => ?_)
  refine lv_aload_n hx hb dX0_add_0 rfl (lv_at hl 0 rfl) ?_
  refine va_get (D := (dC, dI)) (ci := 0) (v := .int (dA 0)) (C := RX0) (T := TX0) (N := 4) hx hb hts (fun w h => List.mem_cons_of_mem _ (List.mem_append_right _ (List.mem_append_left _ h))) hown hK hP 0 rfl rfl 3 (by decide) (hts (.fieldLink RX0 21 "SagMemory$Acts" "done" "I") (wl_mem 0 rfl)) (fun _ h9 => h9) rfl dX0_add_1 ?_
  have bz1 := hdA 0
  refine lv_if_lt (tgt := 16) hx hb dX0_add_4 (by decide) (fun cz2 => ?_) (fun cz2 => ?_)
  · skip
    have zz3 : (dA 0).toInt < (0 : Int) := zi_lt.mp cz2
    omega
  · skip
    have zz4 : ¬ (dA 0).toInt < (0 : Int) := fun h9 => cz2 (zi_lt.mpr h9)
    refine lv_aload_n hx hb dX0_add_7 rfl (lv_at hl 0 rfl) ?_
    refine va_get (D := (dC, dI)) (ci := 0) (v := .int (dA 0)) (C := RX0) (T := TX0) (N := 4) hx hb hts (fun w h => List.mem_cons_of_mem _ (List.mem_append_right _ (List.mem_append_left _ h))) hown hK hP 0 rfl rfl 3 (by decide) (hts (.fieldLink RX0 21 "SagMemory$Acts" "done" "I") (wl_mem 0 rfl)) (fun _ h9 => h9) rfl dX0_add_8 ?_
    refine lv_bipush (v := 30) hx hb dX0_add_11 (by decide) ?_
    refine lv_icmp_lt (tgt := 18) hx hb dX0_add_13 (by decide) (fun cz5 => ?_) (fun cz5 => ?_)
    · skip
      have zz6 : (dA 0).toInt < (30 : Int) := zi_lt.mp cz5
      refine lv_aload_n hx hb dX0_add_18 rfl (lv_at hl 0 rfl) ?_
      refine va_get (D := (dC, dI)) (ci := 0) (v := .ref (qA 1)) (C := RX0) (T := TX0) (N := 4) hx hb hts (fun w h => List.mem_cons_of_mem _ (List.mem_append_right _ (List.mem_append_left _ h))) hown hK hP 0 rfl rfl 0 (by decide) (hts (.fieldLink RX0 9 "SagMemory$Acts" "kinds" "[I") (wl_mem 1 rfl)) (fun _ h9 => h9) rfl dX0_add_19 ?_
      refine lv_aload_n hx hb dX0_add_22 rfl (lv_at hl 0 rfl) ?_
      refine va_get (D := (dC, dI)) (ci := 0) (v := .int (dA 0)) (C := RX0) (T := TX0) (N := 4) hx hb hts (fun w h => List.mem_cons_of_mem _ (List.mem_append_right _ (List.mem_append_left _ h))) hown hK hP 0 rfl rfl 3 (by decide) (hts (.fieldLink RX0 21 "SagMemory$Acts" "done" "I") (wl_mem 0 rfl)) (fun _ h9 => h9) rfl dX0_add_23 ?_
      refine lv_iload_n hx hb dX0_add_26 rfl (lv_at hl 1 rfl) ?_
      refine va_iast hx hb hK hP hD hS 1 0 rfl rfl (vp_in_iff.mpr ⟨by omega, by omega⟩) dX0_add_27 (fun H locs hP hD hS => ?_)
      obtain ⟨fz7, efz7, hP, hD⟩ : ∃ fz7 : Nat → Int32, fz7 = upd (aA 0) (dA 0).toNatClampNeg p1 ∧ va_P (dC, dI) vwCl (List.flatten [(wActs qA k dA (va_up aA 0 fz7))] ++ List.flatten ([] : List va_W)) H ∧ va_D A (List.flatten [(wActs qA k dA (va_up aA 0 fz7))] ++ List.flatten ([] : List va_W)) := ⟨_, rfl, hP, hD⟩
      have kfz7 : fz7 (dA 0).toNatClampNeg = p1 := by rw [efz7]; exact pk_us
      refine lv_aload_n hx hb dX0_add_28 rfl (lv_at hl 0 rfl) ?_
      refine va_get (D := (dC, dI)) (ci := 0) (v := .ref (qA 2)) (C := RX0) (T := TX0) (N := 4) hx hb hts (fun w h => List.mem_cons_of_mem _ (List.mem_append_right _ (List.mem_append_left _ h))) hown hK hP 0 rfl rfl 1 (by decide) (hts (.fieldLink RX0 15 "SagMemory$Acts" "carts" "[I") (wl_mem 2 rfl)) (fun _ h9 => h9) rfl dX0_add_29 ?_
      refine lv_aload_n hx hb dX0_add_32 rfl (lv_at hl 0 rfl) ?_
      refine va_get (D := (dC, dI)) (ci := 0) (v := .int (dA 0)) (C := RX0) (T := TX0) (N := 4) hx hb hts (fun w h => List.mem_cons_of_mem _ (List.mem_append_right _ (List.mem_append_left _ h))) hown hK hP 0 rfl rfl 3 (by decide) (hts (.fieldLink RX0 21 "SagMemory$Acts" "done" "I") (wl_mem 0 rfl)) (fun _ h9 => h9) rfl dX0_add_33 ?_
      refine lv_iload_n hx hb dX0_add_36 rfl (lv_at hl 2 rfl) ?_
      refine va_iast hx hb hK hP hD hS 2 0 rfl rfl (vp_in_iff.mpr ⟨by omega, by omega⟩) dX0_add_37 (fun H locs hP hD hS => ?_)
      obtain ⟨fz8, efz8, hP, hD⟩ : ∃ fz8 : Nat → Int32, fz8 = upd (aA 1) (dA 0).toNatClampNeg p2 ∧ va_P (dC, dI) vwCl (List.flatten [(wActs qA k dA (va_up (va_up aA 0 fz7) 1 fz8))] ++ List.flatten ([] : List va_W)) H ∧ va_D A (List.flatten [(wActs qA k dA (va_up (va_up aA 0 fz7) 1 fz8))] ++ List.flatten ([] : List va_W)) := ⟨_, rfl, hP, hD⟩
      have kfz8 : fz8 (dA 0).toNatClampNeg = p2 := by rw [efz8]; exact pk_us
      refine lv_aload_n hx hb dX0_add_38 rfl (lv_at hl 0 rfl) ?_
      refine va_get (D := (dC, dI)) (ci := 0) (v := .ref (qA 3)) (C := RX0) (T := TX0) (N := 4) hx hb hts (fun w h => List.mem_cons_of_mem _ (List.mem_append_right _ (List.mem_append_left _ h))) hown hK hP 0 rfl rfl 2 (by decide) (hts (.fieldLink RX0 18 "SagMemory$Acts" "values" "[I") (wl_mem 3 rfl)) (fun _ h9 => h9) rfl dX0_add_39 ?_
      refine lv_aload_n hx hb dX0_add_42 rfl (lv_at hl 0 rfl) ?_
      refine va_get (D := (dC, dI)) (ci := 0) (v := .int (dA 0)) (C := RX0) (T := TX0) (N := 4) hx hb hts (fun w h => List.mem_cons_of_mem _ (List.mem_append_right _ (List.mem_append_left _ h))) hown hK hP 0 rfl rfl 3 (by decide) (hts (.fieldLink RX0 21 "SagMemory$Acts" "done" "I") (wl_mem 0 rfl)) (fun _ h9 => h9) rfl dX0_add_43 ?_
      refine lv_iload_n hx hb dX0_add_46 rfl (lv_at hl 3 rfl) ?_
      refine va_iast hx hb hK hP hD hS 3 0 rfl rfl (vp_in_iff.mpr ⟨by omega, by omega⟩) dX0_add_47 (fun H locs hP hD hS => ?_)
      obtain ⟨fz9, efz9, hP, hD⟩ : ∃ fz9 : Nat → Int32, fz9 = upd (aA 2) (dA 0).toNatClampNeg p3 ∧ va_P (dC, dI) vwCl (List.flatten [(wActs qA k dA (va_up (va_up (va_up aA 0 fz7) 1 fz8) 2 fz9))] ++ List.flatten ([] : List va_W)) H ∧ va_D A (List.flatten [(wActs qA k dA (va_up (va_up (va_up aA 0 fz7) 1 fz8) 2 fz9))] ++ List.flatten ([] : List va_W)) := ⟨_, rfl, hP, hD⟩
      have kfz9 : fz9 (dA 0).toNatClampNeg = p3 := by rw [efz9]; exact pk_us
      refine lv_aload_n hx hb dX0_add_48 rfl (lv_at hl 0 rfl) ?_
      refine lv_dup hx hb dX0_add_49 rfl ?_
      refine va_get (D := (dC, dI)) (ci := 0) (v := .int (dA 0)) (C := RX0) (T := TX0) (N := 4) hx hb hts (fun w h => List.mem_cons_of_mem _ (List.mem_append_right _ (List.mem_append_left _ h))) hown hK hP 0 rfl rfl 3 (by decide) (hts (.fieldLink RX0 21 "SagMemory$Acts" "done" "I") (wl_mem 0 rfl)) (fun _ h9 => h9) rfl dX0_add_50 ?_
      refine lv_iconst (v := 1) hx hb dX0_add_53 (by decide) ?_
      refine lv_iadd hx hb dX0_add_54 ?_
      refine lv_topi (fun xz10 exz10 => ?_)
      have fxz10 : xz10.toInt = (dA 0).toInt + (1 : Int) := by rw [exz10]; exact fb_addI (x := (dA 0)) (y := (1 : Int32)) (by show -2147483648 ≤ (dA 0).toInt + (1 : Int); omega) (by show (dA 0).toInt + (1 : Int) < 2147483648; omega)
      refine va_put (D := (dC, dI)) (ci := 0) (v := .int xz10) (ty := .int) (C := RX0) (T := TX0) (N := 4) hx hb hts (fun w h => List.mem_cons_of_mem _ (List.mem_append_right _ (List.mem_append_left _ h))) tyX0 tyX0_ok nmX0 hown hK hP hD hS 0 rfl rfl 3 (by decide) (hts (.fieldLink RX0 21 "SagMemory$Acts" "done" "I") (wl_mem 0 rfl)) (fun _ h9 => h9) rfl (by decide +kernel) rfl rfl (Nat.le_of_ble_eq_true rfl) dX0_add_55 (fun H locs hP hD hS => ?_)
      have hP : va_P (dC, dI) vwCl (List.flatten [(wActs qA k (va_up dA 0 xz10) (va_up (va_up (va_up aA 0 fz7) 1 fz8) 2 fz9))] ++ List.flatten ([] : List va_W)) H := hP
      have hD : va_D A (List.flatten [(wActs qA k (va_up dA 0 xz10) (va_up (va_up (va_up aA 0 fz7) 1 fz8) 2 fz9))] ++ List.flatten ([] : List va_W)) := hD
      refine lv_iconst (v := 1) hx hb dX0_add_58 (by decide) ?_
      rw [hQ]
      exact W.zret (v := (1 : Int32)) hx hb hr rfl (fun t ht hW => ⟨⟨(1 : Int32), (), rfl, (by show (1 : Int) = 0 ∨ (1 : Int) = 1; omega), (va_up dA 0 xz10), (va_up (va_up (va_up aA 0 fz7) 1 fz8) 2 fz9), (rg_up hdA (by show 0 ≤ xz10.toInt ∧ xz10.toInt ≤ 30; omega)), by rw [ht]; exact hP⟩, hS.F ht⟩) hS.2.2 dX0_add_59
    · skip
      have zz11 : ¬ (dA 0).toInt < (30 : Int) := fun h9 => cz5 (zi_lt.mpr h9)
      refine lv_iconst (v := 0) hx hb dX0_add_16 (by decide) ?_
      rw [hQ]
      exact W.zret (v := (0 : Int32)) hx hb hr rfl (fun t ht hW => ⟨⟨(0 : Int32), (), rfl, (by show (0 : Int) = 0 ∨ (0 : Int) = 1; omega), dA, aA, hdA, by rw [ht]; exact hP⟩, hS.F ht⟩) hS.2.2 dX0_add_17
def wk_c_X0_take : List Cond := .code yX0_take cX0_take 2 none :: ([.fieldLink RX0 9 "SagMemory$Acts" "kinds" "[I", .methodLink RX0 25 arraycopyName, .native arraycopyName, .static arraycopyName, .initialized "java/lang/System", .fieldLink RX0 15 "SagMemory$Acts" "carts" "[I", .fieldLink RX0 18 "SagMemory$Acts" "values" "[I", .fieldLink RX0 21 "SagMemory$Acts" "done" "I"] ++ (wsX00 ++ []))
theorem wkg_c_X0_take : wk_c_X0_take.all goodWord = true := by decide +kernel
set_option maxHeartbeats 4000000 in
set_option maxRecDepth 100000 in
theorem c_X0_take (l : Launch) (dC : Nat → ClassId) (dI : Nat → Nat → Nat) (k : Nat → ClassId) (sz : Nat) (qA : Nat → Nat) (dA : Nat → Int32) (aA : Nat → Nat → Int32) (qO : Nat → Nat) (dO : Nat → Int32) (aO : Nat → Nat → Int32) (hdA : Rg 0 30 dA) (hdO : Rg 0 30 dO) : Met l yX0_take wk_c_X0_take ({ frames := 1, cells := 0, slots := 0, locals := 80 }) (va_Pc [.ref (qA 0), .ref (qO 0)] (fun U => U.heap.size = sz ∧ va_P (dC, dI) vwCl (List.flatten [(wActs qA k dA aA)] ++ List.flatten [(wActs qO k dO aO)]) U.heap ∧ va_K (dC, dI) vwCl (tK k) U ∧ va_D (fun _ => True) (List.flatten [(wActs qA k dA aA)] ++ List.flatten [(wActs qO k dO aO)]))) (va_Qv (fun _ : Unit => True) (fun (_ : Unit) (t : State) => ∃ (dA' : Nat → Int32) (aA' : Nat → Nat → Int32), Rg 0 30 dA' ∧ va_P (dC, dI) vwCl (List.flatten [(wActs qA k dA' aA')] ++ List.flatten [(wActs qO k dO aO)]) t.heap) (va_A (List.flatten [(wActs qA k dA aA)] ++ List.flatten [(wActs qO k dO aO)]) sz)) 0 0 (va_A (List.flatten [(wActs qA k dA aA)] ++ List.flatten [(wActs qO k dO aO)]) sz) := by
  refine Met.ofW (cc := cX0_take) (maxL := 2) (ret := none) (by decide) rfl ?_
  intro p e s m args below meth c s₁ B hml hv
  obtain ⟨rfl, hsz, hP, hK, hD0⟩ := hv
  have hx := B.exec
  have hb := B.bytes
  have hr := B.returns
  have hts := atoms_spec (ws := wk_c_X0_take) B.pre
  have hown : s.vm.findClass RX0 = some m.cls := findClass_of_methodNamed B.named
  have hlocks := B.notSynchronized
  subst hsz
  have hD := hD0.self (sz := s.heap.size)
  generalize hAe : va_A (List.flatten [(wActs qA k dA aA)] ++ List.flatten [(wActs qO k dO aO)]) s.heap.size = A at hD ⊢
  have hA : ∀ q : Nat, s.heap.size ≤ q → A q := fun q h => by rw [← hAe]; exact Or.inr h
  have hS : va_S A s.heap s.heap [] := va_S.rf
  have hP : va_P (dC, dI) vwCl (List.flatten [(wActs qA k dA aA)] ++ List.flatten [(wActs qO k dO aO)]) s.heap := hP
  have hl := lv_entry ([.ref (qA 0), .ref (qO 0)]) (n := 2) (Nat.le_of_ble_eq_true rfl)
  rw [lg_entry_eq]
  generalize (lg_sl ([.ref (qA 0), .ref (qO 0)]) ++ List.replicate (2 - (lg_sl ([.ref (qA 0), .ref (qO 0)])).length) Slot.unset).toArray = ls at hl ⊢
  have hl : lv_has ls 2 [(0, .ref (qA 0)), (1, .ref (qO 0))] := hl
  refine w_gen (fun Q hQ => ?_)
  refine lv_aload_n hx hb dX0_take_0 rfl (lv_at hl 1 rfl) ?_
  refine va_get (D := (dC, dI)) (ci := 0) (v := .ref (qO 1)) (C := RX0) (T := TX0) (N := 4) hx hb hts (fun w h => List.mem_cons_of_mem _ (List.mem_append_right _ (List.mem_append_left _ h))) hown hK hP 4 rfl rfl 0 (by decide) (hts (.fieldLink RX0 9 "SagMemory$Acts" "kinds" "[I") (wl_mem 0 rfl)) (fun _ h9 => h9) rfl dX0_take_1 ?_
  refine lv_iconst (v := 0) hx hb dX0_take_4 (by decide) ?_
  refine lv_aload_n hx hb dX0_take_5 rfl (lv_at hl 0 rfl) ?_
  refine va_get (D := (dC, dI)) (ci := 0) (v := .ref (qA 1)) (C := RX0) (T := TX0) (N := 4) hx hb hts (fun w h => List.mem_cons_of_mem _ (List.mem_append_right _ (List.mem_append_left _ h))) hown hK hP 0 rfl rfl 0 (by decide) (hts (.fieldLink RX0 9 "SagMemory$Acts" "kinds" "[I") (wl_mem 0 rfl)) (fun _ h9 => h9) rfl dX0_take_6 ?_
  refine lv_iconst (v := 0) hx hb dX0_take_9 (by decide) ?_
  refine lv_bipush (v := 30) hx hb dX0_take_10 (by decide) ?_
  refine va_copyi (ty := .int) hx hb (by rw [hml]; exact hl.1.symm) hown (hts (.methodLink RX0 25 arraycopyName) (wl_mem 1 rfl)) (hts (.native arraycopyName) (wl_mem 2 rfl)) (hts (.static arraycopyName) (wl_mem 3 rfl)) (hts (.initialized "java/lang/System") (wl_mem 4 rfl)) hK hP hD hS 5 1 0 0 rfl rfl rfl rfl rfl (by decide) (by decide) (by decide) (by decide) (by decide) (fun _ _ => rfl) (Nat.le_of_ble_eq_true rfl) (Nat.le_of_ble_eq_true rfl) dX0_take_12 (fun H locs hP hD hS => ?_)
  obtain ⟨fz1, efz1, hP, hD⟩ : ∃ fz1 : Nat → Int32, fz1 = va_cpy (aO 0) (aA 0) (0 : Int32).toNatClampNeg (0 : Int32).toNatClampNeg (30 : Int32).toNatClampNeg ∧ va_P (dC, dI) vwCl (List.flatten [(wActs qA k dA (va_up aA 0 fz1))] ++ List.flatten [(wActs qO k dO aO)]) H ∧ va_D A (List.flatten [(wActs qA k dA (va_up aA 0 fz1))] ++ List.flatten [(wActs qO k dO aO)]) := ⟨_, rfl, hP, hD⟩
  refine lv_aload_n hx hb dX0_take_15 rfl (lv_at hl 1 rfl) ?_
  refine va_get (D := (dC, dI)) (ci := 0) (v := .ref (qO 2)) (C := RX0) (T := TX0) (N := 4) hx hb hts (fun w h => List.mem_cons_of_mem _ (List.mem_append_right _ (List.mem_append_left _ h))) hown hK hP 4 rfl rfl 1 (by decide) (hts (.fieldLink RX0 15 "SagMemory$Acts" "carts" "[I") (wl_mem 5 rfl)) (fun _ h9 => h9) rfl dX0_take_16 ?_
  refine lv_iconst (v := 0) hx hb dX0_take_19 (by decide) ?_
  refine lv_aload_n hx hb dX0_take_20 rfl (lv_at hl 0 rfl) ?_
  refine va_get (D := (dC, dI)) (ci := 0) (v := .ref (qA 2)) (C := RX0) (T := TX0) (N := 4) hx hb hts (fun w h => List.mem_cons_of_mem _ (List.mem_append_right _ (List.mem_append_left _ h))) hown hK hP 0 rfl rfl 1 (by decide) (hts (.fieldLink RX0 15 "SagMemory$Acts" "carts" "[I") (wl_mem 5 rfl)) (fun _ h9 => h9) rfl dX0_take_21 ?_
  refine lv_iconst (v := 0) hx hb dX0_take_24 (by decide) ?_
  refine lv_bipush (v := 30) hx hb dX0_take_25 (by decide) ?_
  refine va_copyi (ty := .int) hx hb (by rw [hml]; exact hl.1.symm) hown (hts (.methodLink RX0 25 arraycopyName) (wl_mem 1 rfl)) (hts (.native arraycopyName) (wl_mem 2 rfl)) (hts (.static arraycopyName) (wl_mem 3 rfl)) (hts (.initialized "java/lang/System") (wl_mem 4 rfl)) hK hP hD hS 6 2 0 0 rfl rfl rfl rfl rfl (by decide) (by decide) (by decide) (by decide) (by decide) (fun _ _ => rfl) (Nat.le_of_ble_eq_true rfl) (Nat.le_of_ble_eq_true rfl) dX0_take_27 (fun H locs hP hD hS => ?_)
  obtain ⟨fz2, efz2, hP, hD⟩ : ∃ fz2 : Nat → Int32, fz2 = va_cpy (aO 1) (aA 1) (0 : Int32).toNatClampNeg (0 : Int32).toNatClampNeg (30 : Int32).toNatClampNeg ∧ va_P (dC, dI) vwCl (List.flatten [(wActs qA k dA (va_up (va_up aA 0 fz1) 1 fz2))] ++ List.flatten [(wActs qO k dO aO)]) H ∧ va_D A (List.flatten [(wActs qA k dA (va_up (va_up aA 0 fz1) 1 fz2))] ++ List.flatten [(wActs qO k dO aO)]) := ⟨_, rfl, hP, hD⟩
  refine lv_aload_n hx hb dX0_take_30 rfl (lv_at hl 1 rfl) ?_
  refine va_get (D := (dC, dI)) (ci := 0) (v := .ref (qO 3)) (C := RX0) (T := TX0) (N := 4) hx hb hts (fun w h => List.mem_cons_of_mem _ (List.mem_append_right _ (List.mem_append_left _ h))) hown hK hP 4 rfl rfl 2 (by decide) (hts (.fieldLink RX0 18 "SagMemory$Acts" "values" "[I") (wl_mem 6 rfl)) (fun _ h9 => h9) rfl dX0_take_31 ?_
  refine lv_iconst (v := 0) hx hb dX0_take_34 (by decide) ?_
  refine lv_aload_n hx hb dX0_take_35 rfl (lv_at hl 0 rfl) ?_
  refine va_get (D := (dC, dI)) (ci := 0) (v := .ref (qA 3)) (C := RX0) (T := TX0) (N := 4) hx hb hts (fun w h => List.mem_cons_of_mem _ (List.mem_append_right _ (List.mem_append_left _ h))) hown hK hP 0 rfl rfl 2 (by decide) (hts (.fieldLink RX0 18 "SagMemory$Acts" "values" "[I") (wl_mem 6 rfl)) (fun _ h9 => h9) rfl dX0_take_36 ?_
  refine lv_iconst (v := 0) hx hb dX0_take_39 (by decide) ?_
  refine lv_bipush (v := 30) hx hb dX0_take_40 (by decide) ?_
  refine va_copyi (ty := .int) hx hb (by rw [hml]; exact hl.1.symm) hown (hts (.methodLink RX0 25 arraycopyName) (wl_mem 1 rfl)) (hts (.native arraycopyName) (wl_mem 2 rfl)) (hts (.static arraycopyName) (wl_mem 3 rfl)) (hts (.initialized "java/lang/System") (wl_mem 4 rfl)) hK hP hD hS 7 3 0 0 rfl rfl rfl rfl rfl (by decide) (by decide) (by decide) (by decide) (by decide) (fun _ _ => rfl) (Nat.le_of_ble_eq_true rfl) (Nat.le_of_ble_eq_true rfl) dX0_take_42 (fun H locs hP hD hS => ?_)
  obtain ⟨fz3, efz3, hP, hD⟩ : ∃ fz3 : Nat → Int32, fz3 = va_cpy (aO 2) (aA 2) (0 : Int32).toNatClampNeg (0 : Int32).toNatClampNeg (30 : Int32).toNatClampNeg ∧ va_P (dC, dI) vwCl (List.flatten [(wActs qA k dA (va_up (va_up (va_up aA 0 fz1) 1 fz2) 2 fz3))] ++ List.flatten [(wActs qO k dO aO)]) H ∧ va_D A (List.flatten [(wActs qA k dA (va_up (va_up (va_up aA 0 fz1) 1 fz2) 2 fz3))] ++ List.flatten [(wActs qO k dO aO)]) := ⟨_, rfl, hP, hD⟩
  refine lv_aload_n hx hb dX0_take_45 rfl (lv_at hl 0 rfl) ?_
  refine lv_aload_n hx hb dX0_take_46 rfl (lv_at hl 1 rfl) ?_
  refine va_get (D := (dC, dI)) (ci := 0) (v := .int (dO 0)) (C := RX0) (T := TX0) (N := 4) hx hb hts (fun w h => List.mem_cons_of_mem _ (List.mem_append_right _ (List.mem_append_left _ h))) hown hK hP 4 rfl rfl 3 (by decide) (hts (.fieldLink RX0 21 "SagMemory$Acts" "done" "I") (wl_mem 7 rfl)) (fun _ h9 => h9) rfl dX0_take_47 ?_
  have bz4 := hdO 0
  refine va_put (D := (dC, dI)) (ci := 0) (v := .int (dO 0)) (ty := .int) (C := RX0) (T := TX0) (N := 4) hx hb hts (fun w h => List.mem_cons_of_mem _ (List.mem_append_right _ (List.mem_append_left _ h))) tyX0 tyX0_ok nmX0 hown hK hP hD hS 0 rfl rfl 3 (by decide) (hts (.fieldLink RX0 21 "SagMemory$Acts" "done" "I") (wl_mem 7 rfl)) (fun _ h9 => h9) rfl (by decide +kernel) rfl rfl (Nat.le_of_ble_eq_true rfl) dX0_take_50 (fun H locs hP hD hS => ?_)
  have hP : va_P (dC, dI) vwCl (List.flatten [(wActs qA k (va_up dA 0 (dO 0)) (va_up (va_up (va_up aA 0 fz1) 1 fz2) 2 fz3))] ++ List.flatten [(wActs qO k dO aO)]) H := hP
  have hD : va_D A (List.flatten [(wActs qA k (va_up dA 0 (dO 0)) (va_up (va_up (va_up aA 0 fz1) 1 fz2) 2 fz3))] ++ List.flatten [(wActs qO k dO aO)]) := hD
  rw [hQ]
  exact W.vret hx hb hr (fun t ht hW => ⟨⟨(), rfl, trivial, (va_up dA 0 (dO 0)), (va_up (va_up (va_up aA 0 fz1) 1 fz2) 2 fz3), (rg_up hdA (by show 0 ≤ (dO 0).toInt ∧ (dO 0).toInt ≤ 30; omega)), by rw [ht]; exact hP⟩, hS.F ht⟩) hS.2.2 dX0_take_53
def wk_c_X3_take : List Cond := .code yX3_take cX3_take 2 none :: ([.fieldLink RX3 9 "SagMemory$Plan" "loads" "[I", .methodLink RX3 21 arraycopyName, .native arraycopyName, .static arraycopyName, .initialized "java/lang/System", .fieldLink RX3 15 "SagMemory$Plan" "ways" "[I", .fieldLink RX3 32 "SagMemory$Plan" "law" "I", .fieldLink RX3 36 "SagMemory$Plan" "cold" "I"] ++ (wsX30 ++ []))
theorem wkg_c_X3_take : wk_c_X3_take.all goodWord = true := by decide +kernel
set_option maxHeartbeats 4000000 in
set_option maxRecDepth 100000 in
theorem c_X3_take (l : Launch) (dC : Nat → ClassId) (dI : Nat → Nat → Nat) (k : Nat → ClassId) (sz : Nat) (qP : Nat → Nat) (vP : Nat → Int32) (aP : Nat → Nat → Int32) (eP : Nat → Nat → Int32) (qO : Nat → Nat) (vO : Nat → Int32) (aO : Nat → Nat → Int32) (eO : Nat → Nat → Int32) (heP : RgA 0 99 eP) (heO : RgA 0 99 eO) : Met l yX3_take wk_c_X3_take ({ frames := 1, cells := 0, slots := 0, locals := 80 }) (va_Pc [.ref (qP 0), .ref (qO 0)] (fun U => U.heap.size = sz ∧ va_P (dC, dI) vwCl (List.flatten [(wPlan qP k vP aP eP)] ++ List.flatten [(wPlan qO k vO aO eO)]) U.heap ∧ va_K (dC, dI) vwCl (tK k) U ∧ va_D (fun _ => True) (List.flatten [(wPlan qP k vP aP eP)] ++ List.flatten [(wPlan qO k vO aO eO)]))) (va_Qv (fun _ : Unit => True) (fun (_ : Unit) (t : State) => ∃ (vP' : Nat → Int32) (aP' : Nat → Nat → Int32) (eP' : Nat → Nat → Int32), RgA 0 99 eP' ∧ va_P (dC, dI) vwCl (List.flatten [(wPlan qP k vP' aP' eP')] ++ List.flatten [(wPlan qO k vO aO eO)]) t.heap) (va_A (List.flatten [(wPlan qP k vP aP eP)] ++ List.flatten [(wPlan qO k vO aO eO)]) sz)) 0 0 (va_A (List.flatten [(wPlan qP k vP aP eP)] ++ List.flatten [(wPlan qO k vO aO eO)]) sz) := by
  refine Met.ofW (cc := cX3_take) (maxL := 2) (ret := none) (by decide) rfl ?_
  intro p e s m args below meth c s₁ B hml hv
  obtain ⟨rfl, hsz, hP, hK, hD0⟩ := hv
  have hx := B.exec
  have hb := B.bytes
  have hr := B.returns
  have hts := atoms_spec (ws := wk_c_X3_take) B.pre
  have hown : s.vm.findClass RX3 = some m.cls := findClass_of_methodNamed B.named
  have hlocks := B.notSynchronized
  subst hsz
  have hD := hD0.self (sz := s.heap.size)
  generalize hAe : va_A (List.flatten [(wPlan qP k vP aP eP)] ++ List.flatten [(wPlan qO k vO aO eO)]) s.heap.size = A at hD ⊢
  have hA : ∀ q : Nat, s.heap.size ≤ q → A q := fun q h => by rw [← hAe]; exact Or.inr h
  have hS : va_S A s.heap s.heap [] := va_S.rf
  have hP : va_P (dC, dI) vwCl (List.flatten [(wPlan qP k vP aP eP)] ++ List.flatten [(wPlan qO k vO aO eO)]) s.heap := hP
  have hl := lv_entry ([.ref (qP 0), .ref (qO 0)]) (n := 2) (Nat.le_of_ble_eq_true rfl)
  rw [lg_entry_eq]
  generalize (lg_sl ([.ref (qP 0), .ref (qO 0)]) ++ List.replicate (2 - (lg_sl ([.ref (qP 0), .ref (qO 0)])).length) Slot.unset).toArray = ls at hl ⊢
  have hl : lv_has ls 2 [(0, .ref (qP 0)), (1, .ref (qO 0))] := hl
  refine w_gen (fun Q hQ => ?_)
  refine lv_aload_n hx hb dX3_take_0 rfl (lv_at hl 1 rfl) ?_
  refine va_get (D := (dC, dI)) (ci := 3) (v := .ref (qO 1)) (C := RX3) (T := TX3) (N := 4) hx hb hts (fun w h => List.mem_cons_of_mem _ (List.mem_append_right _ (List.mem_append_left _ h))) hown hK hP 3 rfl rfl 0 (by decide) (hts (.fieldLink RX3 9 "SagMemory$Plan" "loads" "[I") (wl_mem 0 rfl)) (fun _ h9 => h9) rfl dX3_take_1 ?_
  refine lv_iconst (v := 0) hx hb dX3_take_4 (by decide) ?_
  refine lv_aload_n hx hb dX3_take_5 rfl (lv_at hl 0 rfl) ?_
  refine va_get (D := (dC, dI)) (ci := 3) (v := .ref (qP 1)) (C := RX3) (T := TX3) (N := 4) hx hb hts (fun w h => List.mem_cons_of_mem _ (List.mem_append_right _ (List.mem_append_left _ h))) hown hK hP 0 rfl rfl 0 (by decide) (hts (.fieldLink RX3 9 "SagMemory$Plan" "loads" "[I") (wl_mem 0 rfl)) (fun _ h9 => h9) rfl dX3_take_6 ?_
  refine lv_iconst (v := 0) hx hb dX3_take_9 (by decide) ?_
  refine lv_bipush (v := 7) hx hb dX3_take_10 (by decide) ?_
  refine va_copyi (ty := .int) hx hb (by rw [hml]; exact hl.1.symm) hown (hts (.methodLink RX3 21 arraycopyName) (wl_mem 1 rfl)) (hts (.native arraycopyName) (wl_mem 2 rfl)) (hts (.static arraycopyName) (wl_mem 3 rfl)) (hts (.initialized "java/lang/System") (wl_mem 4 rfl)) hK hP hD hS 4 1 0 0 rfl rfl rfl rfl rfl (by decide) (by decide) (by decide) (by decide) (by decide) (fun _ _ => rfl) (Nat.le_of_ble_eq_true rfl) (Nat.le_of_ble_eq_true rfl) dX3_take_12 (fun H locs hP hD hS => ?_)
  obtain ⟨fz1, efz1, hP, hD⟩ : ∃ fz1 : Nat → Int32, fz1 = va_cpy (eO 0) (eP 0) (0 : Int32).toNatClampNeg (0 : Int32).toNatClampNeg (7 : Int32).toNatClampNeg ∧ va_P (dC, dI) vwCl (List.flatten [(wPlan qP k vP aP (va_up eP 0 fz1))] ++ List.flatten [(wPlan qO k vO aO eO)]) H ∧ va_D A (List.flatten [(wPlan qP k vP aP (va_up eP 0 fz1))] ++ List.flatten [(wPlan qO k vO aO eO)]) := ⟨_, rfl, hP, hD⟩
  have hfz1 : Rg 0 99 fz1 := by rw [efz1]; exact rg_cpy (heO 0) (heP 0)
  refine lv_aload_n hx hb dX3_take_15 rfl (lv_at hl 1 rfl) ?_
  refine va_get (D := (dC, dI)) (ci := 3) (v := .ref (qO 2)) (C := RX3) (T := TX3) (N := 4) hx hb hts (fun w h => List.mem_cons_of_mem _ (List.mem_append_right _ (List.mem_append_left _ h))) hown hK hP 3 rfl rfl 1 (by decide) (hts (.fieldLink RX3 15 "SagMemory$Plan" "ways" "[I") (wl_mem 5 rfl)) (fun _ h9 => h9) rfl dX3_take_16 ?_
  refine lv_iconst (v := 0) hx hb dX3_take_19 (by decide) ?_
  refine lv_aload_n hx hb dX3_take_20 rfl (lv_at hl 0 rfl) ?_
  refine va_get (D := (dC, dI)) (ci := 3) (v := .ref (qP 2)) (C := RX3) (T := TX3) (N := 4) hx hb hts (fun w h => List.mem_cons_of_mem _ (List.mem_append_right _ (List.mem_append_left _ h))) hown hK hP 0 rfl rfl 1 (by decide) (hts (.fieldLink RX3 15 "SagMemory$Plan" "ways" "[I") (wl_mem 5 rfl)) (fun _ h9 => h9) rfl dX3_take_21 ?_
  refine lv_iconst (v := 0) hx hb dX3_take_24 (by decide) ?_
  refine lv_bipush (v := 7) hx hb dX3_take_25 (by decide) ?_
  refine va_copyi (ty := .int) hx hb (by rw [hml]; exact hl.1.symm) hown (hts (.methodLink RX3 21 arraycopyName) (wl_mem 1 rfl)) (hts (.native arraycopyName) (wl_mem 2 rfl)) (hts (.static arraycopyName) (wl_mem 3 rfl)) (hts (.initialized "java/lang/System") (wl_mem 4 rfl)) hK hP hD hS 5 2 0 0 rfl rfl rfl rfl rfl (by decide) (by decide) (by decide) (by decide) (by decide) (fun _ _ => rfl) (Nat.le_of_ble_eq_true rfl) (Nat.le_of_ble_eq_true rfl) dX3_take_27 (fun H locs hP hD hS => ?_)
  obtain ⟨fz2, efz2, hP, hD⟩ : ∃ fz2 : Nat → Int32, fz2 = va_cpy (aO 0) (aP 0) (0 : Int32).toNatClampNeg (0 : Int32).toNatClampNeg (7 : Int32).toNatClampNeg ∧ va_P (dC, dI) vwCl (List.flatten [(wPlan qP k vP (va_up aP 0 fz2) (va_up eP 0 fz1))] ++ List.flatten [(wPlan qO k vO aO eO)]) H ∧ va_D A (List.flatten [(wPlan qP k vP (va_up aP 0 fz2) (va_up eP 0 fz1))] ++ List.flatten [(wPlan qO k vO aO eO)]) := ⟨_, rfl, hP, hD⟩
  refine lv_aload_n hx hb dX3_take_30 rfl (lv_at hl 0 rfl) ?_
  refine lv_aload_n hx hb dX3_take_31 rfl (lv_at hl 1 rfl) ?_
  refine va_get (D := (dC, dI)) (ci := 3) (v := .int (vO 0)) (C := RX3) (T := TX3) (N := 4) hx hb hts (fun w h => List.mem_cons_of_mem _ (List.mem_append_right _ (List.mem_append_left _ h))) hown hK hP 3 rfl rfl 2 (by decide) (hts (.fieldLink RX3 32 "SagMemory$Plan" "law" "I") (wl_mem 6 rfl)) (fun _ h9 => h9) rfl dX3_take_32 ?_
  refine va_put (D := (dC, dI)) (ci := 3) (v := .int (vO 0)) (ty := .int) (C := RX3) (T := TX3) (N := 4) hx hb hts (fun w h => List.mem_cons_of_mem _ (List.mem_append_right _ (List.mem_append_left _ h))) tyX3 tyX3_ok nmX3 hown hK hP hD hS 0 rfl rfl 2 (by decide) (hts (.fieldLink RX3 32 "SagMemory$Plan" "law" "I") (wl_mem 6 rfl)) (fun _ h9 => h9) rfl (by decide +kernel) rfl rfl (Nat.le_of_ble_eq_true rfl) dX3_take_35 (fun H locs hP hD hS => ?_)
  have hP : va_P (dC, dI) vwCl (List.flatten [(wPlan qP k (va_up vP 0 (vO 0)) (va_up aP 0 fz2) (va_up eP 0 fz1))] ++ List.flatten [(wPlan qO k vO aO eO)]) H := hP
  have hD : va_D A (List.flatten [(wPlan qP k (va_up vP 0 (vO 0)) (va_up aP 0 fz2) (va_up eP 0 fz1))] ++ List.flatten [(wPlan qO k vO aO eO)]) := hD
  refine lv_aload_n hx hb dX3_take_38 rfl (lv_at hl 0 rfl) ?_
  refine lv_aload_n hx hb dX3_take_39 rfl (lv_at hl 1 rfl) ?_
  refine va_get (D := (dC, dI)) (ci := 3) (v := .int (vO 1)) (C := RX3) (T := TX3) (N := 4) hx hb hts (fun w h => List.mem_cons_of_mem _ (List.mem_append_right _ (List.mem_append_left _ h))) hown hK hP 3 rfl rfl 3 (by decide) (hts (.fieldLink RX3 36 "SagMemory$Plan" "cold" "I") (wl_mem 7 rfl)) (fun _ h9 => h9) rfl dX3_take_40 ?_
  refine va_put (D := (dC, dI)) (ci := 3) (v := .int (vO 1)) (ty := .int) (C := RX3) (T := TX3) (N := 4) hx hb hts (fun w h => List.mem_cons_of_mem _ (List.mem_append_right _ (List.mem_append_left _ h))) tyX3 tyX3_ok nmX3 hown hK hP hD hS 0 rfl rfl 3 (by decide) (hts (.fieldLink RX3 36 "SagMemory$Plan" "cold" "I") (wl_mem 7 rfl)) (fun _ h9 => h9) rfl (by decide +kernel) rfl rfl (Nat.le_of_ble_eq_true rfl) dX3_take_43 (fun H locs hP hD hS => ?_)
  have hP : va_P (dC, dI) vwCl (List.flatten [(wPlan qP k (va_up (va_up vP 0 (vO 0)) 1 (vO 1)) (va_up aP 0 fz2) (va_up eP 0 fz1))] ++ List.flatten [(wPlan qO k vO aO eO)]) H := hP
  have hD : va_D A (List.flatten [(wPlan qP k (va_up (va_up vP 0 (vO 0)) 1 (vO 1)) (va_up aP 0 fz2) (va_up eP 0 fz1))] ++ List.flatten [(wPlan qO k vO aO eO)]) := hD
  rw [hQ]
  exact W.vret hx hb hr (fun t ht hW => ⟨⟨(), rfl, trivial, (va_up (va_up vP 0 (vO 0)) 1 (vO 1)), (va_up aP 0 fz2), (va_up eP 0 fz1), (rga_up heP hfz1), by rw [ht]; exact hP⟩, hS.F ht⟩) hS.2.2 dX3_take_46
def wk_c_X3_make : List Cond := .code yX3_make cX3_make 5 none :: ([.fieldLink RX3 18 "SagMemory$Valley" "loads" "[I", .fieldLink RX3 9 "SagMemory$Plan" "loads" "[I", .methodLink RX3 21 arraycopyName, .native arraycopyName, .static arraycopyName, .initialized "java/lang/System", .fieldLink RX3 27 "SagMemory$Valley" "ways" "[I", .fieldLink RX3 15 "SagMemory$Plan" "ways" "[I", .fieldLink RX3 28 "SagMemory$Valley" "law" "I", .fieldLink RX3 32 "SagMemory$Plan" "law" "I", .fieldLink RX3 33 "SagMemory$Valley" "cold" "I", .fieldLink RX3 36 "SagMemory$Plan" "cold" "I", .fieldLink RX3 37 "SagMemory$Acts" "done" "I", .fieldLink RX3 42 "SagMemory$Acts" "carts" "[I", .methodLink RX3 45 yX10_hasCart, .instanceMethod yX10_hasCart, .selects RX10 yX10_hasCart yX10_hasCart, .initialized RX10, .fieldLink RX3 49 "SagMemory$Acts" "kinds" "[I", .fieldLink RX3 52 "SagMemory$Acts" "values" "[I"] ++ (wsX100 ++ (wsX30 ++ (wsX00 ++ (wk_c_X10_hasCart ++ [])))))
theorem wkg_c_X3_make : wk_c_X3_make.all goodWord = true := by decide +kernel
set_option maxHeartbeats 4000000 in
set_option maxRecDepth 100000 in
theorem c_X3_make (l : Launch) (dC : Nat → ClassId) (dI : Nat → Nat → Nat) (k : Nat → ClassId) (sz : Nat) (qP : Nat → Nat) (vP : Nat → Int32) (aP : Nat → Nat → Int32) (eP : Nat → Nat → Int32) (qV : Nat → Nat) (vV : Nat → Int32) (bV : Nat → Int32) (cV : Nat → Int32) (wV : Nat → Int32) (aV : Nat → Nat → Int32) (eV : Nat → Nat → Int32) (qA : Nat → Nat) (dA : Nat → Int32) (aA : Nat → Nat → Int32) (heP : RgA 0 99 eP) (hbV : Rg 0 3 bV) (hcV : Rg 0 7 cV) (hwV : Rg 0 5 wV) (heV : RgA 0 99 eV) (hdA : Rg 0 30 dA) : Met l yX3_make wk_c_X3_make ({ frames := 1, cells := 0, slots := 0, locals := 80 }) (va_Pc [.ref (qP 0), .ref (qV 0), .ref (qA 0)] (fun U => U.heap.size = sz ∧ va_P (dC, dI) vwCl (List.flatten [(wPlan qP k vP aP eP)] ++ List.flatten [(wValley qV k vV bV cV wV aV eV), (wActs qA k dA aA)]) U.heap ∧ va_K (dC, dI) vwCl (tK k) U ∧ va_D (fun _ => True) (List.flatten [(wPlan qP k vP aP eP)] ++ List.flatten [(wValley qV k vV bV cV wV aV eV), (wActs qA k dA aA)]))) (va_Qv (fun _ : Unit => True) (fun (_ : Unit) (t : State) => ∃ (vP' : Nat → Int32) (aP' : Nat → Nat → Int32) (eP' : Nat → Nat → Int32), RgA 0 99 eP' ∧ va_P (dC, dI) vwCl (List.flatten [(wPlan qP k vP' aP' eP')] ++ List.flatten [(wValley qV k vV bV cV wV aV eV), (wActs qA k dA aA)]) t.heap) (va_A (List.flatten [(wPlan qP k vP aP eP)] ++ List.flatten [(wValley qV k vV bV cV wV aV eV), (wActs qA k dA aA)]) sz)) 0 0 (va_A (List.flatten [(wPlan qP k vP aP eP)] ++ List.flatten [(wValley qV k vV bV cV wV aV eV), (wActs qA k dA aA)]) sz) := by
  refine Met.ofW (cc := cX3_make) (maxL := 5) (ret := none) (by decide) rfl ?_
  intro p e s m args below meth c s₁ B hml hv
  obtain ⟨rfl, hsz, hP, hK, hD0⟩ := hv
  have hx := B.exec
  have hb := B.bytes
  have hr := B.returns
  have hts := atoms_spec (ws := wk_c_X3_make) B.pre
  have hown : s.vm.findClass RX3 = some m.cls := findClass_of_methodNamed B.named
  have hlocks := B.notSynchronized
  subst hsz
  have hD := hD0.self (sz := s.heap.size)
  generalize hAe : va_A (List.flatten [(wPlan qP k vP aP eP)] ++ List.flatten [(wValley qV k vV bV cV wV aV eV), (wActs qA k dA aA)]) s.heap.size = A at hD ⊢
  have hA : ∀ q : Nat, s.heap.size ≤ q → A q := fun q h => by rw [← hAe]; exact Or.inr h
  have hS : va_S A s.heap s.heap [] := va_S.rf
  have hP : va_P (dC, dI) vwCl (List.flatten [(wPlan qP k vP aP eP)] ++ List.flatten [(wValley qV k vV bV cV wV aV eV), (wActs qA k dA aA)]) s.heap := hP
  have hl := lv_entry ([.ref (qP 0), .ref (qV 0), .ref (qA 0)]) (n := 5) (Nat.le_of_ble_eq_true rfl)
  rw [lg_entry_eq]
  generalize (lg_sl ([.ref (qP 0), .ref (qV 0), .ref (qA 0)]) ++ List.replicate (5 - (lg_sl ([.ref (qP 0), .ref (qV 0), .ref (qA 0)])).length) Slot.unset).toArray = ls at hl ⊢
  have hl : lv_has ls 5 [(0, .ref (qP 0)), (1, .ref (qV 0)), (2, .ref (qA 0))] := hl
  refine w_gen (fun Q hQ => ?_)
  refine lv_aload_n hx hb dX3_make_0 rfl (lv_at hl 1 rfl) ?_
  refine va_get (D := (dC, dI)) (ci := 10) (v := .ref (qV 3)) (C := RX10) (T := TX10) (N := 16) hx hb hts (fun w h => List.mem_cons_of_mem _ (List.mem_append_right _ (List.mem_append_left _ h))) hown hK hP 3 rfl rfl 2 (by decide) (hts (.fieldLink RX3 18 "SagMemory$Valley" "loads" "[I") (wl_mem 0 rfl)) (fun _ h9 => h9) rfl dX3_make_1 ?_
  refine lv_iconst (v := 0) hx hb dX3_make_4 (by decide) ?_
  refine lv_aload_n hx hb dX3_make_5 rfl (lv_at hl 0 rfl) ?_
  refine va_get (D := (dC, dI)) (ci := 3) (v := .ref (qP 1)) (C := RX3) (T := TX3) (N := 4) hx hb hts (fun w h => List.mem_cons_of_mem _ (List.mem_append_right _ (List.mem_append_right _ (List.mem_append_left _ h)))) hown hK hP 0 rfl rfl 0 (by decide) (hts (.fieldLink RX3 9 "SagMemory$Plan" "loads" "[I") (wl_mem 1 rfl)) (fun _ h9 => h9) rfl dX3_make_6 ?_
  refine lv_iconst (v := 0) hx hb dX3_make_9 (by decide) ?_
  refine lv_bipush (v := 7) hx hb dX3_make_10 (by decide) ?_
  refine va_copyi (ty := .int) hx hb (by rw [hml]; exact hl.1.symm) hown (hts (.methodLink RX3 21 arraycopyName) (wl_mem 2 rfl)) (hts (.native arraycopyName) (wl_mem 3 rfl)) (hts (.static arraycopyName) (wl_mem 4 rfl)) (hts (.initialized "java/lang/System") (wl_mem 5 rfl)) hK hP hD hS 6 1 0 0 rfl rfl rfl rfl rfl (by decide) (by decide) (by decide) (by decide) (by decide) (fun _ _ => rfl) (Nat.le_of_ble_eq_true rfl) (Nat.le_of_ble_eq_true rfl) dX3_make_12 (fun H locs hP hD hS => ?_)
  obtain ⟨fz1, efz1, hP, hD⟩ : ∃ fz1 : Nat → Int32, fz1 = va_cpy (eV 0) (eP 0) (0 : Int32).toNatClampNeg (0 : Int32).toNatClampNeg (7 : Int32).toNatClampNeg ∧ va_P (dC, dI) vwCl (List.flatten [(wPlan qP k vP aP (va_up eP 0 fz1))] ++ List.flatten [(wValley qV k vV bV cV wV aV eV), (wActs qA k dA aA)]) H ∧ va_D A (List.flatten [(wPlan qP k vP aP (va_up eP 0 fz1))] ++ List.flatten [(wValley qV k vV bV cV wV aV eV), (wActs qA k dA aA)]) := ⟨_, rfl, hP, hD⟩
  have hfz1 : Rg 0 99 fz1 := by rw [efz1]; exact rg_cpy (heV 0) (heP 0)
  refine lv_aload_n hx hb dX3_make_15 rfl (lv_at hl 1 rfl) ?_
  refine va_get (D := (dC, dI)) (ci := 10) (v := .ref (qV 4)) (C := RX10) (T := TX10) (N := 16) hx hb hts (fun w h => List.mem_cons_of_mem _ (List.mem_append_right _ (List.mem_append_left _ h))) hown hK hP 3 rfl rfl 3 (by decide) (hts (.fieldLink RX3 27 "SagMemory$Valley" "ways" "[I") (wl_mem 6 rfl)) (fun _ h9 => h9) rfl dX3_make_16 ?_
  refine lv_iconst (v := 0) hx hb dX3_make_19 (by decide) ?_
  refine lv_aload_n hx hb dX3_make_20 rfl (lv_at hl 0 rfl) ?_
  refine va_get (D := (dC, dI)) (ci := 3) (v := .ref (qP 2)) (C := RX3) (T := TX3) (N := 4) hx hb hts (fun w h => List.mem_cons_of_mem _ (List.mem_append_right _ (List.mem_append_right _ (List.mem_append_left _ h)))) hown hK hP 0 rfl rfl 1 (by decide) (hts (.fieldLink RX3 15 "SagMemory$Plan" "ways" "[I") (wl_mem 7 rfl)) (fun _ h9 => h9) rfl dX3_make_21 ?_
  refine lv_iconst (v := 0) hx hb dX3_make_24 (by decide) ?_
  refine lv_bipush (v := 7) hx hb dX3_make_25 (by decide) ?_
  refine va_copyi (ty := .int) hx hb (by rw [hml]; exact hl.1.symm) hown (hts (.methodLink RX3 21 arraycopyName) (wl_mem 2 rfl)) (hts (.native arraycopyName) (wl_mem 3 rfl)) (hts (.static arraycopyName) (wl_mem 4 rfl)) (hts (.initialized "java/lang/System") (wl_mem 5 rfl)) hK hP hD hS 7 2 0 0 rfl rfl rfl rfl rfl (by decide) (by decide) (by decide) (by decide) (by decide) (fun _ _ => rfl) (Nat.le_of_ble_eq_true rfl) (Nat.le_of_ble_eq_true rfl) dX3_make_27 (fun H locs hP hD hS => ?_)
  obtain ⟨fz2, efz2, hP, hD⟩ : ∃ fz2 : Nat → Int32, fz2 = va_cpy (aV 2) (aP 0) (0 : Int32).toNatClampNeg (0 : Int32).toNatClampNeg (7 : Int32).toNatClampNeg ∧ va_P (dC, dI) vwCl (List.flatten [(wPlan qP k vP (va_up aP 0 fz2) (va_up eP 0 fz1))] ++ List.flatten [(wValley qV k vV bV cV wV aV eV), (wActs qA k dA aA)]) H ∧ va_D A (List.flatten [(wPlan qP k vP (va_up aP 0 fz2) (va_up eP 0 fz1))] ++ List.flatten [(wValley qV k vV bV cV wV aV eV), (wActs qA k dA aA)]) := ⟨_, rfl, hP, hD⟩
  refine lv_aload_n hx hb dX3_make_30 rfl (lv_at hl 0 rfl) ?_
  refine lv_aload_n hx hb dX3_make_31 rfl (lv_at hl 1 rfl) ?_
  refine va_get (D := (dC, dI)) (ci := 10) (v := .int (vV 1)) (C := RX10) (T := TX10) (N := 16) hx hb hts (fun w h => List.mem_cons_of_mem _ (List.mem_append_right _ (List.mem_append_left _ h))) hown hK hP 3 rfl rfl 8 (by decide) (hts (.fieldLink RX3 28 "SagMemory$Valley" "law" "I") (wl_mem 8 rfl)) (fun _ h9 => h9) rfl dX3_make_32 ?_
  refine va_put (D := (dC, dI)) (ci := 3) (v := .int (vV 1)) (ty := .int) (C := RX3) (T := TX3) (N := 4) hx hb hts (fun w h => List.mem_cons_of_mem _ (List.mem_append_right _ (List.mem_append_right _ (List.mem_append_left _ h)))) tyX3 tyX3_ok nmX3 hown hK hP hD hS 0 rfl rfl 2 (by decide) (hts (.fieldLink RX3 32 "SagMemory$Plan" "law" "I") (wl_mem 9 rfl)) (fun _ h9 => h9) rfl (by decide +kernel) rfl rfl (Nat.le_of_ble_eq_true rfl) dX3_make_35 (fun H locs hP hD hS => ?_)
  have hP : va_P (dC, dI) vwCl (List.flatten [(wPlan qP k (va_up vP 0 (vV 1)) (va_up aP 0 fz2) (va_up eP 0 fz1))] ++ List.flatten [(wValley qV k vV bV cV wV aV eV), (wActs qA k dA aA)]) H := hP
  have hD : va_D A (List.flatten [(wPlan qP k (va_up vP 0 (vV 1)) (va_up aP 0 fz2) (va_up eP 0 fz1))] ++ List.flatten [(wValley qV k vV bV cV wV aV eV), (wActs qA k dA aA)]) := hD
  refine lv_aload_n hx hb dX3_make_38 rfl (lv_at hl 0 rfl) ?_
  refine lv_aload_n hx hb dX3_make_39 rfl (lv_at hl 1 rfl) ?_
  refine va_get (D := (dC, dI)) (ci := 10) (v := .int (vV 5)) (C := RX10) (T := TX10) (N := 16) hx hb hts (fun w h => List.mem_cons_of_mem _ (List.mem_append_right _ (List.mem_append_left _ h))) hown hK hP 3 rfl rfl 15 (by decide) (hts (.fieldLink RX3 33 "SagMemory$Valley" "cold" "I") (wl_mem 10 rfl)) (fun _ h9 => h9) rfl dX3_make_40 ?_
  refine va_put (D := (dC, dI)) (ci := 3) (v := .int (vV 5)) (ty := .int) (C := RX3) (T := TX3) (N := 4) hx hb hts (fun w h => List.mem_cons_of_mem _ (List.mem_append_right _ (List.mem_append_right _ (List.mem_append_left _ h)))) tyX3 tyX3_ok nmX3 hown hK hP hD hS 0 rfl rfl 3 (by decide) (hts (.fieldLink RX3 36 "SagMemory$Plan" "cold" "I") (wl_mem 11 rfl)) (fun _ h9 => h9) rfl (by decide +kernel) rfl rfl (Nat.le_of_ble_eq_true rfl) dX3_make_43 (fun H locs hP hD hS => ?_)
  have hP : va_P (dC, dI) vwCl (List.flatten [(wPlan qP k (va_up (va_up vP 0 (vV 1)) 1 (vV 5)) (va_up aP 0 fz2) (va_up eP 0 fz1))] ++ List.flatten [(wValley qV k vV bV cV wV aV eV), (wActs qA k dA aA)]) H := hP
  have hD : va_D A (List.flatten [(wPlan qP k (va_up (va_up vP 0 (vV 1)) 1 (vV 5)) (va_up aP 0 fz2) (va_up eP 0 fz1))] ++ List.flatten [(wValley qV k vV bV cV wV aV eV), (wActs qA k dA aA)]) := hD
  refine lv_iconst (v := 0) hx hb dX3_make_46 (by decide) ?_
  refine lv_istore_n (lv' := [(3, .int 0), (0, .ref (qP 0)), (1, .ref (qV 0)), (2, .ref (qA 0))]) hx hb dX3_make_47 rfl hl (by decide) rfl (fun ls hl => ?_)
  have lp48_kz76 : ∀ (n9_48 : Nat) (H : Heap) (locs : List Loc) (ls : Array Slot) (az73 : Nat → Nat → Int32) (vz74 : Nat → Int32) (xz75 : Int32), (2147483647 - xz75.toInt).toNat < n9_48 → 0 ≤ xz75.toInt → va_P (dC, dI) vwCl (List.flatten [(wPlan qP k vz74 az73 (va_up eP 0 fz1))] ++ List.flatten [(wValley qV k vV bV cV wV aV eV), (wActs qA k dA aA)]) H → va_D A (List.flatten [(wPlan qP k vz74 az73 (va_up eP 0 fz1))] ++ List.flatten [(wValley qV k vV bV cV wV aV eV), (wActs qA k dA aA)]) → va_S A s.heap H locs → lv_has ls 5 [(0, .ref (qP 0)), (1, .ref (qV 0)), (2, .ref (qA 0)), (3, .int xz75)] → W p l e (headSpec wk_c_X3_make ({ frames := 1, cells := 0, slots := 0, locals := 80 })).room s m ([.ref (qP 0), .ref (qV 0), .ref (qA 0)] : List Value).toArray below meth c H locs 0 0 Q (F0 m 48 ls []) := by
    intro n9_48
    induction n9_48 with
    | zero => intro H locs ls az73 vz74 xz75 hm; exact absurd hm (Nat.not_lt_zero _)
    | succ n9_48 ih48 =>
      intro H locs ls az73 vz74 xz75 hm48 jz77 hP hD hS hl
      refine lv_iload_n hx hb dX3_make_48 rfl (lv_at hl 3 rfl) ?_
      refine lv_aload_n hx hb dX3_make_49 rfl (lv_at hl 2 rfl) ?_
      refine va_get (D := (dC, dI)) (ci := 0) (v := .int (dA 0)) (C := RX0) (T := TX0) (N := 4) hx hb hts (fun w h => List.mem_cons_of_mem _ (List.mem_append_right _ (List.mem_append_right _ (List.mem_append_right _ (List.mem_append_left _ h))))) hown hK hP 11 rfl rfl 3 (by decide) (hts (.fieldLink RX3 37 "SagMemory$Acts" "done" "I") (wl_mem 12 rfl)) (fun _ h9 => h9) rfl dX3_make_50 ?_
      have bz78 := hdA 0
      refine lv_icmp_ge (tgt := 148) hx hb dX3_make_53 (by decide) (fun cz79 => ?_) (fun cz79 => ?_)
      · skip
        have bz80 := fb_rng xz75
        have zz81 : (dA 0).toInt ≤ xz75.toInt := zi_le.mp cz79
        rw [hQ]
        exact W.vret hx hb hr (fun t ht hW => ⟨⟨(), rfl, trivial, vz74, az73, (va_up eP 0 fz1), (rga_up heP hfz1), by rw [ht]; exact hP⟩, hS.F ht⟩) hS.2.2 dX3_make_148
      · skip
        have bz82 := fb_rng xz75
        have zz83 : ¬ (dA 0).toInt ≤ xz75.toInt := fun h9 => cz79 (zi_le.mpr h9)
        refine lv_aload_n hx hb dX3_make_56 rfl (lv_at hl 2 rfl) ?_
        refine va_get (D := (dC, dI)) (ci := 0) (v := .ref (qA 2)) (C := RX0) (T := TX0) (N := 4) hx hb hts (fun w h => List.mem_cons_of_mem _ (List.mem_append_right _ (List.mem_append_right _ (List.mem_append_right _ (List.mem_append_left _ h))))) hown hK hP 11 rfl rfl 1 (by decide) (hts (.fieldLink RX3 42 "SagMemory$Acts" "carts" "[I") (wl_mem 13 rfl)) (fun _ h9 => h9) rfl dX3_make_57 ?_
        refine lv_iload_n hx hb dX3_make_60 rfl (lv_at hl 3 rfl) ?_
        refine va_iald hx hb hK hP 13 0 rfl rfl (vp_in_iff.mpr ⟨by omega, by omega⟩) dX3_make_61 ?_
        refine lv_topi (fun xz84 exz84 => ?_)
        refine lv_istore (lv' := [(4, .int xz84), (0, .ref (qP 0)), (1, .ref (qV 0)), (2, .ref (qA 0)), (3, .int xz75)]) hx hb dX3_make_62 hl (by decide) rfl (fun ls hl => ?_)
        refine lv_aload_n hx hb dX3_make_64 rfl (lv_at hl 2 rfl) ?_
        refine lv_iload hx hb dX3_make_65 (lv_at hl 0 rfl) ?_
        have hPc := hP.sub (ws' := (List.flatten [(wValley qV k vV bV cV wV aV eV)])) [3, 4, 5, 6, 7, 8, 9, 10] rfl
        refine vp_callSi (va_Run.run (va_runV (As := [.int xz84]) (rest := []) ⟨hx, hb, hml, hown, hts⟩ (c_X10_hasCart l dC dI k qV vV bV cV wV aV eV xz84 hbV hcV hwV heV) (cwV 1 hts (gk_V (wl_mem 14 rfl) (wl_mem 15 rfl) (wl_mem 16 rfl) (wl_mem 17 rfl) (fun w h => List.mem_cons_of_mem _ (List.mem_append_right _ (List.mem_append_right _ (List.mem_append_right _ (List.mem_append_right _ (List.mem_append_left _ h)))))) wkg_c_X10_hasCart) rfl rfl rfl (by decide +kernel) ⟨Nat.le_of_ble_eq_true rfl, Nat.le_of_ble_eq_true rfl⟩) ⟨fun a U g mk q => by obtain ⟨q0, qP, qK⟩ := q; exact ⟨q0, qP, va_K.moved (u := U) (U := U.calling g mk a) (Vm.Alike.refl U.vm) qK⟩, va_recv hK hPc (ci := 10) (q0 := 0) rfl rfl, fun U hU hW => ⟨rfl, by rw [hU]; exact hPc, va_K.moved hW.alike hK⟩⟩ rfl rfl hl.1 rfl (lv_room (Nat.le_of_ble_eq_true rfl)) dX3_make_67 ⟨Nat.le_of_ble_eq_true rfl, Nat.le_of_ble_eq_true rfl⟩)) (fun rz86 gz85 => ?_)
        clear hPc
        rcases gz85 with ⟨er, cz87⟩ | ⟨er, cz88, cz89⟩ | ⟨er, cz90, cz91⟩
        · obtain rfl := er.symm
          have bz92 := fb_rng xz84
          have zz93 : xz84.toInt < (0 : Int) := zi_lt.mp cz87
          refine lv_if_ne (tgt := 76) hx hb dX3_make_70 (by decide) (fun cz95 => ?_) (fun cz95 => ?_)
          · skip
            exact absurd cz95 (by decide)
          · skip
            refine lv_goto (tgt := 142) hx hb dX3_make_73 (by decide) ?_
            obtain ⟨xz96, exz96⟩ : ∃ y : Int32, y = xz75 + Int32.ofInt (1) := ⟨_, rfl⟩
            have fxz96 : xz96.toInt = xz75.toInt + (1) := by rw [exz96]; exact fb_addI (y := Int32.ofInt (1)) (by show -2147483648 ≤ xz75.toInt + (1); omega) (by show xz75.toInt + (1) < 2147483648; omega)
            refine lv_iinc (v := xz96) (lv' := [(3, .int xz96), (4, .int xz84), (0, .ref (qP 0)), (1, .ref (qV 0)), (2, .ref (qA 0))]) hx hb dX3_make_142 hl (k := 4) rfl exz96.symm (by decide) rfl (fun ls hl => ?_)
            refine lv_goto (tgt := 48) hx hb dX3_make_145 (by decide) ?_
            exact ih48 H locs ls az73 vz74 xz96 (by show (2147483647 - xz96.toInt).toNat < n9_48; omega) (by show 0 ≤ xz96.toInt; omega) hP hD hS (lv_sub hl [2, 3, 4, 0] rfl)
        · obtain rfl := er.symm
          have bz97 := fb_rng xz84
          have zz98 : ¬ xz84.toInt < (0 : Int) := fun h9 => cz88 (zi_lt.mpr h9)
          have bz99 := hcV 0
          have zz100 : (cV 0).toInt ≤ xz84.toInt := zi_le.mp cz89
          refine lv_if_ne (tgt := 76) hx hb dX3_make_70 (by decide) (fun cz102 => ?_) (fun cz102 => ?_)
          · skip
            exact absurd cz102 (by decide)
          · skip
            refine lv_goto (tgt := 142) hx hb dX3_make_73 (by decide) ?_
            obtain ⟨xz103, exz103⟩ : ∃ y : Int32, y = xz75 + Int32.ofInt (1) := ⟨_, rfl⟩
            have fxz103 : xz103.toInt = xz75.toInt + (1) := by rw [exz103]; exact fb_addI (y := Int32.ofInt (1)) (by show -2147483648 ≤ xz75.toInt + (1); omega) (by show xz75.toInt + (1) < 2147483648; omega)
            refine lv_iinc (v := xz103) (lv' := [(3, .int xz103), (4, .int xz84), (0, .ref (qP 0)), (1, .ref (qV 0)), (2, .ref (qA 0))]) hx hb dX3_make_142 hl (k := 4) rfl exz103.symm (by decide) rfl (fun ls hl => ?_)
            refine lv_goto (tgt := 48) hx hb dX3_make_145 (by decide) ?_
            exact ih48 H locs ls az73 vz74 xz103 (by show (2147483647 - xz103.toInt).toNat < n9_48; omega) (by show 0 ≤ xz103.toInt; omega) hP hD hS (lv_sub hl [2, 3, 4, 0] rfl)
        · obtain rfl := er.symm
          have bz104 := fb_rng xz84
          have zz105 : ¬ xz84.toInt < (0 : Int) := fun h9 => cz90 (zi_lt.mpr h9)
          have bz106 := hcV 0
          have zz107 : ¬ (cV 0).toInt ≤ xz84.toInt := fun h9 => cz91 (zi_le.mpr h9)
          have ct142_kz126 : ∀ (H : Heap) (locs : List Loc) (ls : Array Slot) (az124 : Nat → Nat → Int32) (vz125 : Nat → Int32), va_P (dC, dI) vwCl (List.flatten [(wPlan qP k vz125 az124 (va_up eP 0 fz1))] ++ List.flatten [(wValley qV k vV bV cV wV aV eV), (wActs qA k dA aA)]) H → va_D A (List.flatten [(wPlan qP k vz125 az124 (va_up eP 0 fz1))] ++ List.flatten [(wValley qV k vV bV cV wV aV eV), (wActs qA k dA aA)]) → va_S A s.heap H locs → lv_has ls 5 [(0, .ref (qP 0)), (1, .ref (qV 0)), (2, .ref (qA 0)), (3, .int xz75)] → W p l e (headSpec wk_c_X3_make ({ frames := 1, cells := 0, slots := 0, locals := 80 })).room s m ([.ref (qP 0), .ref (qV 0), .ref (qA 0)] : List Value).toArray below meth c H locs 0 0 Q (F0 m 142 ls []) := by
            intro H locs ls az124 vz125  hP hD hS hl
            obtain ⟨xz127, exz127⟩ : ∃ y : Int32, y = xz75 + Int32.ofInt (1) := ⟨_, rfl⟩
            have fxz127 : xz127.toInt = xz75.toInt + (1) := by rw [exz127]; exact fb_addI (y := Int32.ofInt (1)) (by show -2147483648 ≤ xz75.toInt + (1); omega) (by show xz75.toInt + (1) < 2147483648; omega)
            refine lv_iinc (v := xz127) (lv' := [(3, .int xz127), (0, .ref (qP 0)), (1, .ref (qV 0)), (2, .ref (qA 0))]) hx hb dX3_make_142 hl (k := 3) rfl exz127.symm (by decide) rfl (fun ls hl => ?_)
            refine lv_goto (tgt := 48) hx hb dX3_make_145 (by decide) ?_
            exact ih48 H locs ls az124 vz125 xz127 (by show (2147483647 - xz127.toInt).toNat < n9_48; omega) (by show 0 ≤ xz127.toInt; omega) hP hD hS (lv_sub hl [1, 2, 3, 0] rfl)
          refine lv_if_ne (tgt := 76) hx hb dX3_make_70 (by decide) (fun cz128 => ?_) (fun cz128 => ?_)
          · skip
            refine lv_aload_n hx hb dX3_make_76 rfl (lv_at hl 3 rfl) ?_
            refine va_get (D := (dC, dI)) (ci := 0) (v := .ref (qA 1)) (C := RX0) (T := TX0) (N := 4) hx hb hts (fun w h => List.mem_cons_of_mem _ (List.mem_append_right _ (List.mem_append_right _ (List.mem_append_right _ (List.mem_append_left _ h))))) hown hK hP 11 rfl rfl 0 (by decide) (hts (.fieldLink RX3 49 "SagMemory$Acts" "kinds" "[I") (wl_mem 18 rfl)) (fun _ h9 => h9) rfl dX3_make_77 ?_
            refine lv_iload_n hx hb dX3_make_80 rfl (lv_at hl 4 rfl) ?_
            refine va_iald hx hb hK hP 12 0 rfl rfl (vp_in_iff.mpr ⟨by omega, by omega⟩) dX3_make_81 ?_
            refine lv_topi (fun xz129 exz129 => ?_)
            refine lv_if_ne (tgt := 101) hx hb dX3_make_82 (by decide) (fun cz130 => ?_) (fun cz130 => ?_)
            · skip
              have zz131 : ¬ xz129.toInt = (0 : Int) := fun h9 => cz130 (zi_eq.mpr h9)
              refine lv_aload_n hx hb dX3_make_101 rfl (lv_at hl 3 rfl) ?_
              refine va_get (D := (dC, dI)) (ci := 0) (v := .ref (qA 3)) (C := RX0) (T := TX0) (N := 4) hx hb hts (fun w h => List.mem_cons_of_mem _ (List.mem_append_right _ (List.mem_append_right _ (List.mem_append_right _ (List.mem_append_left _ h))))) hown hK hP 11 rfl rfl 2 (by decide) (hts (.fieldLink RX3 52 "SagMemory$Acts" "values" "[I") (wl_mem 19 rfl)) (fun _ h9 => h9) rfl dX3_make_102 ?_
              refine lv_iload_n hx hb dX3_make_105 rfl (lv_at hl 4 rfl) ?_
              refine va_iald hx hb hK hP 14 0 rfl rfl (vp_in_iff.mpr ⟨by omega, by omega⟩) dX3_make_106 ?_
              refine lv_topi (fun xz132 exz132 => ?_)
              refine lv_iconst (v := 1) hx hb dX3_make_107 (by decide) ?_
              refine lv_icmp_ne (tgt := 127) hx hb dX3_make_108 (by decide) (fun cz133 => ?_) (fun cz133 => ?_)
              · skip
                have zz134 : ¬ xz132.toInt = (1 : Int) := fun h9 => cz133 (zi_eq.mpr h9)
                refine lv_aload_n hx hb dX3_make_127 rfl (lv_at hl 1 rfl) ?_
                refine lv_dup hx hb dX3_make_128 rfl ?_
                refine va_get (D := (dC, dI)) (ci := 3) (v := .int (vz74 1)) (C := RX3) (T := TX3) (N := 4) hx hb hts (fun w h => List.mem_cons_of_mem _ (List.mem_append_right _ (List.mem_append_right _ (List.mem_append_left _ h)))) hown hK hP 0 rfl rfl 3 (by decide) (hts (.fieldLink RX3 36 "SagMemory$Plan" "cold" "I") (wl_mem 11 rfl)) (fun _ h9 => h9) rfl dX3_make_129 ?_
                refine lv_iconst (v := 1) hx hb dX3_make_132 (by decide) ?_
                refine lv_iload hx hb dX3_make_133 (lv_at hl 0 rfl) ?_
                refine lv_ishl hx hb dX3_make_135 ?_
                refine lv_topi (fun xz135 exz135 => ?_)
                refine lv_iconst (v := (-1)) hx hb dX3_make_136 (by decide) ?_
                refine lv_ixor hx hb dX3_make_137 ?_
                refine lv_topi (fun xz136 exz136 => ?_)
                refine lv_iand hx hb dX3_make_138 ?_
                refine lv_topi (fun xz137 exz137 => ?_)
                refine va_put (D := (dC, dI)) (ci := 3) (v := .int xz137) (ty := .int) (C := RX3) (T := TX3) (N := 4) hx hb hts (fun w h => List.mem_cons_of_mem _ (List.mem_append_right _ (List.mem_append_right _ (List.mem_append_left _ h)))) tyX3 tyX3_ok nmX3 hown hK hP hD hS 0 rfl rfl 3 (by decide) (hts (.fieldLink RX3 36 "SagMemory$Plan" "cold" "I") (wl_mem 11 rfl)) (fun _ h9 => h9) rfl (by decide +kernel) rfl rfl (Nat.le_of_ble_eq_true rfl) dX3_make_139 (fun H locs hP hD hS => ?_)
                have hP : va_P (dC, dI) vwCl (List.flatten [(wPlan qP k (va_up vz74 1 xz137) az73 (va_up eP 0 fz1))] ++ List.flatten [(wValley qV k vV bV cV wV aV eV), (wActs qA k dA aA)]) H := hP
                have hD : va_D A (List.flatten [(wPlan qP k (va_up vz74 1 xz137) az73 (va_up eP 0 fz1))] ++ List.flatten [(wValley qV k vV bV cV wV aV eV), (wActs qA k dA aA)]) := hD
                exact ct142_kz126 H locs ls az73 (va_up vz74 1 xz137)   hP hD hS (lv_sub hl [1, 2, 3, 4] rfl)
              · skip
                have zz138 : xz132.toInt = (1 : Int) := zi_eq.mp cz133
                refine lv_aload_n hx hb dX3_make_111 rfl (lv_at hl 1 rfl) ?_
                refine lv_dup hx hb dX3_make_112 rfl ?_
                refine va_get (D := (dC, dI)) (ci := 3) (v := .int (vz74 1)) (C := RX3) (T := TX3) (N := 4) hx hb hts (fun w h => List.mem_cons_of_mem _ (List.mem_append_right _ (List.mem_append_right _ (List.mem_append_left _ h)))) hown hK hP 0 rfl rfl 3 (by decide) (hts (.fieldLink RX3 36 "SagMemory$Plan" "cold" "I") (wl_mem 11 rfl)) (fun _ h9 => h9) rfl dX3_make_113 ?_
                refine lv_iconst (v := 1) hx hb dX3_make_116 (by decide) ?_
                refine lv_iload hx hb dX3_make_117 (lv_at hl 0 rfl) ?_
                refine lv_ishl hx hb dX3_make_119 ?_
                refine lv_topi (fun xz139 exz139 => ?_)
                refine lv_ior hx hb dX3_make_120 ?_
                refine lv_topi (fun xz140 exz140 => ?_)
                refine va_put (D := (dC, dI)) (ci := 3) (v := .int xz140) (ty := .int) (C := RX3) (T := TX3) (N := 4) hx hb hts (fun w h => List.mem_cons_of_mem _ (List.mem_append_right _ (List.mem_append_right _ (List.mem_append_left _ h)))) tyX3 tyX3_ok nmX3 hown hK hP hD hS 0 rfl rfl 3 (by decide) (hts (.fieldLink RX3 36 "SagMemory$Plan" "cold" "I") (wl_mem 11 rfl)) (fun _ h9 => h9) rfl (by decide +kernel) rfl rfl (Nat.le_of_ble_eq_true rfl) dX3_make_121 (fun H locs hP hD hS => ?_)
                have hP : va_P (dC, dI) vwCl (List.flatten [(wPlan qP k (va_up vz74 1 xz140) az73 (va_up eP 0 fz1))] ++ List.flatten [(wValley qV k vV bV cV wV aV eV), (wActs qA k dA aA)]) H := hP
                have hD : va_D A (List.flatten [(wPlan qP k (va_up vz74 1 xz140) az73 (va_up eP 0 fz1))] ++ List.flatten [(wValley qV k vV bV cV wV aV eV), (wActs qA k dA aA)]) := hD
                refine lv_goto (tgt := 142) hx hb dX3_make_124 (by decide) ?_
                exact ct142_kz126 H locs ls az73 (va_up vz74 1 xz140)   hP hD hS (lv_sub hl [1, 2, 3, 4] rfl)
            · skip
              have zz141 : xz129.toInt = (0 : Int) := zi_eq.mp cz130
              refine lv_aload_n hx hb dX3_make_85 rfl (lv_at hl 1 rfl) ?_
              refine va_get (D := (dC, dI)) (ci := 3) (v := .ref (qP 2)) (C := RX3) (T := TX3) (N := 4) hx hb hts (fun w h => List.mem_cons_of_mem _ (List.mem_append_right _ (List.mem_append_right _ (List.mem_append_left _ h)))) hown hK hP 0 rfl rfl 1 (by decide) (hts (.fieldLink RX3 15 "SagMemory$Plan" "ways" "[I") (wl_mem 7 rfl)) (fun _ h9 => h9) rfl dX3_make_86 ?_
              refine lv_iload hx hb dX3_make_89 (lv_at hl 0 rfl) ?_
              refine lv_aload_n hx hb dX3_make_91 rfl (lv_at hl 3 rfl) ?_
              refine va_get (D := (dC, dI)) (ci := 0) (v := .ref (qA 3)) (C := RX0) (T := TX0) (N := 4) hx hb hts (fun w h => List.mem_cons_of_mem _ (List.mem_append_right _ (List.mem_append_right _ (List.mem_append_right _ (List.mem_append_left _ h))))) hown hK hP 11 rfl rfl 2 (by decide) (hts (.fieldLink RX3 52 "SagMemory$Acts" "values" "[I") (wl_mem 19 rfl)) (fun _ h9 => h9) rfl dX3_make_92 ?_
              refine lv_iload_n hx hb dX3_make_95 rfl (lv_at hl 4 rfl) ?_
              refine va_iald hx hb hK hP 14 0 rfl rfl (vp_in_iff.mpr ⟨by omega, by omega⟩) dX3_make_96 ?_
              refine lv_topi (fun xz142 exz142 => ?_)
              refine va_iast hx hb hK hP hD hS 2 0 rfl rfl (vp_in_iff.mpr ⟨by omega, by omega⟩) dX3_make_97 (fun H locs hP hD hS => ?_)
              obtain ⟨fz143, efz143, hP, hD⟩ : ∃ fz143 : Nat → Int32, fz143 = upd (az73 0) xz84.toNatClampNeg xz142 ∧ va_P (dC, dI) vwCl (List.flatten [(wPlan qP k vz74 (va_up az73 0 fz143) (va_up eP 0 fz1))] ++ List.flatten [(wValley qV k vV bV cV wV aV eV), (wActs qA k dA aA)]) H ∧ va_D A (List.flatten [(wPlan qP k vz74 (va_up az73 0 fz143) (va_up eP 0 fz1))] ++ List.flatten [(wValley qV k vV bV cV wV aV eV), (wActs qA k dA aA)]) := ⟨_, rfl, hP, hD⟩
              have kfz143 : fz143 xz84.toNatClampNeg = xz142 := by rw [efz143]; exact pk_us
              refine lv_goto (tgt := 142) hx hb dX3_make_98 (by decide) ?_
              exact ct142_kz126 H locs ls (va_up az73 0 fz143) vz74   hP hD hS (lv_sub hl [1, 2, 3, 4] rfl)
          · skip
            exact absurd cz128 (by decide)
  exact lp48_kz76 _ H locs ls (va_up aP 0 fz2) (va_up (va_up vP 0 (vV 1)) 1 (vV 5)) (0 : Int32) (Nat.lt_succ_self _) (by show 0 ≤ (0 : Int); omega) hP hD hS (lv_sub hl [1, 2, 3, 0] rfl)
