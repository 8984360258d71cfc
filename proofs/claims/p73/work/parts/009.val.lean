def wk_c_X10_hasBridge : List Cond := .code yX10_hasBridge cX10_hasBridge 2 (some .boolean) :: ([.fieldLink RX10 46 "SagMemory$Valley" "bridges" "I"] ++ (wsX100 ++ []))
theorem wkg_c_X10_hasBridge : wk_c_X10_hasBridge.all goodWord = true := by decide +kernel
set_option maxHeartbeats 4000000 in
set_option maxRecDepth 100000 in
theorem c_X10_hasBridge (l : Launch) (dC : Nat → ClassId) (dI : Nat → Nat → Nat) (k : Nat → ClassId) (qV : Nat → Nat) (vV : Nat → Int32) (bV : Nat → Int32) (cV : Nat → Int32) (wV : Nat → Int32) (aV : Nat → Nat → Int32) (eV : Nat → Nat → Int32) (p1 : Int32) (hbV : Rg 0 3 bV) (hcV : Rg 0 7 cV) (hwV : Rg 0 5 wV) (heV : RgA 0 99 eV) : Met l yX10_hasBridge wk_c_X10_hasBridge ({ frames := 0, cells := 0, slots := 0, locals := 0 }) (va_Pc [.ref (qV 0), .int p1] (fun U => va_P (dC, dI) vwCl (List.flatten [(wValley qV k vV bV cV wV aV eV)]) U.heap ∧ va_K (dC, dI) vwCl (tK k) U)) (vp_Si (fun r : Int32 => (r = 0 ∧ p1 < (0 : Int32)) ∨ (r = 0 ∧ ¬ p1 < (0 : Int32) ∧ (bV 0) ≤ p1) ∨ (r = 1 ∧ ¬ p1 < (0 : Int32) ∧ ¬ (bV 0) ≤ p1))) 0 0 (fun _ => False) := by
  refine Met.ofW (cc := cX10_hasBridge) (maxL := 2) (ret := (some .boolean)) (by decide) rfl ?_
  intro p e s m args below meth c s₁ B hml hv
  obtain ⟨rfl, hP, hK⟩ := hv
  have hx := B.exec
  have hb := B.bytes
  have hr := B.returns
  have hts := atoms_spec (ws := wk_c_X10_hasBridge) B.pre
  have hown : s.vm.findClass RX10 = some m.cls := findClass_of_methodNamed B.named
  have hlocks := B.notSynchronized
  have hP : va_P (dC, dI) vwCl (List.flatten [(wValley qV k vV bV cV wV aV eV)]) s.heap := hP
  have hl := lv_entry ([.ref (qV 0), .int p1]) (n := 2) (Nat.le_of_ble_eq_true rfl)
  rw [lg_entry_eq]
  generalize (lg_sl ([.ref (qV 0), .int p1]) ++ List.replicate (2 - (lg_sl ([.ref (qV 0), .int p1])).length) Slot.unset).toArray = ls at hl ⊢
  have hl : lv_has ls 2 [(0, .ref (qV 0)), (1, .int p1)] := hl
  refine w_gen (fun Q hQ => ?_)
  refine lv_iload_n hx hb dX10_hasBridge_0 rfl (lv_at hl 1 rfl) ?_
  refine lv_if_lt (tgt := 16) hx hb dX10_hasBridge_1 (by decide) (fun cz1 => ?_) (fun cz1 => ?_)
  · skip
    have bz2 := fb_rng p1
    have zz3 : p1.toInt < (0 : Int) := zi_lt.mp cz1
    refine lv_iconst (v := 0) hx hb dX10_hasBridge_16 (by decide) ?_
    rw [hQ]
    exact W.zret (v := (0 : Int32)) hx hb hr rfl (fun t ht hW => ⟨(0 : Int32), rfl, Or.inl ⟨rfl, cz1⟩, ht⟩) (fun _ h => absurd h List.not_mem_nil) dX10_hasBridge_17
  · skip
    have bz4 := fb_rng p1
    have zz5 : ¬ p1.toInt < (0 : Int) := fun h9 => cz1 (zi_lt.mpr h9)
    refine lv_iload_n hx hb dX10_hasBridge_4 rfl (lv_at hl 1 rfl) ?_
    refine lv_aload_n hx hb dX10_hasBridge_5 rfl (lv_at hl 0 rfl) ?_
    refine va_get (D := (dC, dI)) (ci := 10) (v := .int (bV 0)) (C := RX10) (T := TX10) (N := 16) hx hb hts (fun w h => List.mem_cons_of_mem _ (List.mem_append_right _ (List.mem_append_left _ h))) hown hK hP 0 rfl rfl 11 (by decide) (hts (.fieldLink RX10 46 "SagMemory$Valley" "bridges" "I") (wl_mem 0 rfl)) (fun _ h9 => h9) rfl dX10_hasBridge_6 ?_
    have bz6 := hbV 0
    refine lv_icmp_ge (tgt := 16) hx hb dX10_hasBridge_9 (by decide) (fun cz7 => ?_) (fun cz7 => ?_)
    · skip
      have zz8 : (bV 0).toInt ≤ p1.toInt := zi_le.mp cz7
      refine lv_iconst (v := 0) hx hb dX10_hasBridge_16 (by decide) ?_
      rw [hQ]
      exact W.zret (v := (0 : Int32)) hx hb hr rfl (fun t ht hW => ⟨(0 : Int32), rfl, Or.inr (Or.inl ⟨rfl, cz1, cz7⟩), ht⟩) (fun _ h => absurd h List.not_mem_nil) dX10_hasBridge_17
    · skip
      have zz9 : ¬ (bV 0).toInt ≤ p1.toInt := fun h9 => cz7 (zi_le.mpr h9)
      refine lv_iconst (v := 1) hx hb dX10_hasBridge_12 (by decide) ?_
      refine lv_goto (tgt := 17) hx hb dX10_hasBridge_13 (by decide) ?_
      rw [hQ]
      exact W.zret (v := (1 : Int32)) hx hb hr rfl (fun t ht hW => ⟨(1 : Int32), rfl, Or.inr (Or.inr (⟨rfl, cz1, cz7⟩)), ht⟩) (fun _ h => absurd h List.not_mem_nil) dX10_hasBridge_17
def wk_c_X10_hasCart : List Cond := .code yX10_hasCart cX10_hasCart 2 (some .boolean) :: ([.fieldLink RX10 49 "SagMemory$Valley" "carts" "I"] ++ (wsX100 ++ []))
theorem wkg_c_X10_hasCart : wk_c_X10_hasCart.all goodWord = true := by decide +kernel
set_option maxHeartbeats 4000000 in
set_option maxRecDepth 100000 in
theorem c_X10_hasCart (l : Launch) (dC : Nat → ClassId) (dI : Nat → Nat → Nat) (k : Nat → ClassId) (qV : Nat → Nat) (vV : Nat → Int32) (bV : Nat → Int32) (cV : Nat → Int32) (wV : Nat → Int32) (aV : Nat → Nat → Int32) (eV : Nat → Nat → Int32) (p1 : Int32) (hbV : Rg 0 3 bV) (hcV : Rg 0 7 cV) (hwV : Rg 0 5 wV) (heV : RgA 0 99 eV) : Met l yX10_hasCart wk_c_X10_hasCart ({ frames := 0, cells := 0, slots := 0, locals := 0 }) (va_Pc [.ref (qV 0), .int p1] (fun U => va_P (dC, dI) vwCl (List.flatten [(wValley qV k vV bV cV wV aV eV)]) U.heap ∧ va_K (dC, dI) vwCl (tK k) U)) (vp_Si (fun r : Int32 => (r = 0 ∧ p1 < (0 : Int32)) ∨ (r = 0 ∧ ¬ p1 < (0 : Int32) ∧ (cV 0) ≤ p1) ∨ (r = 1 ∧ ¬ p1 < (0 : Int32) ∧ ¬ (cV 0) ≤ p1))) 0 0 (fun _ => False) := by
  refine Met.ofW (cc := cX10_hasCart) (maxL := 2) (ret := (some .boolean)) (by decide) rfl ?_
  intro p e s m args below meth c s₁ B hml hv
  obtain ⟨rfl, hP, hK⟩ := hv
  have hx := B.exec
  have hb := B.bytes
  have hr := B.returns
  have hts := atoms_spec (ws := wk_c_X10_hasCart) B.pre
  have hown : s.vm.findClass RX10 = some m.cls := findClass_of_methodNamed B.named
  have hlocks := B.notSynchronized
  have hP : va_P (dC, dI) vwCl (List.flatten [(wValley qV k vV bV cV wV aV eV)]) s.heap := hP
  have hl := lv_entry ([.ref (qV 0), .int p1]) (n := 2) (Nat.le_of_ble_eq_true rfl)
  rw [lg_entry_eq]
  generalize (lg_sl ([.ref (qV 0), .int p1]) ++ List.replicate (2 - (lg_sl ([.ref (qV 0), .int p1])).length) Slot.unset).toArray = ls at hl ⊢
  have hl : lv_has ls 2 [(0, .ref (qV 0)), (1, .int p1)] := hl
  refine w_gen (fun Q hQ => ?_)
  refine lv_iload_n hx hb dX10_hasCart_0 rfl (lv_at hl 1 rfl) ?_
  refine lv_if_lt (tgt := 16) hx hb dX10_hasCart_1 (by decide) (fun cz1 => ?_) (fun cz1 => ?_)
  · skip
    have bz2 := fb_rng p1
    have zz3 : p1.toInt < (0 : Int) := zi_lt.mp cz1
    refine lv_iconst (v := 0) hx hb dX10_hasCart_16 (by decide) ?_
    rw [hQ]
    exact W.zret (v := (0 : Int32)) hx hb hr rfl (fun t ht hW => ⟨(0 : Int32), rfl, Or.inl ⟨rfl, cz1⟩, ht⟩) (fun _ h => absurd h List.not_mem_nil) dX10_hasCart_17
  · skip
    have bz4 := fb_rng p1
    have zz5 : ¬ p1.toInt < (0 : Int) := fun h9 => cz1 (zi_lt.mpr h9)
    refine lv_iload_n hx hb dX10_hasCart_4 rfl (lv_at hl 1 rfl) ?_
    refine lv_aload_n hx hb dX10_hasCart_5 rfl (lv_at hl 0 rfl) ?_
    refine va_get (D := (dC, dI)) (ci := 10) (v := .int (cV 0)) (C := RX10) (T := TX10) (N := 16) hx hb hts (fun w h => List.mem_cons_of_mem _ (List.mem_append_right _ (List.mem_append_left _ h))) hown hK hP 0 rfl rfl 12 (by decide) (hts (.fieldLink RX10 49 "SagMemory$Valley" "carts" "I") (wl_mem 0 rfl)) (fun _ h9 => h9) rfl dX10_hasCart_6 ?_
    have bz6 := hcV 0
    refine lv_icmp_ge (tgt := 16) hx hb dX10_hasCart_9 (by decide) (fun cz7 => ?_) (fun cz7 => ?_)
    · skip
      have zz8 : (cV 0).toInt ≤ p1.toInt := zi_le.mp cz7
      refine lv_iconst (v := 0) hx hb dX10_hasCart_16 (by decide) ?_
      rw [hQ]
      exact W.zret (v := (0 : Int32)) hx hb hr rfl (fun t ht hW => ⟨(0 : Int32), rfl, Or.inr (Or.inl ⟨rfl, cz1, cz7⟩), ht⟩) (fun _ h => absurd h List.not_mem_nil) dX10_hasCart_17
    · skip
      have zz9 : ¬ (cV 0).toInt ≤ p1.toInt := fun h9 => cz7 (zi_le.mpr h9)
      refine lv_iconst (v := 1) hx hb dX10_hasCart_12 (by decide) ?_
      refine lv_goto (tgt := 17) hx hb dX10_hasCart_13 (by decide) ?_
      rw [hQ]
      exact W.zret (v := (1 : Int32)) hx hb hr rfl (fun t ht hW => ⟨(1 : Int32), rfl, Or.inr (Or.inr (⟨rfl, cz1, cz7⟩)), ht⟩) (fun _ h => absurd h List.not_mem_nil) dX10_hasCart_17
def wk_c_X10_clear : List Cond := .code yX10_clear cX10_clear 1 none :: ([.fieldLink RX10 33 "SagMemory$Valley" "lines" "I", .fieldLink RX10 37 "SagMemory$Valley" "law" "I", .fieldLink RX10 40 "SagMemory$Valley" "frost" "I", .fieldLink RX10 43 "SagMemory$Valley" "odds" "I", .fieldLink RX10 46 "SagMemory$Valley" "bridges" "I", .fieldLink RX10 49 "SagMemory$Valley" "carts" "I", .fieldLink RX10 52 "SagMemory$Valley" "wards" "I", .fieldLink RX10 55 "SagMemory$Valley" "frosts" "I", .fieldLink RX10 58 "SagMemory$Valley" "cold" "I"] ++ (wsX100 ++ []))
theorem wkg_c_X10_clear : wk_c_X10_clear.all goodWord = true := by decide +kernel
set_option maxHeartbeats 4000000 in
set_option maxRecDepth 100000 in
theorem c_X10_clear (l : Launch) (dC : Nat → ClassId) (dI : Nat → Nat → Nat) (k : Nat → ClassId) (sz : Nat) (qV : Nat → Nat) (vV : Nat → Int32) (bV : Nat → Int32) (cV : Nat → Int32) (wV : Nat → Int32) (aV : Nat → Nat → Int32) (eV : Nat → Nat → Int32) (hbV : Rg 0 3 bV) (hcV : Rg 0 7 cV) (hwV : Rg 0 5 wV) (heV : RgA 0 99 eV) : Met l yX10_clear wk_c_X10_clear ({ frames := 0, cells := 0, slots := 0, locals := 0 }) (va_Pc [.ref (qV 0)] (fun U => U.heap.size = sz ∧ va_P (dC, dI) vwCl (List.flatten [(wValley qV k vV bV cV wV aV eV)] ++ List.flatten ([] : List va_W)) U.heap ∧ va_K (dC, dI) vwCl (tK k) U ∧ va_D (fun _ => True) (List.flatten [(wValley qV k vV bV cV wV aV eV)] ++ List.flatten ([] : List va_W)))) (va_Qv (fun _ : Unit => True) (fun (_ : Unit) (t : State) => ∃ (vV' : Nat → Int32) (bV' : Nat → Int32) (cV' : Nat → Int32) (wV' : Nat → Int32) (aV' : Nat → Nat → Int32) (eV' : Nat → Nat → Int32), Rg 0 3 bV' ∧ Rg 0 7 cV' ∧ Rg 0 5 wV' ∧ RgA 0 99 eV' ∧ va_P (dC, dI) vwCl (List.flatten [(wValley qV k vV' bV' cV' wV' aV' eV')] ++ List.flatten ([] : List va_W)) t.heap) (va_A (List.flatten [(wValley qV k vV bV cV wV aV eV)] ++ List.flatten ([] : List va_W)) sz)) 0 0 (va_A (List.flatten [(wValley qV k vV bV cV wV aV eV)] ++ List.flatten ([] : List va_W)) sz) := by
  refine Met.ofW (cc := cX10_clear) (maxL := 1) (ret := none) (by decide) rfl ?_
  intro p e s m args below meth c s₁ B hml hv
  obtain ⟨rfl, hsz, hP, hK, hD0⟩ := hv
  have hx := B.exec
  have hb := B.bytes
  have hr := B.returns
  have hts := atoms_spec (ws := wk_c_X10_clear) B.pre
  have hown : s.vm.findClass RX10 = some m.cls := findClass_of_methodNamed B.named
  have hlocks := B.notSynchronized
  subst hsz
  have hD := hD0.self (sz := s.heap.size)
  generalize hAe : va_A (List.flatten [(wValley qV k vV bV cV wV aV eV)] ++ List.flatten ([] : List va_W)) s.heap.size = A at hD ⊢
  have hA : ∀ q : Nat, s.heap.size ≤ q → A q := fun q h => by rw [← hAe]; exact Or.inr h
  have hS : va_S A s.heap s.heap [] := va_S.rf
  have hP : va_P (dC, dI) vwCl (List.flatten [(wValley qV k vV bV cV wV aV eV)] ++ List.flatten ([] : List va_W)) s.heap := hP
  have hl := lv_entry ([.ref (qV 0)]) (n := 1) (Nat.le_of_ble_eq_true rfl)
  rw [lg_entry_eq]
  generalize (lg_sl ([.ref (qV 0)]) ++ List.replicate (1 - (lg_sl ([.ref (qV 0)])).length) Slot.unset).toArray = ls at hl ⊢
  have hl : lv_has ls 1 [(0, .ref (qV 0))] := hl
  refine w_gen (fun Q hQ => ?_)
  refine lv_aload_n hx hb dX10_clear_0 rfl (lv_at hl 0 rfl) ?_
  refine lv_iconst (v := 0) hx hb dX10_clear_1 (by decide) ?_
  refine va_put (D := (dC, dI)) (ci := 10) (v := .int 0) (ty := .int) (C := RX10) (T := TX10) (N := 16) hx hb hts (fun w h => List.mem_cons_of_mem _ (List.mem_append_right _ (List.mem_append_left _ h))) tyX10 tyX10_ok nmX10 hown hK hP hD hS 0 rfl rfl 7 (by decide) (hts (.fieldLink RX10 33 "SagMemory$Valley" "lines" "I") (wl_mem 0 rfl)) (fun _ h9 => h9) rfl (by decide +kernel) rfl rfl (Nat.le_of_ble_eq_true rfl) dX10_clear_2 (fun H locs hP hD hS => ?_)
  have hP : va_P (dC, dI) vwCl (List.flatten [(wValley qV k (va_up vV 0 (0 : Int32)) bV cV wV aV eV)] ++ List.flatten ([] : List va_W)) H := hP
  have hD : va_D A (List.flatten [(wValley qV k (va_up vV 0 (0 : Int32)) bV cV wV aV eV)] ++ List.flatten ([] : List va_W)) := hD
  refine lv_aload_n hx hb dX10_clear_5 rfl (lv_at hl 0 rfl) ?_
  refine lv_iconst (v := 0) hx hb dX10_clear_6 (by decide) ?_
  refine va_put (D := (dC, dI)) (ci := 10) (v := .int 0) (ty := .int) (C := RX10) (T := TX10) (N := 16) hx hb hts (fun w h => List.mem_cons_of_mem _ (List.mem_append_right _ (List.mem_append_left _ h))) tyX10 tyX10_ok nmX10 hown hK hP hD hS 0 rfl rfl 8 (by decide) (hts (.fieldLink RX10 37 "SagMemory$Valley" "law" "I") (wl_mem 1 rfl)) (fun _ h9 => h9) rfl (by decide +kernel) rfl rfl (Nat.le_of_ble_eq_true rfl) dX10_clear_7 (fun H locs hP hD hS => ?_)
  have hP : va_P (dC, dI) vwCl (List.flatten [(wValley qV k (va_up (va_up vV 0 (0 : Int32)) 1 (0 : Int32)) bV cV wV aV eV)] ++ List.flatten ([] : List va_W)) H := hP
  have hD : va_D A (List.flatten [(wValley qV k (va_up (va_up vV 0 (0 : Int32)) 1 (0 : Int32)) bV cV wV aV eV)] ++ List.flatten ([] : List va_W)) := hD
  refine lv_aload_n hx hb dX10_clear_10 rfl (lv_at hl 0 rfl) ?_
  refine lv_iconst (v := 0) hx hb dX10_clear_11 (by decide) ?_
  refine va_put (D := (dC, dI)) (ci := 10) (v := .int 0) (ty := .int) (C := RX10) (T := TX10) (N := 16) hx hb hts (fun w h => List.mem_cons_of_mem _ (List.mem_append_right _ (List.mem_append_left _ h))) tyX10 tyX10_ok nmX10 hown hK hP hD hS 0 rfl rfl 9 (by decide) (hts (.fieldLink RX10 40 "SagMemory$Valley" "frost" "I") (wl_mem 2 rfl)) (fun _ h9 => h9) rfl (by decide +kernel) rfl rfl (Nat.le_of_ble_eq_true rfl) dX10_clear_12 (fun H locs hP hD hS => ?_)
  have hP : va_P (dC, dI) vwCl (List.flatten [(wValley qV k (va_up (va_up (va_up vV 0 (0 : Int32)) 1 (0 : Int32)) 2 (0 : Int32)) bV cV wV aV eV)] ++ List.flatten ([] : List va_W)) H := hP
  have hD : va_D A (List.flatten [(wValley qV k (va_up (va_up (va_up vV 0 (0 : Int32)) 1 (0 : Int32)) 2 (0 : Int32)) bV cV wV aV eV)] ++ List.flatten ([] : List va_W)) := hD
  refine lv_aload_n hx hb dX10_clear_15 rfl (lv_at hl 0 rfl) ?_
  refine lv_iconst (v := 0) hx hb dX10_clear_16 (by decide) ?_
  refine va_put (D := (dC, dI)) (ci := 10) (v := .int 0) (ty := .int) (C := RX10) (T := TX10) (N := 16) hx hb hts (fun w h => List.mem_cons_of_mem _ (List.mem_append_right _ (List.mem_append_left _ h))) tyX10 tyX10_ok nmX10 hown hK hP hD hS 0 rfl rfl 10 (by decide) (hts (.fieldLink RX10 43 "SagMemory$Valley" "odds" "I") (wl_mem 3 rfl)) (fun _ h9 => h9) rfl (by decide +kernel) rfl rfl (Nat.le_of_ble_eq_true rfl) dX10_clear_17 (fun H locs hP hD hS => ?_)
  have hP : va_P (dC, dI) vwCl (List.flatten [(wValley qV k (va_up (va_up (va_up (va_up vV 0 (0 : Int32)) 1 (0 : Int32)) 2 (0 : Int32)) 3 (0 : Int32)) bV cV wV aV eV)] ++ List.flatten ([] : List va_W)) H := hP
  have hD : va_D A (List.flatten [(wValley qV k (va_up (va_up (va_up (va_up vV 0 (0 : Int32)) 1 (0 : Int32)) 2 (0 : Int32)) 3 (0 : Int32)) bV cV wV aV eV)] ++ List.flatten ([] : List va_W)) := hD
  refine lv_aload_n hx hb dX10_clear_20 rfl (lv_at hl 0 rfl) ?_
  refine lv_iconst (v := 0) hx hb dX10_clear_21 (by decide) ?_
  refine va_put (D := (dC, dI)) (ci := 10) (v := .int 0) (ty := .int) (C := RX10) (T := TX10) (N := 16) hx hb hts (fun w h => List.mem_cons_of_mem _ (List.mem_append_right _ (List.mem_append_left _ h))) tyX10 tyX10_ok nmX10 hown hK hP hD hS 0 rfl rfl 11 (by decide) (hts (.fieldLink RX10 46 "SagMemory$Valley" "bridges" "I") (wl_mem 4 rfl)) (fun _ h9 => h9) rfl (by decide +kernel) rfl rfl (Nat.le_of_ble_eq_true rfl) dX10_clear_22 (fun H locs hP hD hS => ?_)
  have hP : va_P (dC, dI) vwCl (List.flatten [(wValley qV k (va_up (va_up (va_up (va_up vV 0 (0 : Int32)) 1 (0 : Int32)) 2 (0 : Int32)) 3 (0 : Int32)) (va_up bV 0 (0 : Int32)) cV wV aV eV)] ++ List.flatten ([] : List va_W)) H := hP
  have hD : va_D A (List.flatten [(wValley qV k (va_up (va_up (va_up (va_up vV 0 (0 : Int32)) 1 (0 : Int32)) 2 (0 : Int32)) 3 (0 : Int32)) (va_up bV 0 (0 : Int32)) cV wV aV eV)] ++ List.flatten ([] : List va_W)) := hD
  refine lv_aload_n hx hb dX10_clear_25 rfl (lv_at hl 0 rfl) ?_
  refine lv_iconst (v := 0) hx hb dX10_clear_26 (by decide) ?_
  refine va_put (D := (dC, dI)) (ci := 10) (v := .int 0) (ty := .int) (C := RX10) (T := TX10) (N := 16) hx hb hts (fun w h => List.mem_cons_of_mem _ (List.mem_append_right _ (List.mem_append_left _ h))) tyX10 tyX10_ok nmX10 hown hK hP hD hS 0 rfl rfl 12 (by decide) (hts (.fieldLink RX10 49 "SagMemory$Valley" "carts" "I") (wl_mem 5 rfl)) (fun _ h9 => h9) rfl (by decide +kernel) rfl rfl (Nat.le_of_ble_eq_true rfl) dX10_clear_27 (fun H locs hP hD hS => ?_)
  have hP : va_P (dC, dI) vwCl (List.flatten [(wValley qV k (va_up (va_up (va_up (va_up vV 0 (0 : Int32)) 1 (0 : Int32)) 2 (0 : Int32)) 3 (0 : Int32)) (va_up bV 0 (0 : Int32)) (va_up cV 0 (0 : Int32)) wV aV eV)] ++ List.flatten ([] : List va_W)) H := hP
  have hD : va_D A (List.flatten [(wValley qV k (va_up (va_up (va_up (va_up vV 0 (0 : Int32)) 1 (0 : Int32)) 2 (0 : Int32)) 3 (0 : Int32)) (va_up bV 0 (0 : Int32)) (va_up cV 0 (0 : Int32)) wV aV eV)] ++ List.flatten ([] : List va_W)) := hD
  refine lv_aload_n hx hb dX10_clear_30 rfl (lv_at hl 0 rfl) ?_
  refine lv_iconst (v := 0) hx hb dX10_clear_31 (by decide) ?_
  refine va_put (D := (dC, dI)) (ci := 10) (v := .int 0) (ty := .int) (C := RX10) (T := TX10) (N := 16) hx hb hts (fun w h => List.mem_cons_of_mem _ (List.mem_append_right _ (List.mem_append_left _ h))) tyX10 tyX10_ok nmX10 hown hK hP hD hS 0 rfl rfl 13 (by decide) (hts (.fieldLink RX10 52 "SagMemory$Valley" "wards" "I") (wl_mem 6 rfl)) (fun _ h9 => h9) rfl (by decide +kernel) rfl rfl (Nat.le_of_ble_eq_true rfl) dX10_clear_32 (fun H locs hP hD hS => ?_)
  have hP : va_P (dC, dI) vwCl (List.flatten [(wValley qV k (va_up (va_up (va_up (va_up vV 0 (0 : Int32)) 1 (0 : Int32)) 2 (0 : Int32)) 3 (0 : Int32)) (va_up bV 0 (0 : Int32)) (va_up cV 0 (0 : Int32)) (va_up wV 0 (0 : Int32)) aV eV)] ++ List.flatten ([] : List va_W)) H := hP
  have hD : va_D A (List.flatten [(wValley qV k (va_up (va_up (va_up (va_up vV 0 (0 : Int32)) 1 (0 : Int32)) 2 (0 : Int32)) 3 (0 : Int32)) (va_up bV 0 (0 : Int32)) (va_up cV 0 (0 : Int32)) (va_up wV 0 (0 : Int32)) aV eV)] ++ List.flatten ([] : List va_W)) := hD
  refine lv_aload_n hx hb dX10_clear_35 rfl (lv_at hl 0 rfl) ?_
  refine lv_iconst (v := 0) hx hb dX10_clear_36 (by decide) ?_
  refine va_put (D := (dC, dI)) (ci := 10) (v := .int 0) (ty := .int) (C := RX10) (T := TX10) (N := 16) hx hb hts (fun w h => List.mem_cons_of_mem _ (List.mem_append_right _ (List.mem_append_left _ h))) tyX10 tyX10_ok nmX10 hown hK hP hD hS 0 rfl rfl 14 (by decide) (hts (.fieldLink RX10 55 "SagMemory$Valley" "frosts" "I") (wl_mem 7 rfl)) (fun _ h9 => h9) rfl (by decide +kernel) rfl rfl (Nat.le_of_ble_eq_true rfl) dX10_clear_37 (fun H locs hP hD hS => ?_)
  have hP : va_P (dC, dI) vwCl (List.flatten [(wValley qV k (va_up (va_up (va_up (va_up (va_up vV 0 (0 : Int32)) 1 (0 : Int32)) 2 (0 : Int32)) 3 (0 : Int32)) 4 (0 : Int32)) (va_up bV 0 (0 : Int32)) (va_up cV 0 (0 : Int32)) (va_up wV 0 (0 : Int32)) aV eV)] ++ List.flatten ([] : List va_W)) H := hP
  have hD : va_D A (List.flatten [(wValley qV k (va_up (va_up (va_up (va_up (va_up vV 0 (0 : Int32)) 1 (0 : Int32)) 2 (0 : Int32)) 3 (0 : Int32)) 4 (0 : Int32)) (va_up bV 0 (0 : Int32)) (va_up cV 0 (0 : Int32)) (va_up wV 0 (0 : Int32)) aV eV)] ++ List.flatten ([] : List va_W)) := hD
  refine lv_aload_n hx hb dX10_clear_40 rfl (lv_at hl 0 rfl) ?_
  refine lv_iconst (v := 0) hx hb dX10_clear_41 (by decide) ?_
  refine va_put (D := (dC, dI)) (ci := 10) (v := .int 0) (ty := .int) (C := RX10) (T := TX10) (N := 16) hx hb hts (fun w h => List.mem_cons_of_mem _ (List.mem_append_right _ (List.mem_append_left _ h))) tyX10 tyX10_ok nmX10 hown hK hP hD hS 0 rfl rfl 15 (by decide) (hts (.fieldLink RX10 58 "SagMemory$Valley" "cold" "I") (wl_mem 8 rfl)) (fun _ h9 => h9) rfl (by decide +kernel) rfl rfl (Nat.le_of_ble_eq_true rfl) dX10_clear_42 (fun H locs hP hD hS => ?_)
  have hP : va_P (dC, dI) vwCl (List.flatten [(wValley qV k (va_up (va_up (va_up (va_up (va_up (va_up vV 0 (0 : Int32)) 1 (0 : Int32)) 2 (0 : Int32)) 3 (0 : Int32)) 4 (0 : Int32)) 5 (0 : Int32)) (va_up bV 0 (0 : Int32)) (va_up cV 0 (0 : Int32)) (va_up wV 0 (0 : Int32)) aV eV)] ++ List.flatten ([] : List va_W)) H := hP
  have hD : va_D A (List.flatten [(wValley qV k (va_up (va_up (va_up (va_up (va_up (va_up vV 0 (0 : Int32)) 1 (0 : Int32)) 2 (0 : Int32)) 3 (0 : Int32)) 4 (0 : Int32)) 5 (0 : Int32)) (va_up bV 0 (0 : Int32)) (va_up cV 0 (0 : Int32)) (va_up wV 0 (0 : Int32)) aV eV)] ++ List.flatten ([] : List va_W)) := hD
  rw [hQ]
  exact W.vret hx hb hr (fun t ht hW => ⟨⟨(), rfl, trivial, (va_up (va_up (va_up (va_up (va_up (va_up vV 0 (0 : Int32)) 1 (0 : Int32)) 2 (0 : Int32)) 3 (0 : Int32)) 4 (0 : Int32)) 5 (0 : Int32)), (va_up bV 0 (0 : Int32)), (va_up cV 0 (0 : Int32)), (va_up wV 0 (0 : Int32)), aV, eV, (rg_up hbV (by show 0 ≤ (0 : Int) ∧ (0 : Int) ≤ 3; omega)), (rg_up hcV (by show 0 ≤ (0 : Int) ∧ (0 : Int) ≤ 7; omega)), (rg_up hwV (by show 0 ≤ (0 : Int) ∧ (0 : Int) ≤ 5; omega)), heV, by rw [ht]; exact hP⟩, hS.F ht⟩) hS.2.2 dX10_clear_45
def wk_c_X10_take : List Cond := .code yX10_take cX10_take 2 none :: ([.fieldLink RX10 9 "SagMemory$Valley" "holds" "[I", .methodLink RX10 61 arraycopyName, .native arraycopyName, .static arraycopyName, .initialized "java/lang/System", .fieldLink RX10 15 "SagMemory$Valley" "tolls" "[I", .fieldLink RX10 18 "SagMemory$Valley" "loads" "[I", .fieldLink RX10 21 "SagMemory$Valley" "ways" "[I", .fieldLink RX10 24 "SagMemory$Valley" "wardBridges" "[I", .fieldLink RX10 27 "SagMemory$Valley" "wardOvers" "[I", .fieldLink RX10 30 "SagMemory$Valley" "wardTargets" "[I", .fieldLink RX10 33 "SagMemory$Valley" "lines" "I", .fieldLink RX10 37 "SagMemory$Valley" "law" "I", .fieldLink RX10 40 "SagMemory$Valley" "frost" "I", .fieldLink RX10 43 "SagMemory$Valley" "odds" "I", .fieldLink RX10 46 "SagMemory$Valley" "bridges" "I", .fieldLink RX10 49 "SagMemory$Valley" "carts" "I", .fieldLink RX10 52 "SagMemory$Valley" "wards" "I", .fieldLink RX10 55 "SagMemory$Valley" "frosts" "I", .fieldLink RX10 58 "SagMemory$Valley" "cold" "I"] ++ (wsX100 ++ []))
theorem wkg_c_X10_take : wk_c_X10_take.all goodWord = true := by decide +kernel
set_option maxHeartbeats 4000000 in
set_option maxRecDepth 100000 in
theorem c_X10_take (l : Launch) (dC : Nat → ClassId) (dI : Nat → Nat → Nat) (k : Nat → ClassId) (sz : Nat) (qV : Nat → Nat) (vV : Nat → Int32) (bV : Nat → Int32) (cV : Nat → Int32) (wV : Nat → Int32) (aV : Nat → Nat → Int32) (eV : Nat → Nat → Int32) (qO : Nat → Nat) (vO : Nat → Int32) (bO : Nat → Int32) (cO : Nat → Int32) (wO : Nat → Int32) (aO : Nat → Nat → Int32) (eO : Nat → Nat → Int32) (hbV : Rg 0 3 bV) (hcV : Rg 0 7 cV) (hwV : Rg 0 5 wV) (heV : RgA 0 99 eV) (hbO : Rg 0 3 bO) (hcO : Rg 0 7 cO) (hwO : Rg 0 5 wO) (heO : RgA 0 99 eO) : Met l yX10_take wk_c_X10_take ({ frames := 1, cells := 0, slots := 0, locals := 80 }) (va_Pc [.ref (qV 0), .ref (qO 0)] (fun U => U.heap.size = sz ∧ va_P (dC, dI) vwCl (List.flatten [(wValley qV k vV bV cV wV aV eV)] ++ List.flatten [(wValley qO k vO bO cO wO aO eO)]) U.heap ∧ va_K (dC, dI) vwCl (tK k) U ∧ va_D (fun _ => True) (List.flatten [(wValley qV k vV bV cV wV aV eV)] ++ List.flatten [(wValley qO k vO bO cO wO aO eO)]))) (va_Qv (fun _ : Unit => True) (fun (_ : Unit) (t : State) => ∃ (vV' : Nat → Int32) (bV' : Nat → Int32) (cV' : Nat → Int32) (wV' : Nat → Int32) (aV' : Nat → Nat → Int32) (eV' : Nat → Nat → Int32), Rg 0 3 bV' ∧ Rg 0 7 cV' ∧ Rg 0 5 wV' ∧ RgA 0 99 eV' ∧ va_P (dC, dI) vwCl (List.flatten [(wValley qV k vV' bV' cV' wV' aV' eV')] ++ List.flatten [(wValley qO k vO bO cO wO aO eO)]) t.heap) (va_A (List.flatten [(wValley qV k vV bV cV wV aV eV)] ++ List.flatten [(wValley qO k vO bO cO wO aO eO)]) sz)) 0 0 (va_A (List.flatten [(wValley qV k vV bV cV wV aV eV)] ++ List.flatten [(wValley qO k vO bO cO wO aO eO)]) sz) := by
  refine Met.ofW (cc := cX10_take) (maxL := 2) (ret := none) (by decide) rfl ?_
  intro p e s m args below meth c s₁ B hml hv
  obtain ⟨rfl, hsz, hP, hK, hD0⟩ := hv
  have hx := B.exec
  have hb := B.bytes
  have hr := B.returns
  have hts := atoms_spec (ws := wk_c_X10_take) B.pre
  have hown : s.vm.findClass RX10 = some m.cls := findClass_of_methodNamed B.named
  have hlocks := B.notSynchronized
  subst hsz
  have hD := hD0.self (sz := s.heap.size)
  generalize hAe : va_A (List.flatten [(wValley qV k vV bV cV wV aV eV)] ++ List.flatten [(wValley qO k vO bO cO wO aO eO)]) s.heap.size = A at hD ⊢
  have hA : ∀ q : Nat, s.heap.size ≤ q → A q := fun q h => by rw [← hAe]; exact Or.inr h
  have hS : va_S A s.heap s.heap [] := va_S.rf
  have hP : va_P (dC, dI) vwCl (List.flatten [(wValley qV k vV bV cV wV aV eV)] ++ List.flatten [(wValley qO k vO bO cO wO aO eO)]) s.heap := hP
  have hl := lv_entry ([.ref (qV 0), .ref (qO 0)]) (n := 2) (Nat.le_of_ble_eq_true rfl)
  rw [lg_entry_eq]
  generalize (lg_sl ([.ref (qV 0), .ref (qO 0)]) ++ List.replicate (2 - (lg_sl ([.ref (qV 0), .ref (qO 0)])).length) Slot.unset).toArray = ls at hl ⊢
  have hl : lv_has ls 2 [(0, .ref (qV 0)), (1, .ref (qO 0))] := hl
  refine w_gen (fun Q hQ => ?_)
  refine lv_aload_n hx hb dX10_take_0 rfl (lv_at hl 1 rfl) ?_
  refine va_get (D := (dC, dI)) (ci := 10) (v := .ref (qO 1)) (C := RX10) (T := TX10) (N := 16) hx hb hts (fun w h => List.mem_cons_of_mem _ (List.mem_append_right _ (List.mem_append_left _ h))) hown hK hP 8 rfl rfl 0 (by decide) (hts (.fieldLink RX10 9 "SagMemory$Valley" "holds" "[I") (wl_mem 0 rfl)) (fun _ h9 => h9) rfl dX10_take_1 ?_
  refine lv_iconst (v := 0) hx hb dX10_take_4 (by decide) ?_
  refine lv_aload_n hx hb dX10_take_5 rfl (lv_at hl 0 rfl) ?_
  refine va_get (D := (dC, dI)) (ci := 10) (v := .ref (qV 1)) (C := RX10) (T := TX10) (N := 16) hx hb hts (fun w h => List.mem_cons_of_mem _ (List.mem_append_right _ (List.mem_append_left _ h))) hown hK hP 0 rfl rfl 0 (by decide) (hts (.fieldLink RX10 9 "SagMemory$Valley" "holds" "[I") (wl_mem 0 rfl)) (fun _ h9 => h9) rfl dX10_take_6 ?_
  refine lv_iconst (v := 0) hx hb dX10_take_9 (by decide) ?_
  refine lv_iconst (v := 3) hx hb dX10_take_10 (by decide) ?_
  refine va_copyi (ty := .int) hx hb (by rw [hml]; exact hl.1.symm) hown (hts (.methodLink RX10 61 arraycopyName) (wl_mem 1 rfl)) (hts (.native arraycopyName) (wl_mem 2 rfl)) (hts (.static arraycopyName) (wl_mem 3 rfl)) (hts (.initialized "java/lang/System") (wl_mem 4 rfl)) hK hP hD hS 9 1 0 0 rfl rfl rfl rfl rfl (by decide) (by decide) (by decide) (by decide) (by decide) (fun _ _ => rfl) (Nat.le_of_ble_eq_true rfl) (Nat.le_of_ble_eq_true rfl) dX10_take_11 (fun H locs hP hD hS => ?_)
  obtain ⟨fz1, efz1, hP, hD⟩ : ∃ fz1 : Nat → Int32, fz1 = va_cpy (aO 0) (aV 0) (0 : Int32).toNatClampNeg (0 : Int32).toNatClampNeg (3 : Int32).toNatClampNeg ∧ va_P (dC, dI) vwCl (List.flatten [(wValley qV k vV bV cV wV (va_up aV 0 fz1) eV)] ++ List.flatten [(wValley qO k vO bO cO wO aO eO)]) H ∧ va_D A (List.flatten [(wValley qV k vV bV cV wV (va_up aV 0 fz1) eV)] ++ List.flatten [(wValley qO k vO bO cO wO aO eO)]) := ⟨_, rfl, hP, hD⟩
  refine lv_aload_n hx hb dX10_take_14 rfl (lv_at hl 1 rfl) ?_
  refine va_get (D := (dC, dI)) (ci := 10) (v := .ref (qO 2)) (C := RX10) (T := TX10) (N := 16) hx hb hts (fun w h => List.mem_cons_of_mem _ (List.mem_append_right _ (List.mem_append_left _ h))) hown hK hP 8 rfl rfl 1 (by decide) (hts (.fieldLink RX10 15 "SagMemory$Valley" "tolls" "[I") (wl_mem 5 rfl)) (fun _ h9 => h9) rfl dX10_take_15 ?_
  refine lv_iconst (v := 0) hx hb dX10_take_18 (by decide) ?_
  refine lv_aload_n hx hb dX10_take_19 rfl (lv_at hl 0 rfl) ?_
  refine va_get (D := (dC, dI)) (ci := 10) (v := .ref (qV 2)) (C := RX10) (T := TX10) (N := 16) hx hb hts (fun w h => List.mem_cons_of_mem _ (List.mem_append_right _ (List.mem_append_left _ h))) hown hK hP 0 rfl rfl 1 (by decide) (hts (.fieldLink RX10 15 "SagMemory$Valley" "tolls" "[I") (wl_mem 5 rfl)) (fun _ h9 => h9) rfl dX10_take_20 ?_
  refine lv_iconst (v := 0) hx hb dX10_take_23 (by decide) ?_
  refine lv_iconst (v := 3) hx hb dX10_take_24 (by decide) ?_
  refine va_copyi (ty := .int) hx hb (by rw [hml]; exact hl.1.symm) hown (hts (.methodLink RX10 61 arraycopyName) (wl_mem 1 rfl)) (hts (.native arraycopyName) (wl_mem 2 rfl)) (hts (.static arraycopyName) (wl_mem 3 rfl)) (hts (.initialized "java/lang/System") (wl_mem 4 rfl)) hK hP hD hS 10 2 0 0 rfl rfl rfl rfl rfl (by decide) (by decide) (by decide) (by decide) (by decide) (fun _ _ => rfl) (Nat.le_of_ble_eq_true rfl) (Nat.le_of_ble_eq_true rfl) dX10_take_25 (fun H locs hP hD hS => ?_)
  obtain ⟨fz2, efz2, hP, hD⟩ : ∃ fz2 : Nat → Int32, fz2 = va_cpy (aO 1) (aV 1) (0 : Int32).toNatClampNeg (0 : Int32).toNatClampNeg (3 : Int32).toNatClampNeg ∧ va_P (dC, dI) vwCl (List.flatten [(wValley qV k vV bV cV wV (va_up (va_up aV 0 fz1) 1 fz2) eV)] ++ List.flatten [(wValley qO k vO bO cO wO aO eO)]) H ∧ va_D A (List.flatten [(wValley qV k vV bV cV wV (va_up (va_up aV 0 fz1) 1 fz2) eV)] ++ List.flatten [(wValley qO k vO bO cO wO aO eO)]) := ⟨_, rfl, hP, hD⟩
  refine lv_aload_n hx hb dX10_take_28 rfl (lv_at hl 1 rfl) ?_
  refine va_get (D := (dC, dI)) (ci := 10) (v := .ref (qO 3)) (C := RX10) (T := TX10) (N := 16) hx hb hts (fun w h => List.mem_cons_of_mem _ (List.mem_append_right _ (List.mem_append_left _ h))) hown hK hP 8 rfl rfl 2 (by decide) (hts (.fieldLink RX10 18 "SagMemory$Valley" "loads" "[I") (wl_mem 6 rfl)) (fun _ h9 => h9) rfl dX10_take_29 ?_
  refine lv_iconst (v := 0) hx hb dX10_take_32 (by decide) ?_
  refine lv_aload_n hx hb dX10_take_33 rfl (lv_at hl 0 rfl) ?_
  refine va_get (D := (dC, dI)) (ci := 10) (v := .ref (qV 3)) (C := RX10) (T := TX10) (N := 16) hx hb hts (fun w h => List.mem_cons_of_mem _ (List.mem_append_right _ (List.mem_append_left _ h))) hown hK hP 0 rfl rfl 2 (by decide) (hts (.fieldLink RX10 18 "SagMemory$Valley" "loads" "[I") (wl_mem 6 rfl)) (fun _ h9 => h9) rfl dX10_take_34 ?_
  refine lv_iconst (v := 0) hx hb dX10_take_37 (by decide) ?_
  refine lv_bipush (v := 7) hx hb dX10_take_38 (by decide) ?_
  refine va_copyi (ty := .int) hx hb (by rw [hml]; exact hl.1.symm) hown (hts (.methodLink RX10 61 arraycopyName) (wl_mem 1 rfl)) (hts (.native arraycopyName) (wl_mem 2 rfl)) (hts (.static arraycopyName) (wl_mem 3 rfl)) (hts (.initialized "java/lang/System") (wl_mem 4 rfl)) hK hP hD hS 11 3 0 0 rfl rfl rfl rfl rfl (by decide) (by decide) (by decide) (by decide) (by decide) (fun _ _ => rfl) (Nat.le_of_ble_eq_true rfl) (Nat.le_of_ble_eq_true rfl) dX10_take_40 (fun H locs hP hD hS => ?_)
  obtain ⟨fz3, efz3, hP, hD⟩ : ∃ fz3 : Nat → Int32, fz3 = va_cpy (eO 0) (eV 0) (0 : Int32).toNatClampNeg (0 : Int32).toNatClampNeg (7 : Int32).toNatClampNeg ∧ va_P (dC, dI) vwCl (List.flatten [(wValley qV k vV bV cV wV (va_up (va_up aV 0 fz1) 1 fz2) (va_up eV 0 fz3))] ++ List.flatten [(wValley qO k vO bO cO wO aO eO)]) H ∧ va_D A (List.flatten [(wValley qV k vV bV cV wV (va_up (va_up aV 0 fz1) 1 fz2) (va_up eV 0 fz3))] ++ List.flatten [(wValley qO k vO bO cO wO aO eO)]) := ⟨_, rfl, hP, hD⟩
  have hfz3 : Rg 0 99 fz3 := by rw [efz3]; exact rg_cpy (heO 0) (heV 0)
  refine lv_aload_n hx hb dX10_take_43 rfl (lv_at hl 1 rfl) ?_
  refine va_get (D := (dC, dI)) (ci := 10) (v := .ref (qO 4)) (C := RX10) (T := TX10) (N := 16) hx hb hts (fun w h => List.mem_cons_of_mem _ (List.mem_append_right _ (List.mem_append_left _ h))) hown hK hP 8 rfl rfl 3 (by decide) (hts (.fieldLink RX10 21 "SagMemory$Valley" "ways" "[I") (wl_mem 7 rfl)) (fun _ h9 => h9) rfl dX10_take_44 ?_
  refine lv_iconst (v := 0) hx hb dX10_take_47 (by decide) ?_
  refine lv_aload_n hx hb dX10_take_48 rfl (lv_at hl 0 rfl) ?_
  refine va_get (D := (dC, dI)) (ci := 10) (v := .ref (qV 4)) (C := RX10) (T := TX10) (N := 16) hx hb hts (fun w h => List.mem_cons_of_mem _ (List.mem_append_right _ (List.mem_append_left _ h))) hown hK hP 0 rfl rfl 3 (by decide) (hts (.fieldLink RX10 21 "SagMemory$Valley" "ways" "[I") (wl_mem 7 rfl)) (fun _ h9 => h9) rfl dX10_take_49 ?_
  refine lv_iconst (v := 0) hx hb dX10_take_52 (by decide) ?_
  refine lv_bipush (v := 7) hx hb dX10_take_53 (by decide) ?_
  refine va_copyi (ty := .int) hx hb (by rw [hml]; exact hl.1.symm) hown (hts (.methodLink RX10 61 arraycopyName) (wl_mem 1 rfl)) (hts (.native arraycopyName) (wl_mem 2 rfl)) (hts (.static arraycopyName) (wl_mem 3 rfl)) (hts (.initialized "java/lang/System") (wl_mem 4 rfl)) hK hP hD hS 12 4 0 0 rfl rfl rfl rfl rfl (by decide) (by decide) (by decide) (by decide) (by decide) (fun _ _ => rfl) (Nat.le_of_ble_eq_true rfl) (Nat.le_of_ble_eq_true rfl) dX10_take_55 (fun H locs hP hD hS => ?_)
  obtain ⟨fz4, efz4, hP, hD⟩ : ∃ fz4 : Nat → Int32, fz4 = va_cpy (aO 2) (aV 2) (0 : Int32).toNatClampNeg (0 : Int32).toNatClampNeg (7 : Int32).toNatClampNeg ∧ va_P (dC, dI) vwCl (List.flatten [(wValley qV k vV bV cV wV (va_up (va_up (va_up aV 0 fz1) 1 fz2) 2 fz4) (va_up eV 0 fz3))] ++ List.flatten [(wValley qO k vO bO cO wO aO eO)]) H ∧ va_D A (List.flatten [(wValley qV k vV bV cV wV (va_up (va_up (va_up aV 0 fz1) 1 fz2) 2 fz4) (va_up eV 0 fz3))] ++ List.flatten [(wValley qO k vO bO cO wO aO eO)]) := ⟨_, rfl, hP, hD⟩
  refine lv_aload_n hx hb dX10_take_58 rfl (lv_at hl 1 rfl) ?_
  refine va_get (D := (dC, dI)) (ci := 10) (v := .ref (qO 5)) (C := RX10) (T := TX10) (N := 16) hx hb hts (fun w h => List.mem_cons_of_mem _ (List.mem_append_right _ (List.mem_append_left _ h))) hown hK hP 8 rfl rfl 4 (by decide) (hts (.fieldLink RX10 24 "SagMemory$Valley" "wardBridges" "[I") (wl_mem 8 rfl)) (fun _ h9 => h9) rfl dX10_take_59 ?_
  refine lv_iconst (v := 0) hx hb dX10_take_62 (by decide) ?_
  refine lv_aload_n hx hb dX10_take_63 rfl (lv_at hl 0 rfl) ?_
  refine va_get (D := (dC, dI)) (ci := 10) (v := .ref (qV 5)) (C := RX10) (T := TX10) (N := 16) hx hb hts (fun w h => List.mem_cons_of_mem _ (List.mem_append_right _ (List.mem_append_left _ h))) hown hK hP 0 rfl rfl 4 (by decide) (hts (.fieldLink RX10 24 "SagMemory$Valley" "wardBridges" "[I") (wl_mem 8 rfl)) (fun _ h9 => h9) rfl dX10_take_64 ?_
  refine lv_iconst (v := 0) hx hb dX10_take_67 (by decide) ?_
  refine lv_iconst (v := 5) hx hb dX10_take_68 (by decide) ?_
  refine va_copyi (ty := .int) hx hb (by rw [hml]; exact hl.1.symm) hown (hts (.methodLink RX10 61 arraycopyName) (wl_mem 1 rfl)) (hts (.native arraycopyName) (wl_mem 2 rfl)) (hts (.static arraycopyName) (wl_mem 3 rfl)) (hts (.initialized "java/lang/System") (wl_mem 4 rfl)) hK hP hD hS 13 5 0 0 rfl rfl rfl rfl rfl (by decide) (by decide) (by decide) (by decide) (by decide) (fun _ _ => rfl) (Nat.le_of_ble_eq_true rfl) (Nat.le_of_ble_eq_true rfl) dX10_take_69 (fun H locs hP hD hS => ?_)
  obtain ⟨fz5, efz5, hP, hD⟩ : ∃ fz5 : Nat → Int32, fz5 = va_cpy (aO 3) (aV 3) (0 : Int32).toNatClampNeg (0 : Int32).toNatClampNeg (5 : Int32).toNatClampNeg ∧ va_P (dC, dI) vwCl (List.flatten [(wValley qV k vV bV cV wV (va_up (va_up (va_up (va_up aV 0 fz1) 1 fz2) 2 fz4) 3 fz5) (va_up eV 0 fz3))] ++ List.flatten [(wValley qO k vO bO cO wO aO eO)]) H ∧ va_D A (List.flatten [(wValley qV k vV bV cV wV (va_up (va_up (va_up (va_up aV 0 fz1) 1 fz2) 2 fz4) 3 fz5) (va_up eV 0 fz3))] ++ List.flatten [(wValley qO k vO bO cO wO aO eO)]) := ⟨_, rfl, hP, hD⟩
  refine lv_aload_n hx hb dX10_take_72 rfl (lv_at hl 1 rfl) ?_
  refine va_get (D := (dC, dI)) (ci := 10) (v := .ref (qO 6)) (C := RX10) (T := TX10) (N := 16) hx hb hts (fun w h => List.mem_cons_of_mem _ (List.mem_append_right _ (List.mem_append_left _ h))) hown hK hP 8 rfl rfl 5 (by decide) (hts (.fieldLink RX10 27 "SagMemory$Valley" "wardOvers" "[I") (wl_mem 9 rfl)) (fun _ h9 => h9) rfl dX10_take_73 ?_
  refine lv_iconst (v := 0) hx hb dX10_take_76 (by decide) ?_
  refine lv_aload_n hx hb dX10_take_77 rfl (lv_at hl 0 rfl) ?_
  refine va_get (D := (dC, dI)) (ci := 10) (v := .ref (qV 6)) (C := RX10) (T := TX10) (N := 16) hx hb hts (fun w h => List.mem_cons_of_mem _ (List.mem_append_right _ (List.mem_append_left _ h))) hown hK hP 0 rfl rfl 5 (by decide) (hts (.fieldLink RX10 27 "SagMemory$Valley" "wardOvers" "[I") (wl_mem 9 rfl)) (fun _ h9 => h9) rfl dX10_take_78 ?_
  refine lv_iconst (v := 0) hx hb dX10_take_81 (by decide) ?_
  refine lv_iconst (v := 5) hx hb dX10_take_82 (by decide) ?_
  refine va_copyi (ty := .int) hx hb (by rw [hml]; exact hl.1.symm) hown (hts (.methodLink RX10 61 arraycopyName) (wl_mem 1 rfl)) (hts (.native arraycopyName) (wl_mem 2 rfl)) (hts (.static arraycopyName) (wl_mem 3 rfl)) (hts (.initialized "java/lang/System") (wl_mem 4 rfl)) hK hP hD hS 14 6 0 0 rfl rfl rfl rfl rfl (by decide) (by decide) (by decide) (by decide) (by decide) (fun _ _ => rfl) (Nat.le_of_ble_eq_true rfl) (Nat.le_of_ble_eq_true rfl) dX10_take_83 (fun H locs hP hD hS => ?_)
  obtain ⟨fz6, efz6, hP, hD⟩ : ∃ fz6 : Nat → Int32, fz6 = va_cpy (aO 4) (aV 4) (0 : Int32).toNatClampNeg (0 : Int32).toNatClampNeg (5 : Int32).toNatClampNeg ∧ va_P (dC, dI) vwCl (List.flatten [(wValley qV k vV bV cV wV (va_up (va_up (va_up (va_up (va_up aV 0 fz1) 1 fz2) 2 fz4) 3 fz5) 4 fz6) (va_up eV 0 fz3))] ++ List.flatten [(wValley qO k vO bO cO wO aO eO)]) H ∧ va_D A (List.flatten [(wValley qV k vV bV cV wV (va_up (va_up (va_up (va_up (va_up aV 0 fz1) 1 fz2) 2 fz4) 3 fz5) 4 fz6) (va_up eV 0 fz3))] ++ List.flatten [(wValley qO k vO bO cO wO aO eO)]) := ⟨_, rfl, hP, hD⟩
  refine lv_aload_n hx hb dX10_take_86 rfl (lv_at hl 1 rfl) ?_
  refine va_get (D := (dC, dI)) (ci := 10) (v := .ref (qO 7)) (C := RX10) (T := TX10) (N := 16) hx hb hts (fun w h => List.mem_cons_of_mem _ (List.mem_append_right _ (List.mem_append_left _ h))) hown hK hP 8 rfl rfl 6 (by decide) (hts (.fieldLink RX10 30 "SagMemory$Valley" "wardTargets" "[I") (wl_mem 10 rfl)) (fun _ h9 => h9) rfl dX10_take_87 ?_
  refine lv_iconst (v := 0) hx hb dX10_take_90 (by decide) ?_
  refine lv_aload_n hx hb dX10_take_91 rfl (lv_at hl 0 rfl) ?_
  refine va_get (D := (dC, dI)) (ci := 10) (v := .ref (qV 7)) (C := RX10) (T := TX10) (N := 16) hx hb hts (fun w h => List.mem_cons_of_mem _ (List.mem_append_right _ (List.mem_append_left _ h))) hown hK hP 0 rfl rfl 6 (by decide) (hts (.fieldLink RX10 30 "SagMemory$Valley" "wardTargets" "[I") (wl_mem 10 rfl)) (fun _ h9 => h9) rfl dX10_take_92 ?_
  refine lv_iconst (v := 0) hx hb dX10_take_95 (by decide) ?_
  refine lv_iconst (v := 5) hx hb dX10_take_96 (by decide) ?_
  refine va_copyi (ty := .int) hx hb (by rw [hml]; exact hl.1.symm) hown (hts (.methodLink RX10 61 arraycopyName) (wl_mem 1 rfl)) (hts (.native arraycopyName) (wl_mem 2 rfl)) (hts (.static arraycopyName) (wl_mem 3 rfl)) (hts (.initialized "java/lang/System") (wl_mem 4 rfl)) hK hP hD hS 15 7 0 0 rfl rfl rfl rfl rfl (by decide) (by decide) (by decide) (by decide) (by decide) (fun _ _ => rfl) (Nat.le_of_ble_eq_true rfl) (Nat.le_of_ble_eq_true rfl) dX10_take_97 (fun H locs hP hD hS => ?_)
  obtain ⟨fz7, efz7, hP, hD⟩ : ∃ fz7 : Nat → Int32, fz7 = va_cpy (aO 5) (aV 5) (0 : Int32).toNatClampNeg (0 : Int32).toNatClampNeg (5 : Int32).toNatClampNeg ∧ va_P (dC, dI) vwCl (List.flatten [(wValley qV k vV bV cV wV (va_up (va_up (va_up (va_up (va_up (va_up aV 0 fz1) 1 fz2) 2 fz4) 3 fz5) 4 fz6) 5 fz7) (va_up eV 0 fz3))] ++ List.flatten [(wValley qO k vO bO cO wO aO eO)]) H ∧ va_D A (List.flatten [(wValley qV k vV bV cV wV (va_up (va_up (va_up (va_up (va_up (va_up aV 0 fz1) 1 fz2) 2 fz4) 3 fz5) 4 fz6) 5 fz7) (va_up eV 0 fz3))] ++ List.flatten [(wValley qO k vO bO cO wO aO eO)]) := ⟨_, rfl, hP, hD⟩
  refine lv_aload_n hx hb dX10_take_100 rfl (lv_at hl 0 rfl) ?_
  refine lv_aload_n hx hb dX10_take_101 rfl (lv_at hl 1 rfl) ?_
  refine va_get (D := (dC, dI)) (ci := 10) (v := .int (vO 0)) (C := RX10) (T := TX10) (N := 16) hx hb hts (fun w h => List.mem_cons_of_mem _ (List.mem_append_right _ (List.mem_append_left _ h))) hown hK hP 8 rfl rfl 7 (by decide) (hts (.fieldLink RX10 33 "SagMemory$Valley" "lines" "I") (wl_mem 11 rfl)) (fun _ h9 => h9) rfl dX10_take_102 ?_
  refine va_put (D := (dC, dI)) (ci := 10) (v := .int (vO 0)) (ty := .int) (C := RX10) (T := TX10) (N := 16) hx hb hts (fun w h => List.mem_cons_of_mem _ (List.mem_append_right _ (List.mem_append_left _ h))) tyX10 tyX10_ok nmX10 hown hK hP hD hS 0 rfl rfl 7 (by decide) (hts (.fieldLink RX10 33 "SagMemory$Valley" "lines" "I") (wl_mem 11 rfl)) (fun _ h9 => h9) rfl (by decide +kernel) rfl rfl (Nat.le_of_ble_eq_true rfl) dX10_take_105 (fun H locs hP hD hS => ?_)
  have hP : va_P (dC, dI) vwCl (List.flatten [(wValley qV k (va_up vV 0 (vO 0)) bV cV wV (va_up (va_up (va_up (va_up (va_up (va_up aV 0 fz1) 1 fz2) 2 fz4) 3 fz5) 4 fz6) 5 fz7) (va_up eV 0 fz3))] ++ List.flatten [(wValley qO k vO bO cO wO aO eO)]) H := hP
  have hD : va_D A (List.flatten [(wValley qV k (va_up vV 0 (vO 0)) bV cV wV (va_up (va_up (va_up (va_up (va_up (va_up aV 0 fz1) 1 fz2) 2 fz4) 3 fz5) 4 fz6) 5 fz7) (va_up eV 0 fz3))] ++ List.flatten [(wValley qO k vO bO cO wO aO eO)]) := hD
  refine lv_aload_n hx hb dX10_take_108 rfl (lv_at hl 0 rfl) ?_
  refine lv_aload_n hx hb dX10_take_109 rfl (lv_at hl 1 rfl) ?_
  refine va_get (D := (dC, dI)) (ci := 10) (v := .int (vO 1)) (C := RX10) (T := TX10) (N := 16) hx hb hts (fun w h => List.mem_cons_of_mem _ (List.mem_append_right _ (List.mem_append_left _ h))) hown hK hP 8 rfl rfl 8 (by decide) (hts (.fieldLink RX10 37 "SagMemory$Valley" "law" "I") (wl_mem 12 rfl)) (fun _ h9 => h9) rfl dX10_take_110 ?_
  refine va_put (D := (dC, dI)) (ci := 10) (v := .int (vO 1)) (ty := .int) (C := RX10) (T := TX10) (N := 16) hx hb hts (fun w h => List.mem_cons_of_mem _ (List.mem_append_right _ (List.mem_append_left _ h))) tyX10 tyX10_ok nmX10 hown hK hP hD hS 0 rfl rfl 8 (by decide) (hts (.fieldLink RX10 37 "SagMemory$Valley" "law" "I") (wl_mem 12 rfl)) (fun _ h9 => h9) rfl (by decide +kernel) rfl rfl (Nat.le_of_ble_eq_true rfl) dX10_take_113 (fun H locs hP hD hS => ?_)
  have hP : va_P (dC, dI) vwCl (List.flatten [(wValley qV k (va_up (va_up vV 0 (vO 0)) 1 (vO 1)) bV cV wV (va_up (va_up (va_up (va_up (va_up (va_up aV 0 fz1) 1 fz2) 2 fz4) 3 fz5) 4 fz6) 5 fz7) (va_up eV 0 fz3))] ++ List.flatten [(wValley qO k vO bO cO wO aO eO)]) H := hP
  have hD : va_D A (List.flatten [(wValley qV k (va_up (va_up vV 0 (vO 0)) 1 (vO 1)) bV cV wV (va_up (va_up (va_up (va_up (va_up (va_up aV 0 fz1) 1 fz2) 2 fz4) 3 fz5) 4 fz6) 5 fz7) (va_up eV 0 fz3))] ++ List.flatten [(wValley qO k vO bO cO wO aO eO)]) := hD
  refine lv_aload_n hx hb dX10_take_116 rfl (lv_at hl 0 rfl) ?_
  refine lv_aload_n hx hb dX10_take_117 rfl (lv_at hl 1 rfl) ?_
  refine va_get (D := (dC, dI)) (ci := 10) (v := .int (vO 2)) (C := RX10) (T := TX10) (N := 16) hx hb hts (fun w h => List.mem_cons_of_mem _ (List.mem_append_right _ (List.mem_append_left _ h))) hown hK hP 8 rfl rfl 9 (by decide) (hts (.fieldLink RX10 40 "SagMemory$Valley" "frost" "I") (wl_mem 13 rfl)) (fun _ h9 => h9) rfl dX10_take_118 ?_
  refine va_put (D := (dC, dI)) (ci := 10) (v := .int (vO 2)) (ty := .int) (C := RX10) (T := TX10) (N := 16) hx hb hts (fun w h => List.mem_cons_of_mem _ (List.mem_append_right _ (List.mem_append_left _ h))) tyX10 tyX10_ok nmX10 hown hK hP hD hS 0 rfl rfl 9 (by decide) (hts (.fieldLink RX10 40 "SagMemory$Valley" "frost" "I") (wl_mem 13 rfl)) (fun _ h9 => h9) rfl (by decide +kernel) rfl rfl (Nat.le_of_ble_eq_true rfl) dX10_take_121 (fun H locs hP hD hS => ?_)
  have hP : va_P (dC, dI) vwCl (List.flatten [(wValley qV k (va_up (va_up (va_up vV 0 (vO 0)) 1 (vO 1)) 2 (vO 2)) bV cV wV (va_up (va_up (va_up (va_up (va_up (va_up aV 0 fz1) 1 fz2) 2 fz4) 3 fz5) 4 fz6) 5 fz7) (va_up eV 0 fz3))] ++ List.flatten [(wValley qO k vO bO cO wO aO eO)]) H := hP
  have hD : va_D A (List.flatten [(wValley qV k (va_up (va_up (va_up vV 0 (vO 0)) 1 (vO 1)) 2 (vO 2)) bV cV wV (va_up (va_up (va_up (va_up (va_up (va_up aV 0 fz1) 1 fz2) 2 fz4) 3 fz5) 4 fz6) 5 fz7) (va_up eV 0 fz3))] ++ List.flatten [(wValley qO k vO bO cO wO aO eO)]) := hD
  refine lv_aload_n hx hb dX10_take_124 rfl (lv_at hl 0 rfl) ?_
  refine lv_aload_n hx hb dX10_take_125 rfl (lv_at hl 1 rfl) ?_
  refine va_get (D := (dC, dI)) (ci := 10) (v := .int (vO 3)) (C := RX10) (T := TX10) (N := 16) hx hb hts (fun w h => List.mem_cons_of_mem _ (List.mem_append_right _ (List.mem_append_left _ h))) hown hK hP 8 rfl rfl 10 (by decide) (hts (.fieldLink RX10 43 "SagMemory$Valley" "odds" "I") (wl_mem 14 rfl)) (fun _ h9 => h9) rfl dX10_take_126 ?_
  refine va_put (D := (dC, dI)) (ci := 10) (v := .int (vO 3)) (ty := .int) (C := RX10) (T := TX10) (N := 16) hx hb hts (fun w h => List.mem_cons_of_mem _ (List.mem_append_right _ (List.mem_append_left _ h))) tyX10 tyX10_ok nmX10 hown hK hP hD hS 0 rfl rfl 10 (by decide) (hts (.fieldLink RX10 43 "SagMemory$Valley" "odds" "I") (wl_mem 14 rfl)) (fun _ h9 => h9) rfl (by decide +kernel) rfl rfl (Nat.le_of_ble_eq_true rfl) dX10_take_129 (fun H locs hP hD hS => ?_)
  have hP : va_P (dC, dI) vwCl (List.flatten [(wValley qV k (va_up (va_up (va_up (va_up vV 0 (vO 0)) 1 (vO 1)) 2 (vO 2)) 3 (vO 3)) bV cV wV (va_up (va_up (va_up (va_up (va_up (va_up aV 0 fz1) 1 fz2) 2 fz4) 3 fz5) 4 fz6) 5 fz7) (va_up eV 0 fz3))] ++ List.flatten [(wValley qO k vO bO cO wO aO eO)]) H := hP
  have hD : va_D A (List.flatten [(wValley qV k (va_up (va_up (va_up (va_up vV 0 (vO 0)) 1 (vO 1)) 2 (vO 2)) 3 (vO 3)) bV cV wV (va_up (va_up (va_up (va_up (va_up (va_up aV 0 fz1) 1 fz2) 2 fz4) 3 fz5) 4 fz6) 5 fz7) (va_up eV 0 fz3))] ++ List.flatten [(wValley qO k vO bO cO wO aO eO)]) := hD
  refine lv_aload_n hx hb dX10_take_132 rfl (lv_at hl 0 rfl) ?_
  refine lv_aload_n hx hb dX10_take_133 rfl (lv_at hl 1 rfl) ?_
  refine va_get (D := (dC, dI)) (ci := 10) (v := .int (bO 0)) (C := RX10) (T := TX10) (N := 16) hx hb hts (fun w h => List.mem_cons_of_mem _ (List.mem_append_right _ (List.mem_append_left _ h))) hown hK hP 8 rfl rfl 11 (by decide) (hts (.fieldLink RX10 46 "SagMemory$Valley" "bridges" "I") (wl_mem 15 rfl)) (fun _ h9 => h9) rfl dX10_take_134 ?_
  have bz8 := hbO 0
  refine va_put (D := (dC, dI)) (ci := 10) (v := .int (bO 0)) (ty := .int) (C := RX10) (T := TX10) (N := 16) hx hb hts (fun w h => List.mem_cons_of_mem _ (List.mem_append_right _ (List.mem_append_left _ h))) tyX10 tyX10_ok nmX10 hown hK hP hD hS 0 rfl rfl 11 (by decide) (hts (.fieldLink RX10 46 "SagMemory$Valley" "bridges" "I") (wl_mem 15 rfl)) (fun _ h9 => h9) rfl (by decide +kernel) rfl rfl (Nat.le_of_ble_eq_true rfl) dX10_take_137 (fun H locs hP hD hS => ?_)
  have hP : va_P (dC, dI) vwCl (List.flatten [(wValley qV k (va_up (va_up (va_up (va_up vV 0 (vO 0)) 1 (vO 1)) 2 (vO 2)) 3 (vO 3)) (va_up bV 0 (bO 0)) cV wV (va_up (va_up (va_up (va_up (va_up (va_up aV 0 fz1) 1 fz2) 2 fz4) 3 fz5) 4 fz6) 5 fz7) (va_up eV 0 fz3))] ++ List.flatten [(wValley qO k vO bO cO wO aO eO)]) H := hP
  have hD : va_D A (List.flatten [(wValley qV k (va_up (va_up (va_up (va_up vV 0 (vO 0)) 1 (vO 1)) 2 (vO 2)) 3 (vO 3)) (va_up bV 0 (bO 0)) cV wV (va_up (va_up (va_up (va_up (va_up (va_up aV 0 fz1) 1 fz2) 2 fz4) 3 fz5) 4 fz6) 5 fz7) (va_up eV 0 fz3))] ++ List.flatten [(wValley qO k vO bO cO wO aO eO)]) := hD
  refine lv_aload_n hx hb dX10_take_140 rfl (lv_at hl 0 rfl) ?_
  refine lv_aload_n hx hb dX10_take_141 rfl (lv_at hl 1 rfl) ?_
  refine va_get (D := (dC, dI)) (ci := 10) (v := .int (cO 0)) (C := RX10) (T := TX10) (N := 16) hx hb hts (fun w h => List.mem_cons_of_mem _ (List.mem_append_right _ (List.mem_append_left _ h))) hown hK hP 8 rfl rfl 12 (by decide) (hts (.fieldLink RX10 49 "SagMemory$Valley" "carts" "I") (wl_mem 16 rfl)) (fun _ h9 => h9) rfl dX10_take_142 ?_
  have bz9 := hcO 0
  refine va_put (D := (dC, dI)) (ci := 10) (v := .int (cO 0)) (ty := .int) (C := RX10) (T := TX10) (N := 16) hx hb hts (fun w h => List.mem_cons_of_mem _ (List.mem_append_right _ (List.mem_append_left _ h))) tyX10 tyX10_ok nmX10 hown hK hP hD hS 0 rfl rfl 12 (by decide) (hts (.fieldLink RX10 49 "SagMemory$Valley" "carts" "I") (wl_mem 16 rfl)) (fun _ h9 => h9) rfl (by decide +kernel) rfl rfl (Nat.le_of_ble_eq_true rfl) dX10_take_145 (fun H locs hP hD hS => ?_)
  have hP : va_P (dC, dI) vwCl (List.flatten [(wValley qV k (va_up (va_up (va_up (va_up vV 0 (vO 0)) 1 (vO 1)) 2 (vO 2)) 3 (vO 3)) (va_up bV 0 (bO 0)) (va_up cV 0 (cO 0)) wV (va_up (va_up (va_up (va_up (va_up (va_up aV 0 fz1) 1 fz2) 2 fz4) 3 fz5) 4 fz6) 5 fz7) (va_up eV 0 fz3))] ++ List.flatten [(wValley qO k vO bO cO wO aO eO)]) H := hP
  have hD : va_D A (List.flatten [(wValley qV k (va_up (va_up (va_up (va_up vV 0 (vO 0)) 1 (vO 1)) 2 (vO 2)) 3 (vO 3)) (va_up bV 0 (bO 0)) (va_up cV 0 (cO 0)) wV (va_up (va_up (va_up (va_up (va_up (va_up aV 0 fz1) 1 fz2) 2 fz4) 3 fz5) 4 fz6) 5 fz7) (va_up eV 0 fz3))] ++ List.flatten [(wValley qO k vO bO cO wO aO eO)]) := hD
  refine lv_aload_n hx hb dX10_take_148 rfl (lv_at hl 0 rfl) ?_
  refine lv_aload_n hx hb dX10_take_149 rfl (lv_at hl 1 rfl) ?_
  refine va_get (D := (dC, dI)) (ci := 10) (v := .int (wO 0)) (C := RX10) (T := TX10) (N := 16) hx hb hts (fun w h => List.mem_cons_of_mem _ (List.mem_append_right _ (List.mem_append_left _ h))) hown hK hP 8 rfl rfl 13 (by decide) (hts (.fieldLink RX10 52 "SagMemory$Valley" "wards" "I") (wl_mem 17 rfl)) (fun _ h9 => h9) rfl dX10_take_150 ?_
  have bz10 := hwO 0
  refine va_put (D := (dC, dI)) (ci := 10) (v := .int (wO 0)) (ty := .int) (C := RX10) (T := TX10) (N := 16) hx hb hts (fun w h => List.mem_cons_of_mem _ (List.mem_append_right _ (List.mem_append_left _ h))) tyX10 tyX10_ok nmX10 hown hK hP hD hS 0 rfl rfl 13 (by decide) (hts (.fieldLink RX10 52 "SagMemory$Valley" "wards" "I") (wl_mem 17 rfl)) (fun _ h9 => h9) rfl (by decide +kernel) rfl rfl (Nat.le_of_ble_eq_true rfl) dX10_take_153 (fun H locs hP hD hS => ?_)
  have hP : va_P (dC, dI) vwCl (List.flatten [(wValley qV k (va_up (va_up (va_up (va_up vV 0 (vO 0)) 1 (vO 1)) 2 (vO 2)) 3 (vO 3)) (va_up bV 0 (bO 0)) (va_up cV 0 (cO 0)) (va_up wV 0 (wO 0)) (va_up (va_up (va_up (va_up (va_up (va_up aV 0 fz1) 1 fz2) 2 fz4) 3 fz5) 4 fz6) 5 fz7) (va_up eV 0 fz3))] ++ List.flatten [(wValley qO k vO bO cO wO aO eO)]) H := hP
  have hD : va_D A (List.flatten [(wValley qV k (va_up (va_up (va_up (va_up vV 0 (vO 0)) 1 (vO 1)) 2 (vO 2)) 3 (vO 3)) (va_up bV 0 (bO 0)) (va_up cV 0 (cO 0)) (va_up wV 0 (wO 0)) (va_up (va_up (va_up (va_up (va_up (va_up aV 0 fz1) 1 fz2) 2 fz4) 3 fz5) 4 fz6) 5 fz7) (va_up eV 0 fz3))] ++ List.flatten [(wValley qO k vO bO cO wO aO eO)]) := hD
  refine lv_aload_n hx hb dX10_take_156 rfl (lv_at hl 0 rfl) ?_
  refine lv_aload_n hx hb dX10_take_157 rfl (lv_at hl 1 rfl) ?_
  refine va_get (D := (dC, dI)) (ci := 10) (v := .int (vO 4)) (C := RX10) (T := TX10) (N := 16) hx hb hts (fun w h => List.mem_cons_of_mem _ (List.mem_append_right _ (List.mem_append_left _ h))) hown hK hP 8 rfl rfl 14 (by decide) (hts (.fieldLink RX10 55 "SagMemory$Valley" "frosts" "I") (wl_mem 18 rfl)) (fun _ h9 => h9) rfl dX10_take_158 ?_
  refine va_put (D := (dC, dI)) (ci := 10) (v := .int (vO 4)) (ty := .int) (C := RX10) (T := TX10) (N := 16) hx hb hts (fun w h => List.mem_cons_of_mem _ (List.mem_append_right _ (List.mem_append_left _ h))) tyX10 tyX10_ok nmX10 hown hK hP hD hS 0 rfl rfl 14 (by decide) (hts (.fieldLink RX10 55 "SagMemory$Valley" "frosts" "I") (wl_mem 18 rfl)) (fun _ h9 => h9) rfl (by decide +kernel) rfl rfl (Nat.le_of_ble_eq_true rfl) dX10_take_161 (fun H locs hP hD hS => ?_)
  have hP : va_P (dC, dI) vwCl (List.flatten [(wValley qV k (va_up (va_up (va_up (va_up (va_up vV 0 (vO 0)) 1 (vO 1)) 2 (vO 2)) 3 (vO 3)) 4 (vO 4)) (va_up bV 0 (bO 0)) (va_up cV 0 (cO 0)) (va_up wV 0 (wO 0)) (va_up (va_up (va_up (va_up (va_up (va_up aV 0 fz1) 1 fz2) 2 fz4) 3 fz5) 4 fz6) 5 fz7) (va_up eV 0 fz3))] ++ List.flatten [(wValley qO k vO bO cO wO aO eO)]) H := hP
  have hD : va_D A (List.flatten [(wValley qV k (va_up (va_up (va_up (va_up (va_up vV 0 (vO 0)) 1 (vO 1)) 2 (vO 2)) 3 (vO 3)) 4 (vO 4)) (va_up bV 0 (bO 0)) (va_up cV 0 (cO 0)) (va_up wV 0 (wO 0)) (va_up (va_up (va_up (va_up (va_up (va_up aV 0 fz1) 1 fz2) 2 fz4) 3 fz5) 4 fz6) 5 fz7) (va_up eV 0 fz3))] ++ List.flatten [(wValley qO k vO bO cO wO aO eO)]) := hD
  refine lv_aload_n hx hb dX10_take_164 rfl (lv_at hl 0 rfl) ?_
  refine lv_aload_n hx hb dX10_take_165 rfl (lv_at hl 1 rfl) ?_
  refine va_get (D := (dC, dI)) (ci := 10) (v := .int (vO 5)) (C := RX10) (T := TX10) (N := 16) hx hb hts (fun w h => List.mem_cons_of_mem _ (List.mem_append_right _ (List.mem_append_left _ h))) hown hK hP 8 rfl rfl 15 (by decide) (hts (.fieldLink RX10 58 "SagMemory$Valley" "cold" "I") (wl_mem 19 rfl)) (fun _ h9 => h9) rfl dX10_take_166 ?_
  refine va_put (D := (dC, dI)) (ci := 10) (v := .int (vO 5)) (ty := .int) (C := RX10) (T := TX10) (N := 16) hx hb hts (fun w h => List.mem_cons_of_mem _ (List.mem_append_right _ (List.mem_append_left _ h))) tyX10 tyX10_ok nmX10 hown hK hP hD hS 0 rfl rfl 15 (by decide) (hts (.fieldLink RX10 58 "SagMemory$Valley" "cold" "I") (wl_mem 19 rfl)) (fun _ h9 => h9) rfl (by decide +kernel) rfl rfl (Nat.le_of_ble_eq_true rfl) dX10_take_169 (fun H locs hP hD hS => ?_)
  have hP : va_P (dC, dI) vwCl (List.flatten [(wValley qV k (va_up (va_up (va_up (va_up (va_up (va_up vV 0 (vO 0)) 1 (vO 1)) 2 (vO 2)) 3 (vO 3)) 4 (vO 4)) 5 (vO 5)) (va_up bV 0 (bO 0)) (va_up cV 0 (cO 0)) (va_up wV 0 (wO 0)) (va_up (va_up (va_up (va_up (va_up (va_up aV 0 fz1) 1 fz2) 2 fz4) 3 fz5) 4 fz6) 5 fz7) (va_up eV 0 fz3))] ++ List.flatten [(wValley qO k vO bO cO wO aO eO)]) H := hP
  have hD : va_D A (List.flatten [(wValley qV k (va_up (va_up (va_up (va_up (va_up (va_up vV 0 (vO 0)) 1 (vO 1)) 2 (vO 2)) 3 (vO 3)) 4 (vO 4)) 5 (vO 5)) (va_up bV 0 (bO 0)) (va_up cV 0 (cO 0)) (va_up wV 0 (wO 0)) (va_up (va_up (va_up (va_up (va_up (va_up aV 0 fz1) 1 fz2) 2 fz4) 3 fz5) 4 fz6) 5 fz7) (va_up eV 0 fz3))] ++ List.flatten [(wValley qO k vO bO cO wO aO eO)]) := hD
  rw [hQ]
  exact W.vret hx hb hr (fun t ht hW => ⟨⟨(), rfl, trivial, (va_up (va_up (va_up (va_up (va_up (va_up vV 0 (vO 0)) 1 (vO 1)) 2 (vO 2)) 3 (vO 3)) 4 (vO 4)) 5 (vO 5)), (va_up bV 0 (bO 0)), (va_up cV 0 (cO 0)), (va_up wV 0 (wO 0)), (va_up (va_up (va_up (va_up (va_up (va_up aV 0 fz1) 1 fz2) 2 fz4) 3 fz5) 4 fz6) 5 fz7), (va_up eV 0 fz3), (rg_up hbV (by show 0 ≤ (bO 0).toInt ∧ (bO 0).toInt ≤ 3; omega)), (rg_up hcV (by show 0 ≤ (cO 0).toInt ∧ (cO 0).toInt ≤ 7; omega)), (rg_up hwV (by show 0 ≤ (wO 0).toInt ∧ (wO 0).toInt ≤ 5; omega)), (rga_up heV hfz3), by rw [ht]; exact hP⟩, hS.F ht⟩) hS.2.2 dX10_take_172
def wk_c_X10_cartsBy : List Cond := .code yX10_cartsBy cX10_cartsBy 4 (some .int) :: ([.fieldLink RX10 49 "SagMemory$Valley" "carts" "I", .fieldLink RX10 21 "SagMemory$Valley" "ways" "[I"] ++ (wsX100 ++ []))
theorem wkg_c_X10_cartsBy : wk_c_X10_cartsBy.all goodWord = true := by decide +kernel
set_option maxHeartbeats 4000000 in
set_option maxRecDepth 100000 in
theorem c_X10_cartsBy (l : Launch) (dC : Nat → ClassId) (dI : Nat → Nat → Nat) (k : Nat → ClassId) (qV : Nat → Nat) (vV : Nat → Int32) (bV : Nat → Int32) (cV : Nat → Int32) (wV : Nat → Int32) (aV : Nat → Nat → Int32) (eV : Nat → Nat → Int32) (p1 : Int32) (hbV : Rg 0 3 bV) (hcV : Rg 0 7 cV) (hwV : Rg 0 5 wV) (heV : RgA 0 99 eV) : Met l yX10_cartsBy wk_c_X10_cartsBy ({ frames := 0, cells := 0, slots := 0, locals := 0 }) (va_Pc [.ref (qV 0), .int p1] (fun U => va_P (dC, dI) vwCl (List.flatten [(wValley qV k vV bV cV wV aV eV)]) U.heap ∧ va_K (dC, dI) vwCl (tK k) U)) (vp_Si (fun r : Int32 => True)) 0 0 (fun _ => False) := by
  refine Met.ofW (cc := cX10_cartsBy) (maxL := 4) (ret := (some .int)) (by decide) rfl ?_
  intro p e s m args below meth c s₁ B hml hv
  obtain ⟨rfl, hP, hK⟩ := hv
  have hx := B.exec
  have hb := B.bytes
  have hr := B.returns
  have hts := atoms_spec (ws := wk_c_X10_cartsBy) B.pre
  have hown : s.vm.findClass RX10 = some m.cls := findClass_of_methodNamed B.named
  have hlocks := B.notSynchronized
  have hP : va_P (dC, dI) vwCl (List.flatten [(wValley qV k vV bV cV wV aV eV)]) s.heap := hP
  have hl := lv_entry ([.ref (qV 0), .int p1]) (n := 4) (Nat.le_of_ble_eq_true rfl)
  rw [lg_entry_eq]
  generalize (lg_sl ([.ref (qV 0), .int p1]) ++ List.replicate (4 - (lg_sl ([.ref (qV 0), .int p1])).length) Slot.unset).toArray = ls at hl ⊢
  have hl : lv_has ls 4 [(0, .ref (qV 0)), (1, .int p1)] := hl
  refine w_gen (fun Q hQ => ?_)
  refine lv_iconst (v := 0) hx hb dX10_cartsBy_0 (by decide) ?_
  refine lv_istore_n (lv' := [(2, .int 0), (0, .ref (qV 0)), (1, .int p1)]) hx hb dX10_cartsBy_1 rfl hl (by decide) rfl (fun ls hl => ?_)
  refine lv_iconst (v := 0) hx hb dX10_cartsBy_2 (by decide) ?_
  refine lv_istore_n (lv' := [(3, .int 0), (2, .int 0), (0, .ref (qV 0)), (1, .int p1)]) hx hb dX10_cartsBy_3 rfl hl (by decide) rfl (fun ls hl => ?_)
  have lp4_kz25 : ∀ (n9_4 : Nat) (ls : Array Slot) (xz23 : Int32) (xz24 : Int32), (2147483647 - xz24.toInt).toNat < n9_4 → 0 ≤ xz24.toInt → lv_has ls 4 [(0, .ref (qV 0)), (1, .int p1), (2, .int xz23), (3, .int xz24)] → W p l e (headSpec wk_c_X10_cartsBy ({ frames := 0, cells := 0, slots := 0, locals := 0 })).room s m ([.ref (qV 0), .int p1] : List Value).toArray below meth c s.heap [] 0 0 Q (F0 m 4 ls []) := by
    intro n9_4
    induction n9_4 with
    | zero => intro ls xz23 xz24 hm; exact absurd hm (Nat.not_lt_zero _)
    | succ n9_4 ih4 =>
      intro ls xz23 xz24 hm4 jz26 hl
      refine lv_iload_n hx hb dX10_cartsBy_4 rfl (lv_at hl 3 rfl) ?_
      refine lv_aload_n hx hb dX10_cartsBy_5 rfl (lv_at hl 0 rfl) ?_
      refine va_get (D := (dC, dI)) (ci := 10) (v := .int (cV 0)) (C := RX10) (T := TX10) (N := 16) hx hb hts (fun w h => List.mem_cons_of_mem _ (List.mem_append_right _ (List.mem_append_left _ h))) hown hK hP 0 rfl rfl 12 (by decide) (hts (.fieldLink RX10 49 "SagMemory$Valley" "carts" "I") (wl_mem 0 rfl)) (fun _ h9 => h9) rfl dX10_cartsBy_6 ?_
      have bz27 := hcV 0
      refine lv_icmp_ge (tgt := 34) hx hb dX10_cartsBy_9 (by decide) (fun cz28 => ?_) (fun cz28 => ?_)
      · skip
        have bz29 := fb_rng xz24
        have zz30 : (cV 0).toInt ≤ xz24.toInt := zi_le.mp cz28
        refine lv_iload_n hx hb dX10_cartsBy_34 rfl (lv_at hl 2 rfl) ?_
        rw [hQ]
        exact W.iret (v := xz23) hx hb hr (fun t ht hW => ⟨xz23, rfl, trivial, ht⟩) (fun _ h => absurd h List.not_mem_nil) dX10_cartsBy_35
      · skip
        have bz31 := fb_rng xz24
        have zz32 : ¬ (cV 0).toInt ≤ xz24.toInt := fun h9 => cz28 (zi_le.mpr h9)
        refine lv_aload_n hx hb dX10_cartsBy_12 rfl (lv_at hl 0 rfl) ?_
        refine va_get (D := (dC, dI)) (ci := 10) (v := .ref (qV 4)) (C := RX10) (T := TX10) (N := 16) hx hb hts (fun w h => List.mem_cons_of_mem _ (List.mem_append_right _ (List.mem_append_left _ h))) hown hK hP 0 rfl rfl 3 (by decide) (hts (.fieldLink RX10 21 "SagMemory$Valley" "ways" "[I") (wl_mem 1 rfl)) (fun _ h9 => h9) rfl dX10_cartsBy_13 ?_
        refine lv_iload_n hx hb dX10_cartsBy_16 rfl (lv_at hl 3 rfl) ?_
        refine va_iald hx hb hK hP 4 0 rfl rfl (vp_in_iff.mpr ⟨by omega, by omega⟩) dX10_cartsBy_17 ?_
        refine lv_topi (fun xz33 exz33 => ?_)
        refine lv_iload_n hx hb dX10_cartsBy_18 rfl (lv_at hl 1 rfl) ?_
        have ct28_kz40 : ∀ (ls : Array Slot) (xz39 : Int32), lv_has ls 4 [(0, .ref (qV 0)), (1, .int p1), (2, .int xz39), (3, .int xz24)] → W p l e (headSpec wk_c_X10_cartsBy ({ frames := 0, cells := 0, slots := 0, locals := 0 })).room s m ([.ref (qV 0), .int p1] : List Value).toArray below meth c s.heap [] 0 0 Q (F0 m 28 ls []) := by
          intro ls xz39  hl
          obtain ⟨xz41, exz41⟩ : ∃ y : Int32, y = xz24 + Int32.ofInt (1) := ⟨_, rfl⟩
          have fxz41 : xz41.toInt = xz24.toInt + (1) := by rw [exz41]; exact fb_addI (y := Int32.ofInt (1)) (by show -2147483648 ≤ xz24.toInt + (1); omega) (by show xz24.toInt + (1) < 2147483648; omega)
          refine lv_iinc (v := xz41) (lv' := [(3, .int xz41), (0, .ref (qV 0)), (1, .int p1), (2, .int xz39)]) hx hb dX10_cartsBy_28 hl (k := 3) rfl exz41.symm (by decide) rfl (fun ls hl => ?_)
          refine lv_goto (tgt := 4) hx hb dX10_cartsBy_31 (by decide) ?_
          exact ih4 ls xz39 xz41 (by show (2147483647 - xz41.toInt).toNat < n9_4; omega) (by show 0 ≤ xz41.toInt; omega) (lv_sub hl [1, 2, 3, 0] rfl)
        refine lv_icmp_ne (tgt := 28) hx hb dX10_cartsBy_19 (by decide) (fun cz42 => ?_) (fun cz42 => ?_)
        · skip
          have zz43 : ¬ xz33.toInt = p1.toInt := fun h9 => cz42 (zi_eq.mpr h9)
          exact ct28_kz40 ls xz23   (lv_sub hl [0, 1, 2, 3] rfl)
        · skip
          have zz44 : xz33.toInt = p1.toInt := zi_eq.mp cz42
          refine lv_iload_n hx hb dX10_cartsBy_22 rfl (lv_at hl 2 rfl) ?_
          refine lv_iconst (v := 1) hx hb dX10_cartsBy_23 (by decide) ?_
          refine lv_iload_n hx hb dX10_cartsBy_24 rfl (lv_at hl 3 rfl) ?_
          refine lv_ishl hx hb dX10_cartsBy_25 ?_
          refine lv_topi (fun xz45 exz45 => ?_)
          refine lv_ior hx hb dX10_cartsBy_26 ?_
          refine lv_topi (fun xz46 exz46 => ?_)
          refine lv_istore_n (lv' := [(2, .int xz46), (0, .ref (qV 0)), (1, .int p1), (3, .int xz24)]) hx hb dX10_cartsBy_27 rfl hl (by decide) rfl (fun ls hl => ?_)
          exact ct28_kz40 ls xz46   (lv_sub hl [1, 2, 0, 3] rfl)
  exact lp4_kz25 _ ls (0 : Int32) (0 : Int32) (Nat.lt_succ_self _) (by show 0 ≤ (0 : Int); omega) (lv_sub hl [2, 3, 1, 0] rfl)
def wk_c_X10_target : List Cond := .code yX10_target cX10_target 4 (some .int) :: ([.fieldLink RX10 52 "SagMemory$Valley" "wards" "I", .fieldLink RX10 24 "SagMemory$Valley" "wardBridges" "[I", .fieldLink RX10 27 "SagMemory$Valley" "wardOvers" "[I", .fieldLink RX10 30 "SagMemory$Valley" "wardTargets" "[I"] ++ (wsX100 ++ []))
theorem wkg_c_X10_target : wk_c_X10_target.all goodWord = true := by decide +kernel
set_option maxHeartbeats 4000000 in
set_option maxRecDepth 100000 in
theorem c_X10_target (l : Launch) (dC : Nat → ClassId) (dI : Nat → Nat → Nat) (k : Nat → ClassId) (qV : Nat → Nat) (vV : Nat → Int32) (bV : Nat → Int32) (cV : Nat → Int32) (wV : Nat → Int32) (aV : Nat → Nat → Int32) (eV : Nat → Nat → Int32) (p1 : Int32) (p2 : Int32) (hbV : Rg 0 3 bV) (hcV : Rg 0 7 cV) (hwV : Rg 0 5 wV) (heV : RgA 0 99 eV) : Met l yX10_target wk_c_X10_target ({ frames := 0, cells := 0, slots := 0, locals := 0 }) (va_Pc [.ref (qV 0), .int p1, .int p2] (fun U => va_P (dC, dI) vwCl (List.flatten [(wValley qV k vV bV cV wV aV eV)]) U.heap ∧ va_K (dC, dI) vwCl (tK k) U)) (vp_Si (fun r : Int32 => True)) 0 0 (fun _ => False) := by
  refine Met.ofW (cc := cX10_target) (maxL := 4) (ret := (some .int)) (by decide) rfl ?_
  intro p e s m args below meth c s₁ B hml hv
  obtain ⟨rfl, hP, hK⟩ := hv
  have hx := B.exec
  have hb := B.bytes
  have hr := B.returns
  have hts := atoms_spec (ws := wk_c_X10_target) B.pre
  have hown : s.vm.findClass RX10 = some m.cls := findClass_of_methodNamed B.named
  have hlocks := B.notSynchronized
  have hP : va_P (dC, dI) vwCl (List.flatten [(wValley qV k vV bV cV wV aV eV)]) s.heap := hP
  have hl := lv_entry ([.ref (qV 0), .int p1, .int p2]) (n := 4) (Nat.le_of_ble_eq_true rfl)
  rw [lg_entry_eq]
  generalize (lg_sl ([.ref (qV 0), .int p1, .int p2]) ++ List.replicate (4 - (lg_sl ([.ref (qV 0), .int p1, .int p2])).length) Slot.unset).toArray = ls at hl ⊢
  have hl : lv_has ls 4 [(0, .ref (qV 0)), (1, .int p1), (2, .int p2)] := hl
  refine w_gen (fun Q hQ => ?_)
  refine lv_iconst (v := 0) hx hb dX10_target_0 (by decide) ?_
  refine lv_istore_n (lv' := [(3, .int 0), (0, .ref (qV 0)), (1, .int p1), (2, .int p2)]) hx hb dX10_target_1 rfl hl (by decide) rfl (fun ls hl => ?_)
  have lp2_kz35 : ∀ (n9_2 : Nat) (ls : Array Slot) (xz34 : Int32), (2147483647 - xz34.toInt).toNat < n9_2 → 0 ≤ xz34.toInt → lv_has ls 4 [(0, .ref (qV 0)), (1, .int p1), (2, .int p2), (3, .int xz34)] → W p l e (headSpec wk_c_X10_target ({ frames := 0, cells := 0, slots := 0, locals := 0 })).room s m ([.ref (qV 0), .int p1, .int p2] : List Value).toArray below meth c s.heap [] 0 0 Q (F0 m 2 ls []) := by
    intro n9_2
    induction n9_2 with
    | zero => intro ls xz34 hm; exact absurd hm (Nat.not_lt_zero _)
    | succ n9_2 ih2 =>
      intro ls xz34 hm2 jz36 hl
      refine lv_iload_n hx hb dX10_target_2 rfl (lv_at hl 3 rfl) ?_
      refine lv_aload_n hx hb dX10_target_3 rfl (lv_at hl 0 rfl) ?_
      refine va_get (D := (dC, dI)) (ci := 10) (v := .int (wV 0)) (C := RX10) (T := TX10) (N := 16) hx hb hts (fun w h => List.mem_cons_of_mem _ (List.mem_append_right _ (List.mem_append_left _ h))) hown hK hP 0 rfl rfl 13 (by decide) (hts (.fieldLink RX10 52 "SagMemory$Valley" "wards" "I") (wl_mem 0 rfl)) (fun _ h9 => h9) rfl dX10_target_4 ?_
      have bz37 := hwV 0
      refine lv_icmp_ge (tgt := 43) hx hb dX10_target_7 (by decide) (fun cz38 => ?_) (fun cz38 => ?_)
      · skip
        have bz39 := fb_rng xz34
        have zz40 : (wV 0).toInt ≤ xz34.toInt := zi_le.mp cz38
        refine lv_iload_n hx hb dX10_target_43 rfl (lv_at hl 1 rfl) ?_
        rw [hQ]
        exact W.iret (v := p1) hx hb hr (fun t ht hW => ⟨p1, rfl, trivial, ht⟩) (fun _ h => absurd h List.not_mem_nil) dX10_target_44
      · skip
        have bz41 := fb_rng xz34
        have zz42 : ¬ (wV 0).toInt ≤ xz34.toInt := fun h9 => cz38 (zi_le.mpr h9)
        refine lv_aload_n hx hb dX10_target_10 rfl (lv_at hl 0 rfl) ?_
        refine va_get (D := (dC, dI)) (ci := 10) (v := .ref (qV 5)) (C := RX10) (T := TX10) (N := 16) hx hb hts (fun w h => List.mem_cons_of_mem _ (List.mem_append_right _ (List.mem_append_left _ h))) hown hK hP 0 rfl rfl 4 (by decide) (hts (.fieldLink RX10 24 "SagMemory$Valley" "wardBridges" "[I") (wl_mem 1 rfl)) (fun _ h9 => h9) rfl dX10_target_11 ?_
        refine lv_iload_n hx hb dX10_target_14 rfl (lv_at hl 3 rfl) ?_
        refine va_iald hx hb hK hP 5 0 rfl rfl (vp_in_iff.mpr ⟨by omega, by omega⟩) dX10_target_15 ?_
        refine lv_topi (fun xz43 exz43 => ?_)
        refine lv_iload_n hx hb dX10_target_16 rfl (lv_at hl 1 rfl) ?_
        have ct37_kz56 : ∀ (ls : Array Slot), lv_has ls 4 [(0, .ref (qV 0)), (1, .int p1), (2, .int p2), (3, .int xz34)] → W p l e (headSpec wk_c_X10_target ({ frames := 0, cells := 0, slots := 0, locals := 0 })).room s m ([.ref (qV 0), .int p1, .int p2] : List Value).toArray below meth c s.heap [] 0 0 Q (F0 m 37 ls []) := by
          intro ls  hl
          obtain ⟨xz57, exz57⟩ : ∃ y : Int32, y = xz34 + Int32.ofInt (1) := ⟨_, rfl⟩
          have fxz57 : xz57.toInt = xz34.toInt + (1) := by rw [exz57]; exact fb_addI (y := Int32.ofInt (1)) (by show -2147483648 ≤ xz34.toInt + (1); omega) (by show xz34.toInt + (1) < 2147483648; omega)
          refine lv_iinc (v := xz57) (lv' := [(3, .int xz57), (0, .ref (qV 0)), (1, .int p1), (2, .int p2)]) hx hb dX10_target_37 hl (k := 3) rfl exz57.symm (by decide) rfl (fun ls hl => ?_)
          refine lv_goto (tgt := 2) hx hb dX10_target_40 (by decide) ?_
          exact ih2 ls xz57 (by show (2147483647 - xz57.toInt).toNat < n9_2; omega) (by show 0 ≤ xz57.toInt; omega) (lv_sub hl [1, 2, 3, 0] rfl)
        refine lv_icmp_ne (tgt := 37) hx hb dX10_target_17 (by decide) (fun cz58 => ?_) (fun cz58 => ?_)
        · skip
          have zz59 : ¬ xz43.toInt = p1.toInt := fun h9 => cz58 (zi_eq.mpr h9)
          exact ct37_kz56 ls   (lv_sub hl [0, 1, 2, 3] rfl)
        · skip
          have zz60 : xz43.toInt = p1.toInt := zi_eq.mp cz58
          refine lv_aload_n hx hb dX10_target_20 rfl (lv_at hl 0 rfl) ?_
          refine va_get (D := (dC, dI)) (ci := 10) (v := .ref (qV 6)) (C := RX10) (T := TX10) (N := 16) hx hb hts (fun w h => List.mem_cons_of_mem _ (List.mem_append_right _ (List.mem_append_left _ h))) hown hK hP 0 rfl rfl 5 (by decide) (hts (.fieldLink RX10 27 "SagMemory$Valley" "wardOvers" "[I") (wl_mem 2 rfl)) (fun _ h9 => h9) rfl dX10_target_21 ?_
          refine lv_iload_n hx hb dX10_target_24 rfl (lv_at hl 3 rfl) ?_
          refine va_iald hx hb hK hP 6 0 rfl rfl (vp_in_iff.mpr ⟨by omega, by omega⟩) dX10_target_25 ?_
          refine lv_topi (fun xz61 exz61 => ?_)
          refine lv_iload_n hx hb dX10_target_26 rfl (lv_at hl 2 rfl) ?_
          refine lv_icmp_ge (tgt := 37) hx hb dX10_target_27 (by decide) (fun cz62 => ?_) (fun cz62 => ?_)
          · skip
            have bz63 := fb_rng p2
            have bz64 := fb_rng xz61
            have zz65 : p2.toInt ≤ xz61.toInt := zi_le.mp cz62
            exact ct37_kz56 ls   (lv_sub hl [0, 1, 2, 3] rfl)
          · skip
            have bz66 := fb_rng p2
            have bz67 := fb_rng xz61
            have zz68 : ¬ p2.toInt ≤ xz61.toInt := fun h9 => cz62 (zi_le.mpr h9)
            refine lv_aload_n hx hb dX10_target_30 rfl (lv_at hl 0 rfl) ?_
            refine va_get (D := (dC, dI)) (ci := 10) (v := .ref (qV 7)) (C := RX10) (T := TX10) (N := 16) hx hb hts (fun w h => List.mem_cons_of_mem _ (List.mem_append_right _ (List.mem_append_left _ h))) hown hK hP 0 rfl rfl 6 (by decide) (hts (.fieldLink RX10 30 "SagMemory$Valley" "wardTargets" "[I") (wl_mem 3 rfl)) (fun _ h9 => h9) rfl dX10_target_31 ?_
            refine lv_iload_n hx hb dX10_target_34 rfl (lv_at hl 3 rfl) ?_
            refine va_iald hx hb hK hP 7 0 rfl rfl (vp_in_iff.mpr ⟨by omega, by omega⟩) dX10_target_35 ?_
            refine lv_topi (fun xz69 exz69 => ?_)
            rw [hQ]
            exact W.iret (v := xz69) hx hb hr (fun t ht hW => ⟨xz69, rfl, trivial, ht⟩) (fun _ h => absurd h List.not_mem_nil) dX10_target_36
  exact lp2_kz35 _ ls (0 : Int32) (Nat.lt_succ_self _) (by show 0 ≤ (0 : Int); omega) (lv_sub hl [1, 2, 3, 0] rfl)
