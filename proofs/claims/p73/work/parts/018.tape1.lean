def wk_c_X9_expectOther : List Cond := .code yX9_expectOther cX9_expectOther 2 (some .boolean) :: ([.fieldLink RX9 41 "SagMemory$Tape" "kind" "I", .fieldLink RX9 151 "SagMemory$Tape" "value" "I", .methodLink RX9 86 yX9_fail, .instanceMethod yX9_fail, .selects RX9 yX9_fail yX9_fail, .initialized RX9] ++ (wsX90 ++ (wk_c_X9_fail ++ [])))
theorem wkg_c_X9_expectOther : wk_c_X9_expectOther.all goodWord = true := by decide +kernel
set_option maxHeartbeats 4000000 in
set_option maxRecDepth 100000 in
theorem c_X9_expectOther (l : Launch) (dC : Nat → ClassId) (dI : Nat → Nat → Nat) (k : Nat → ClassId) (sz : Nat) (qT : Nat → Nat) (readT : Nat) (vT : Nat → Int32) (tT : Nat → Int32) (aT : Nat → Nat → Int32) (p1 : Int32) (htT : Rg 0 700 tT) : Met l yX9_expectOther wk_c_X9_expectOther ({ frames := 1, cells := 0, slots := 0, locals := 21 }) (va_Pc [.ref (qT 0), .int p1] (fun U => U.heap.size = sz ∧ va_P (dC, dI) vwCl (List.flatten [(wTape qT k readT vT tT aT)] ++ List.flatten ([] : List va_W)) U.heap ∧ va_K (dC, dI) vwCl (tK k) U ∧ va_D (fun _ => True) (List.flatten [(wTape qT k readT vT tT aT)] ++ List.flatten ([] : List va_W)))) (va_Qi (fun (r : Int32) (_ : Unit) => (r.toInt = 0 ∨ r.toInt = 1)) (fun (_ : Unit) (t : State) => ∃ (vT' : Nat → Int32) (tT' : Nat → Int32) (aT' : Nat → Nat → Int32), Rg 0 700 tT' ∧ va_P (dC, dI) vwCl (List.flatten [(wTape qT k readT vT' tT' aT')] ++ List.flatten ([] : List va_W)) t.heap) (va_A (List.flatten [(wTape qT k readT vT tT aT)] ++ List.flatten ([] : List va_W)) sz)) 0 0 (va_A (List.flatten [(wTape qT k readT vT tT aT)] ++ List.flatten ([] : List va_W)) sz) := by
  refine Met.ofW (cc := cX9_expectOther) (maxL := 2) (ret := (some .boolean)) (by decide) rfl ?_
  intro p e s m args below meth c s₁ B hml hv
  obtain ⟨rfl, hsz, hP, hK, hD0⟩ := hv
  have hx := B.exec
  have hb := B.bytes
  have hr := B.returns
  have hts := atoms_spec (ws := wk_c_X9_expectOther) B.pre
  have hown : s.vm.findClass RX9 = some m.cls := findClass_of_methodNamed B.named
  have hlocks := B.notSynchronized
  subst hsz
  have hD := hD0.self (sz := s.heap.size)
  generalize hAe : va_A (List.flatten [(wTape qT k readT vT tT aT)] ++ List.flatten ([] : List va_W)) s.heap.size = A at hD ⊢
  have hA : ∀ q : Nat, s.heap.size ≤ q → A q := fun q h => by rw [← hAe]; exact Or.inr h
  have hS : va_S A s.heap s.heap [] := va_S.rf
  have hP : va_P (dC, dI) vwCl (List.flatten [(wTape qT k readT vT tT aT)] ++ List.flatten ([] : List va_W)) s.heap := hP
  have hl := lv_entry ([.ref (qT 0), .int p1]) (n := 2) (Nat.le_of_ble_eq_true rfl)
  rw [lg_entry_eq]
  generalize (lg_sl ([.ref (qT 0), .int p1]) ++ List.replicate (2 - (lg_sl ([.ref (qT 0), .int p1])).length) Slot.unset).toArray = ls at hl ⊢
  have hl : lv_has ls 2 [(0, .ref (qT 0)), (1, .int p1)] := hl
  refine w_gen (fun Q hQ => ?_)
  refine lv_aload_n hx hb dX9_expectOther_0 rfl (lv_at hl 0 rfl) ?_
  refine va_get (D := (dC, dI)) (ci := 9) (v := .int (vT 2)) (C := RX9) (T := TX9) (N := 10) hx hb hts (fun w h => List.mem_cons_of_mem _ (List.mem_append_right _ (List.mem_append_left _ h))) hown hK hP 0 rfl rfl 6 (by decide) (hts (.fieldLink RX9 41 "SagMemory$Tape" "kind" "I") (wl_mem 0 rfl)) (fun _ h9 => h9) rfl dX9_expectOther_1 ?_
  refine lv_iconst (v := 2) hx hb dX9_expectOther_4 (by decide) ?_
  refine lv_icmp_ne (tgt := 22) hx hb dX9_expectOther_5 (by decide) (fun cz1 => ?_) (fun cz1 => ?_)
  · skip
    have zz2 : ¬ (vT 2).toInt = (2 : Int) := fun h9 => cz1 (zi_eq.mpr h9)
    refine lv_iconst (v := 1) hx hb dX9_expectOther_22 (by decide) ?_
    rw [hQ]
    exact W.zret (v := (1 : Int32)) hx hb hr rfl (fun t ht hW => ⟨⟨(1 : Int32), (), rfl, (by show (1 : Int) = 0 ∨ (1 : Int) = 1; omega), vT, tT, aT, htT, by rw [ht]; exact hP⟩, hS.F ht⟩) hS.2.2 dX9_expectOther_23
  · skip
    have zz3 : (vT 2).toInt = (2 : Int) := zi_eq.mp cz1
    refine lv_aload_n hx hb dX9_expectOther_8 rfl (lv_at hl 0 rfl) ?_
    refine va_get (D := (dC, dI)) (ci := 9) (v := .int (vT 3)) (C := RX9) (T := TX9) (N := 10) hx hb hts (fun w h => List.mem_cons_of_mem _ (List.mem_append_right _ (List.mem_append_left _ h))) hown hK hP 0 rfl rfl 8 (by decide) (hts (.fieldLink RX9 151 "SagMemory$Tape" "value" "I") (wl_mem 1 rfl)) (fun _ h9 => h9) rfl dX9_expectOther_9 ?_
    refine lv_iload_n hx hb dX9_expectOther_12 rfl (lv_at hl 1 rfl) ?_
    refine lv_icmp_ne (tgt := 22) hx hb dX9_expectOther_13 (by decide) (fun cz4 => ?_) (fun cz4 => ?_)
    · skip
      have zz5 : ¬ (vT 3).toInt = p1.toInt := fun h9 => cz4 (zi_eq.mpr h9)
      refine lv_iconst (v := 1) hx hb dX9_expectOther_22 (by decide) ?_
      rw [hQ]
      exact W.zret (v := (1 : Int32)) hx hb hr rfl (fun t ht hW => ⟨⟨(1 : Int32), (), rfl, (by show (1 : Int) = 0 ∨ (1 : Int) = 1; omega), vT, tT, aT, htT, by rw [ht]; exact hP⟩, hS.F ht⟩) hS.2.2 dX9_expectOther_23
    · skip
      have zz6 : (vT 3).toInt = p1.toInt := zi_eq.mp cz4
      refine lv_aload_n hx hb dX9_expectOther_16 rfl (lv_at hl 0 rfl) ?_
      refine lv_iconst (v := 2) hx hb dX9_expectOther_17 (by decide) ?_
      have hPc := hP
      have hC : [0, 1].map (fun i => (List.flatten [(wTape qT k readT vT tT aT)] ++ List.flatten ([] : List va_W))[i]?) = (List.flatten [(wTape qT k readT vT tT aT)] ++ List.flatten ([] : List va_W)).map some := rfl
      have hDc := hD.sub [0, 1] (by decide) hC
      have hFc := va_free hD hS hA [0, 1] hC
      refine va_calli (va_runV (As := [.int 2]) (rest := []) ⟨hx, hb, hml, hown, hts⟩ (c_X9_fail l dC dI k s.heap.size qT readT vT tT aT (2 : Int32) htT) (cwV 1 hts (gk_V (wl_mem 2 rfl) (wl_mem 3 rfl) (wl_mem 4 rfl) (wl_mem 5 rfl) (fun w h => List.mem_cons_of_mem _ (List.mem_append_right _ (List.mem_append_right _ (List.mem_append_left _ h)))) wkg_c_X9_fail) rfl rfl rfl (by decide +kernel) ⟨Nat.le_of_ble_eq_true rfl, Nat.le_of_ble_eq_true rfl⟩) ⟨fun a U g mk q => by obtain ⟨q0, q1, qP, qK, qD⟩ := q; exact ⟨q0, q1, qP, va_K.moved (u := U) (U := U.calling g mk a) (Vm.Alike.refl U.vm) qK, qD⟩, va_recv hK hPc (ci := 9) (q0 := 0) rfl rfl, fun U hU hW => ⟨rfl, by rw [hU], by rw [hU]; exact hPc, va_K.moved hW.alike hK, hDc.weaken (fun _ _ _ _ => trivial)⟩⟩ rfl rfl hl.1 rfl (lv_room (Nat.le_of_ble_eq_true rfl)) dX9_expectOther_18 ⟨Nat.le_of_ble_eq_true rfl, Nat.le_of_ble_eq_true rfl⟩) hS (fun q _ h => hFc q h) hFc (fun rz8 u t H1 locs ht hvm gz7 hB hz1 hk1 hS => ?_)
      obtain ⟨vz9, tz10, az11, htz10, hP1⟩ := hB
      rw [ht] at hP1
      obtain ⟨hP, hD⟩ := w_callR hP hD hk1 hP1 [0] rfl rfl (fun _ h => absurd h List.not_mem_nil) rfl [some 0] rfl rfl
      clear hPc hC hDc hFc hk1 hP1
      generalize H1 = H at hP hS ⊢
      have hP : va_P (dC, dI) vwCl (List.flatten [(wTape qT k readT vz9 tz10 az11)] ++ List.flatten ([] : List va_W)) H := hP
      have hD : va_D A (List.flatten [(wTape qT k readT vz9 tz10 az11)] ++ List.flatten ([] : List va_W)) := hD
      refine W.widen (k := 0) (n := 0) (Nat.le_refl 0) (Nat.le_refl 0) ?_
      obtain ⟨pz12, pz13⟩ := gz7
      have pz12 : rz8.toInt = 0 := pz12
      have pz13 : rz8.toInt = 0 ∨ rz8.toInt = 1 := pz13
      rw [hQ]
      exact W.zret (v := rz8) hx hb hr (zb_nar (by show rz8.toInt = 0 ∨ rz8.toInt = 1; omega)) (fun t ht hW => ⟨⟨rz8, (), rfl, (by show rz8.toInt = 0 ∨ rz8.toInt = 1; omega), vz9, tz10, az11, htz10, by rw [ht]; exact hP⟩, hS.F ht⟩) hS.2.2 dX9_expectOther_21
def wk_c_X9_parseValley : List Cond := .code yX9_parseValley cX9_parseValley 1 (some .boolean) :: ([.methodLink RX9 53 yX9_expect, .instanceMethod yX9_expect, .selects RX9 yX9_expect yX9_expect, .initialized RX9, .methodLink RX9 92 yX9_expectNumber, .instanceMethod yX9_expectNumber, .selects RX9 yX9_expectNumber yX9_expectNumber, .fieldLink RX9 18 "SagMemory$Tape" "read" "LSagMemory$Valley;", .fieldLink RX9 96 "SagMemory$Tape" "number" "I", .fieldLink RX9 99 "SagMemory$Valley" "law" "I", .fieldLink RX9 101 "SagMemory$Valley" "frost" "I", .fieldLink RX9 105 "SagMemory$Valley" "odds" "I"] ++ (wk_c_X9_expect ++ (wk_c_X9_expectNumber ++ (wsX90 ++ (wsX100 ++ [])))))
theorem wkg_c_X9_parseValley : wk_c_X9_parseValley.all goodWord = true := by decide +kernel
set_option maxHeartbeats 4000000 in
set_option maxRecDepth 100000 in
theorem c_X9_parseValley (l : Launch) (dC : Nat → ClassId) (dI : Nat → Nat → Nat) (k : Nat → ClassId) (sz : Nat) (adK adV ln : Nat → Nat) (by9 : Nat → Nat → Int32) (qT : Nat → Nat) (vT : Nat → Int32) (tT : Nat → Int32) (aT : Nat → Nat → Int32) (qB : Nat → Nat) (vB : Nat → Int32) (bB : Nat → Int32) (cB : Nat → Int32) (wB : Nat → Int32) (aB : Nat → Nat → Int32) (eB : Nat → Nat → Int32) (htT : Rg 0 700 tT) (hbB : Rg 0 3 bB) (hcB : Rg 0 7 cB) (hwB : Rg 0 5 wB) (heB : RgA 0 99 eB) : Met l yX9_parseValley wk_c_X9_parseValley ({ frames := 6, cells := 0, slots := 0, locals := 128 }) (va_Pc [.ref (qT 0)] (fun U => U.heap.size = sz ∧ va_P (dC, dI) vwCl (List.flatten [(wTape qT k (qB 0) vT tT aT), (wValley qB k vB bB cB wB aB eB)] ++ List.flatten ([] : List va_W)) U.heap ∧ va_K (dC, dI) vwCl (tK k) U ∧ va_D (fun _ => True) (List.flatten [(wTape qT k (qB 0) vT tT aT), (wValley qB k vB bB cB wB aB eB)] ++ List.flatten ([] : List va_W)) ∧ Zt adK adV ln by9 (va_A (List.flatten [(wTape qT k (qB 0) vT tT aT), (wValley qB k vB bB cB wB aB eB)] ++ List.flatten ([] : List va_W)) sz) U U.heap)) (va_Qi (fun (r : Int32) (_ : Unit) => (r.toInt = 0 ∨ r.toInt = 1)) (fun (_ : Unit) (t : State) => ∃ (vT' : Nat → Int32) (tT' : Nat → Int32) (aT' : Nat → Nat → Int32) (vB' : Nat → Int32) (bB' : Nat → Int32) (cB' : Nat → Int32) (wB' : Nat → Int32) (aB' : Nat → Nat → Int32) (eB' : Nat → Nat → Int32), Rg 0 700 tT' ∧ Rg 0 3 bB' ∧ Rg 0 7 cB' ∧ Rg 0 5 wB' ∧ RgA 0 99 eB' ∧ va_P (dC, dI) vwCl (List.flatten [(wTape qT k (qB 0) vT' tT' aT'), (wValley qB k vB' bB' cB' wB' aB' eB')] ++ List.flatten ([] : List va_W)) t.heap) (va_A (List.flatten [(wTape qT k (qB 0) vT tT aT), (wValley qB k vB bB cB wB aB eB)] ++ List.flatten ([] : List va_W)) sz)) 0 0 (va_A (List.flatten [(wTape qT k (qB 0) vT tT aT), (wValley qB k vB bB cB wB aB eB)] ++ List.flatten ([] : List va_W)) sz) := by
  refine Met.ofW (cc := cX9_parseValley) (maxL := 1) (ret := (some .boolean)) (by decide) rfl ?_
  intro p e s m args below meth c s₁ B hml hv
  obtain ⟨rfl, hsz, hP, hK, hD0, hZ⟩ := hv
  have hx := B.exec
  have hb := B.bytes
  have hr := B.returns
  have hts := atoms_spec (ws := wk_c_X9_parseValley) B.pre
  have hown : s.vm.findClass RX9 = some m.cls := findClass_of_methodNamed B.named
  have hlocks := B.notSynchronized
  subst hsz
  have hD := hD0.self (sz := s.heap.size)
  generalize hAe : va_A (List.flatten [(wTape qT k (qB 0) vT tT aT), (wValley qB k vB bB cB wB aB eB)] ++ List.flatten ([] : List va_W)) s.heap.size = A at hD hZ ⊢
  have hA : ∀ q : Nat, s.heap.size ≤ q → A q := fun q h => by rw [← hAe]; exact Or.inr h
  have hS : va_S A s.heap s.heap [] := va_S.rf
  have hP : va_P (dC, dI) vwCl (List.flatten [(wTape qT k (qB 0) vT tT aT), (wValley qB k vB bB cB wB aB eB)] ++ List.flatten ([] : List va_W)) s.heap := hP
  have hl := lv_entry ([.ref (qT 0)]) (n := 1) (Nat.le_of_ble_eq_true rfl)
  rw [lg_entry_eq]
  generalize (lg_sl ([.ref (qT 0)]) ++ List.replicate (1 - (lg_sl ([.ref (qT 0)])).length) Slot.unset).toArray = ls at hl ⊢
  have hl : lv_has ls 1 [(0, .ref (qT 0))] := hl
  refine w_gen (fun Q hQ => ?_)
  refine lv_aload_n hx hb dX9_parseValley_0 rfl (lv_at hl 0 rfl) ?_
  refine va_ldcS (own := RX9) (index := 90) (tx := "law") (q := adK 1) hx hb hown (hZ.2.2.2 1 (by decide)) dX9_parseValley_1 ?_
  have hPc := hP.sub (ws' := (List.flatten [(wTape qT k (qB 0) vT tT aT)] ++ List.flatten ([] : List va_W))) [0, 1] rfl
  have hC : [0, 1].map (fun i => (List.flatten [(wTape qT k (qB 0) vT tT aT), (wValley qB k vB bB cB wB aB eB)] ++ List.flatten ([] : List va_W))[i]?) = (List.flatten [(wTape qT k (qB 0) vT tT aT)] ++ List.flatten ([] : List va_W)).map some := rfl
  have hDc := hD.sub [0, 1] (by decide) hC
  have hFc := va_free hD hS hA [0, 1] hC
  refine va_calli (va_runV (As := [.ref (adK 1)]) (rest := []) ⟨hx, hb, hml, hown, hts⟩ (c_X9_expect l dC dI k s.heap.size adK adV ln by9 qT (qB 0) vT tT aT 1 (by decide) htT) (cwV 1 hts (gk_V (wl_mem 0 rfl) (wl_mem 1 rfl) (wl_mem 2 rfl) (wl_mem 3 rfl) (fun w h => List.mem_cons_of_mem _ (List.mem_append_right _ (List.mem_append_left _ h))) wkg_c_X9_expect) rfl rfl rfl (by decide +kernel) ⟨Nat.le_of_ble_eq_true rfl, Nat.le_of_ble_eq_true rfl⟩) ⟨fun a U g mk q => by obtain ⟨q0, q1, qP, qK, qD, qZ⟩ := q; exact ⟨q0, q1, qP, va_K.moved (u := U) (U := U.calling g mk a) (Vm.Alike.refl U.vm) qK, qD, qZ.calling⟩, va_recv hK hPc (ci := 9) (q0 := 0) rfl rfl, fun U hU hW => ⟨rfl, by rw [hU], by rw [hU]; exact hPc, va_K.moved hW.alike hK, hDc.weaken (fun _ _ _ _ => trivial), hZ.pass hS hU hW hFc⟩⟩ rfl rfl hl.1 rfl (lv_room (Nat.le_of_ble_eq_true rfl)) dX9_parseValley_3 ⟨Nat.le_of_ble_eq_true rfl, Nat.le_of_ble_eq_true rfl⟩) hS (fun q _ h => hFc q h) hFc (fun rz2 u t H1 locs ht hvm gz1 hB hz1 hk1 hS => ?_)
  obtain ⟨vz3, tz4, az5, htz4, hP1⟩ := hB
  rw [ht] at hP1
  obtain ⟨hP, hD⟩ := w_callR hP hD hk1 hP1 [0] rfl rfl (fun _ h => absurd h List.not_mem_nil) rfl [some 0, none] rfl rfl
  clear hPc hC hDc hFc hk1 hP1
  generalize H1 = H at hP hS ⊢
  have hP : va_P (dC, dI) vwCl (List.flatten [(wTape qT k (qB 0) vz3 tz4 az5), (wValley qB k vB bB cB wB aB eB)] ++ List.flatten ([] : List va_W)) H := hP
  have hD : va_D A (List.flatten [(wTape qT k (qB 0) vz3 tz4 az5), (wValley qB k vB bB cB wB aB eB)] ++ List.flatten ([] : List va_W)) := hD
  refine W.widen (k := 0) (n := 0) (Nat.le_refl 0) (Nat.le_refl 0) ?_
  have pz6 := gz1
  have pz6 : rz2.toInt = 0 ∨ rz2.toInt = 1 := pz6
  refine lv_if_eq (tgt := 18) hx hb dX9_parseValley_6 (by decide) (fun cz7 => ?_) (fun cz7 => ?_)
  · skip
    have zz8 : rz2.toInt = (0 : Int) := zi_eq.mp cz7
    refine lv_iconst (v := 0) hx hb dX9_parseValley_18 (by decide) ?_
    rw [hQ]
    exact W.zret (v := (0 : Int32)) hx hb hr rfl (fun t ht hW => ⟨⟨(0 : Int32), (), rfl, (by show (0 : Int) = 0 ∨ (0 : Int) = 1; omega), vz3, tz4, az5, vB, bB, cB, wB, aB, eB, htz4, hbB, hcB, hwB, heB, by rw [ht]; exact hP⟩, hS.F ht⟩) hS.2.2 dX9_parseValley_19
  · skip
    have zz9 : ¬ rz2.toInt = (0 : Int) := fun h9 => cz7 (zi_eq.mpr h9)
    refine lv_aload_n hx hb dX9_parseValley_9 rfl (lv_at hl 0 rfl) ?_
    refine lv_iconst (v := 0) hx hb dX9_parseValley_10 (by decide) ?_
    refine lv_iconst (v := 3) hx hb dX9_parseValley_11 (by decide) ?_
    have hPc := hP.sub (ws' := (List.flatten [(wTape qT k (qB 0) vz3 tz4 az5)] ++ List.flatten ([] : List va_W))) [0, 1] rfl
    have hC : [0, 1].map (fun i => (List.flatten [(wTape qT k (qB 0) vz3 tz4 az5), (wValley qB k vB bB cB wB aB eB)] ++ List.flatten ([] : List va_W))[i]?) = (List.flatten [(wTape qT k (qB 0) vz3 tz4 az5)] ++ List.flatten ([] : List va_W)).map some := rfl
    have hDc := hD.sub [0, 1] (by decide) hC
    have hFc := va_free hD hS hA [0, 1] hC
    refine va_calli (va_runV (As := [.int 0, .int 3]) (rest := []) ⟨hx, hb, hml, hown, hts⟩ (c_X9_expectNumber l dC dI k H.size qT (qB 0) vz3 tz4 az5 (0 : Int32) (3 : Int32) htz4) (cwV 2 hts (gk_V (wl_mem 4 rfl) (wl_mem 5 rfl) (wl_mem 6 rfl) (wl_mem 3 rfl) (fun w h => List.mem_cons_of_mem _ (List.mem_append_right _ (List.mem_append_right _ (List.mem_append_left _ h)))) wkg_c_X9_expectNumber) rfl rfl rfl (by decide +kernel) ⟨Nat.le_of_ble_eq_true rfl, Nat.le_of_ble_eq_true rfl⟩) ⟨fun a U g mk q => by obtain ⟨q0, q1, qP, qK, qD⟩ := q; exact ⟨q0, q1, qP, va_K.moved (u := U) (U := U.calling g mk a) (Vm.Alike.refl U.vm) qK, qD⟩, va_recv hK hPc (ci := 9) (q0 := 0) rfl rfl, fun U hU hW => ⟨rfl, by rw [hU], by rw [hU]; exact hPc, va_K.moved hW.alike hK, hDc.weaken (fun _ _ _ _ => trivial)⟩⟩ rfl rfl hl.1 rfl (lv_room (Nat.le_of_ble_eq_true rfl)) dX9_parseValley_12 ⟨Nat.le_of_ble_eq_true rfl, Nat.le_of_ble_eq_true rfl⟩) hS (fun q _ h => hFc q h) hFc (fun rz11 u t H1 locs ht hvm gz10 hB hz1 hk1 hS => ?_)
    obtain rfl := gz10
    obtain ⟨vz12, tz13, az14, htz13, pz15, pz16, hP1⟩ := hB
    rw [ht] at hP1
    obtain ⟨hP, hD⟩ := w_callR hP hD hk1 hP1 [0] rfl rfl (fun _ h => absurd h List.not_mem_nil) rfl [some 0, none] rfl rfl
    clear hPc hC hDc hFc hk1 hP1
    generalize H1 = H at hP hS ⊢
    have hP : va_P (dC, dI) vwCl (List.flatten [(wTape qT k (qB 0) vz12 tz13 az14), (wValley qB k vB bB cB wB aB eB)] ++ List.flatten ([] : List va_W)) H := hP
    have hD : va_D A (List.flatten [(wTape qT k (qB 0) vz12 tz13 az14), (wValley qB k vB bB cB wB aB eB)] ++ List.flatten ([] : List va_W)) := hD
    refine W.widen (k := 0) (n := 0) (Nat.le_refl 0) (Nat.le_refl 0) ?_
    have pz15 : rz11.toInt = 0 ∨ ((0 : Int) ≤ (vz12 4).toInt ∧ (vz12 4).toInt ≤ (3 : Int)) := pz15
    have pz16 : rz11.toInt = 0 ∨ rz11.toInt = 1 := pz16
    refine lv_if_ne (tgt := 20) hx hb dX9_parseValley_15 (by decide) (fun cz17 => ?_) (fun cz17 => ?_)
    · skip
      have zz18 : ¬ rz11.toInt = (0 : Int) := fun h9 => cz17 (zi_eq.mpr h9)
      refine lv_aload_n hx hb dX9_parseValley_20 rfl (lv_at hl 0 rfl) ?_
      refine va_get (D := (dC, dI)) (ci := 9) (v := .ref (qB 0)) (C := RX9) (T := TX9) (N := 10) hx hb hts (fun w h => List.mem_cons_of_mem _ (List.mem_append_right _ (List.mem_append_right _ (List.mem_append_right _ (List.mem_append_left _ h))))) hown hK hP 0 rfl rfl 1 (by decide) (hts (.fieldLink RX9 18 "SagMemory$Tape" "read" "LSagMemory$Valley;") (wl_mem 7 rfl)) (fun _ h9 => h9) rfl dX9_parseValley_21 ?_
      refine lv_aload_n hx hb dX9_parseValley_24 rfl (lv_at hl 0 rfl) ?_
      refine va_get (D := (dC, dI)) (ci := 9) (v := .int (vz12 4)) (C := RX9) (T := TX9) (N := 10) hx hb hts (fun w h => List.mem_cons_of_mem _ (List.mem_append_right _ (List.mem_append_right _ (List.mem_append_right _ (List.mem_append_left _ h))))) hown hK hP 0 rfl rfl 9 (by decide) (hts (.fieldLink RX9 96 "SagMemory$Tape" "number" "I") (wl_mem 8 rfl)) (fun _ h9 => h9) rfl dX9_parseValley_25 ?_
      refine va_put (D := (dC, dI)) (ci := 10) (v := .int (vz12 4)) (ty := .int) (C := RX10) (T := TX10) (N := 16) hx hb hts (fun w h => List.mem_cons_of_mem _ (List.mem_append_right _ (List.mem_append_right _ (List.mem_append_right _ (List.mem_append_right _ (List.mem_append_left _ h)))))) tyX10 tyX10_ok nmX10 hown hK hP hD hS 2 rfl rfl 8 (by decide) (hts (.fieldLink RX9 99 "SagMemory$Valley" "law" "I") (wl_mem 9 rfl)) (fun _ h9 => h9) rfl (by decide +kernel) rfl rfl (Nat.le_of_ble_eq_true rfl) dX9_parseValley_28 (fun H locs hP hD hS => ?_)
      have hP : va_P (dC, dI) vwCl (List.flatten [(wTape qT k (qB 0) vz12 tz13 az14), (wValley qB k (va_up vB 1 (vz12 4)) bB cB wB aB eB)] ++ List.flatten ([] : List va_W)) H := hP
      have hD : va_D A (List.flatten [(wTape qT k (qB 0) vz12 tz13 az14), (wValley qB k (va_up vB 1 (vz12 4)) bB cB wB aB eB)] ++ List.flatten ([] : List va_W)) := hD
      refine lv_aload_n hx hb dX9_parseValley_31 rfl (lv_at hl 0 rfl) ?_
      refine va_ldcS (own := RX9) (index := 81) (tx := "frost") (q := adK 2) hx hb hown (hZ.2.2.2 2 (by decide)) dX9_parseValley_32 ?_
      have hPc := hP.sub (ws' := (List.flatten [(wTape qT k (qB 0) vz12 tz13 az14)] ++ List.flatten ([] : List va_W))) [0, 1] rfl
      have hC : [0, 1].map (fun i => (List.flatten [(wTape qT k (qB 0) vz12 tz13 az14), (wValley qB k (va_up vB 1 (vz12 4)) bB cB wB aB eB)] ++ List.flatten ([] : List va_W))[i]?) = (List.flatten [(wTape qT k (qB 0) vz12 tz13 az14)] ++ List.flatten ([] : List va_W)).map some := rfl
      have hDc := hD.sub [0, 1] (by decide) hC
      have hFc := va_free hD hS hA [0, 1] hC
      refine va_calli (va_runV (As := [.ref (adK 2)]) (rest := []) ⟨hx, hb, hml, hown, hts⟩ (c_X9_expect l dC dI k H.size adK adV ln by9 qT (qB 0) vz12 tz13 az14 2 (by decide) htz13) (cwV 1 hts (gk_V (wl_mem 0 rfl) (wl_mem 1 rfl) (wl_mem 2 rfl) (wl_mem 3 rfl) (fun w h => List.mem_cons_of_mem _ (List.mem_append_right _ (List.mem_append_left _ h))) wkg_c_X9_expect) rfl rfl rfl (by decide +kernel) ⟨Nat.le_of_ble_eq_true rfl, Nat.le_of_ble_eq_true rfl⟩) ⟨fun a U g mk q => by obtain ⟨q0, q1, qP, qK, qD, qZ⟩ := q; exact ⟨q0, q1, qP, va_K.moved (u := U) (U := U.calling g mk a) (Vm.Alike.refl U.vm) qK, qD, qZ.calling⟩, va_recv hK hPc (ci := 9) (q0 := 0) rfl rfl, fun U hU hW => ⟨rfl, by rw [hU], by rw [hU]; exact hPc, va_K.moved hW.alike hK, hDc.weaken (fun _ _ _ _ => trivial), hZ.pass hS hU hW hFc⟩⟩ rfl rfl hl.1 rfl (lv_room (Nat.le_of_ble_eq_true rfl)) dX9_parseValley_34 ⟨Nat.le_of_ble_eq_true rfl, Nat.le_of_ble_eq_true rfl⟩) hS (fun q _ h => hFc q h) hFc (fun rz20 u t H1 locs ht hvm gz19 hB hz1 hk1 hS => ?_)
      obtain ⟨vz21, tz22, az23, htz22, hP1⟩ := hB
      rw [ht] at hP1
      obtain ⟨hP, hD⟩ := w_callR hP hD hk1 hP1 [0] rfl rfl (fun _ h => absurd h List.not_mem_nil) rfl [some 0, none] rfl rfl
      clear hPc hC hDc hFc hk1 hP1
      generalize H1 = H at hP hS ⊢
      have hP : va_P (dC, dI) vwCl (List.flatten [(wTape qT k (qB 0) vz21 tz22 az23), (wValley qB k (va_up vB 1 (vz12 4)) bB cB wB aB eB)] ++ List.flatten ([] : List va_W)) H := hP
      have hD : va_D A (List.flatten [(wTape qT k (qB 0) vz21 tz22 az23), (wValley qB k (va_up vB 1 (vz12 4)) bB cB wB aB eB)] ++ List.flatten ([] : List va_W)) := hD
      refine W.widen (k := 0) (n := 0) (Nat.le_refl 0) (Nat.le_refl 0) ?_
      have pz24 := gz19
      have pz24 : rz20.toInt = 0 ∨ rz20.toInt = 1 := pz24
      refine lv_if_eq (tgt := 50) hx hb dX9_parseValley_37 (by decide) (fun cz25 => ?_) (fun cz25 => ?_)
      · skip
        have zz26 : rz20.toInt = (0 : Int) := zi_eq.mp cz25
        refine lv_iconst (v := 0) hx hb dX9_parseValley_50 (by decide) ?_
        rw [hQ]
        exact W.zret (v := (0 : Int32)) hx hb hr rfl (fun t ht hW => ⟨⟨(0 : Int32), (), rfl, (by show (0 : Int) = 0 ∨ (0 : Int) = 1; omega), vz21, tz22, az23, (va_up vB 1 (vz12 4)), bB, cB, wB, aB, eB, htz22, hbB, hcB, hwB, heB, by rw [ht]; exact hP⟩, hS.F ht⟩) hS.2.2 dX9_parseValley_51
      · skip
        have zz27 : ¬ rz20.toInt = (0 : Int) := fun h9 => cz25 (zi_eq.mpr h9)
        refine lv_aload_n hx hb dX9_parseValley_40 rfl (lv_at hl 0 rfl) ?_
        refine lv_iconst (v := 1) hx hb dX9_parseValley_41 (by decide) ?_
        refine lv_bipush (v := 50) hx hb dX9_parseValley_42 (by decide) ?_
        have hPc := hP.sub (ws' := (List.flatten [(wTape qT k (qB 0) vz21 tz22 az23)] ++ List.flatten ([] : List va_W))) [0, 1] rfl
        have hC : [0, 1].map (fun i => (List.flatten [(wTape qT k (qB 0) vz21 tz22 az23), (wValley qB k (va_up vB 1 (vz12 4)) bB cB wB aB eB)] ++ List.flatten ([] : List va_W))[i]?) = (List.flatten [(wTape qT k (qB 0) vz21 tz22 az23)] ++ List.flatten ([] : List va_W)).map some := rfl
        have hDc := hD.sub [0, 1] (by decide) hC
        have hFc := va_free hD hS hA [0, 1] hC
        refine va_calli (va_runV (As := [.int 1, .int 50]) (rest := []) ⟨hx, hb, hml, hown, hts⟩ (c_X9_expectNumber l dC dI k H.size qT (qB 0) vz21 tz22 az23 (1 : Int32) (50 : Int32) htz22) (cwV 2 hts (gk_V (wl_mem 4 rfl) (wl_mem 5 rfl) (wl_mem 6 rfl) (wl_mem 3 rfl) (fun w h => List.mem_cons_of_mem _ (List.mem_append_right _ (List.mem_append_right _ (List.mem_append_left _ h)))) wkg_c_X9_expectNumber) rfl rfl rfl (by decide +kernel) ⟨Nat.le_of_ble_eq_true rfl, Nat.le_of_ble_eq_true rfl⟩) ⟨fun a U g mk q => by obtain ⟨q0, q1, qP, qK, qD⟩ := q; exact ⟨q0, q1, qP, va_K.moved (u := U) (U := U.calling g mk a) (Vm.Alike.refl U.vm) qK, qD⟩, va_recv hK hPc (ci := 9) (q0 := 0) rfl rfl, fun U hU hW => ⟨rfl, by rw [hU], by rw [hU]; exact hPc, va_K.moved hW.alike hK, hDc.weaken (fun _ _ _ _ => trivial)⟩⟩ rfl rfl hl.1 rfl (lv_room (Nat.le_of_ble_eq_true rfl)) dX9_parseValley_44 ⟨Nat.le_of_ble_eq_true rfl, Nat.le_of_ble_eq_true rfl⟩) hS (fun q _ h => hFc q h) hFc (fun rz29 u t H1 locs ht hvm gz28 hB hz1 hk1 hS => ?_)
        obtain rfl := gz28
        obtain ⟨vz30, tz31, az32, htz31, pz33, pz34, hP1⟩ := hB
        rw [ht] at hP1
        obtain ⟨hP, hD⟩ := w_callR hP hD hk1 hP1 [0] rfl rfl (fun _ h => absurd h List.not_mem_nil) rfl [some 0, none] rfl rfl
        clear hPc hC hDc hFc hk1 hP1
        generalize H1 = H at hP hS ⊢
        have hP : va_P (dC, dI) vwCl (List.flatten [(wTape qT k (qB 0) vz30 tz31 az32), (wValley qB k (va_up vB 1 (vz12 4)) bB cB wB aB eB)] ++ List.flatten ([] : List va_W)) H := hP
        have hD : va_D A (List.flatten [(wTape qT k (qB 0) vz30 tz31 az32), (wValley qB k (va_up vB 1 (vz12 4)) bB cB wB aB eB)] ++ List.flatten ([] : List va_W)) := hD
        refine W.widen (k := 0) (n := 0) (Nat.le_refl 0) (Nat.le_refl 0) ?_
        have pz33 : rz29.toInt = 0 ∨ ((1 : Int) ≤ (vz30 4).toInt ∧ (vz30 4).toInt ≤ (50 : Int)) := pz33
        have pz34 : rz29.toInt = 0 ∨ rz29.toInt = 1 := pz34
        refine lv_if_ne (tgt := 52) hx hb dX9_parseValley_47 (by decide) (fun cz35 => ?_) (fun cz35 => ?_)
        · skip
          have zz36 : ¬ rz29.toInt = (0 : Int) := fun h9 => cz35 (zi_eq.mpr h9)
          refine lv_aload_n hx hb dX9_parseValley_52 rfl (lv_at hl 0 rfl) ?_
          refine va_get (D := (dC, dI)) (ci := 9) (v := .ref (qB 0)) (C := RX9) (T := TX9) (N := 10) hx hb hts (fun w h => List.mem_cons_of_mem _ (List.mem_append_right _ (List.mem_append_right _ (List.mem_append_right _ (List.mem_append_left _ h))))) hown hK hP 0 rfl rfl 1 (by decide) (hts (.fieldLink RX9 18 "SagMemory$Tape" "read" "LSagMemory$Valley;") (wl_mem 7 rfl)) (fun _ h9 => h9) rfl dX9_parseValley_53 ?_
          refine lv_aload_n hx hb dX9_parseValley_56 rfl (lv_at hl 0 rfl) ?_
          refine va_get (D := (dC, dI)) (ci := 9) (v := .int (vz30 4)) (C := RX9) (T := TX9) (N := 10) hx hb hts (fun w h => List.mem_cons_of_mem _ (List.mem_append_right _ (List.mem_append_right _ (List.mem_append_right _ (List.mem_append_left _ h))))) hown hK hP 0 rfl rfl 9 (by decide) (hts (.fieldLink RX9 96 "SagMemory$Tape" "number" "I") (wl_mem 8 rfl)) (fun _ h9 => h9) rfl dX9_parseValley_57 ?_
          refine va_put (D := (dC, dI)) (ci := 10) (v := .int (vz30 4)) (ty := .int) (C := RX10) (T := TX10) (N := 16) hx hb hts (fun w h => List.mem_cons_of_mem _ (List.mem_append_right _ (List.mem_append_right _ (List.mem_append_right _ (List.mem_append_right _ (List.mem_append_left _ h)))))) tyX10 tyX10_ok nmX10 hown hK hP hD hS 2 rfl rfl 9 (by decide) (hts (.fieldLink RX9 101 "SagMemory$Valley" "frost" "I") (wl_mem 10 rfl)) (fun _ h9 => h9) rfl (by decide +kernel) rfl rfl (Nat.le_of_ble_eq_true rfl) dX9_parseValley_60 (fun H locs hP hD hS => ?_)
          have hP : va_P (dC, dI) vwCl (List.flatten [(wTape qT k (qB 0) vz30 tz31 az32), (wValley qB k (va_up (va_up vB 1 (vz12 4)) 2 (vz30 4)) bB cB wB aB eB)] ++ List.flatten ([] : List va_W)) H := hP
          have hD : va_D A (List.flatten [(wTape qT k (qB 0) vz30 tz31 az32), (wValley qB k (va_up (va_up vB 1 (vz12 4)) 2 (vz30 4)) bB cB wB aB eB)] ++ List.flatten ([] : List va_W)) := hD
          refine lv_aload_n hx hb dX9_parseValley_63 rfl (lv_at hl 0 rfl) ?_
          refine va_ldcS (own := RX9) (index := 103) (tx := "odds") (q := adK 3) hx hb hown (hZ.2.2.2 3 (by decide)) dX9_parseValley_64 ?_
          have hPc := hP.sub (ws' := (List.flatten [(wTape qT k (qB 0) vz30 tz31 az32)] ++ List.flatten ([] : List va_W))) [0, 1] rfl
          have hC : [0, 1].map (fun i => (List.flatten [(wTape qT k (qB 0) vz30 tz31 az32), (wValley qB k (va_up (va_up vB 1 (vz12 4)) 2 (vz30 4)) bB cB wB aB eB)] ++ List.flatten ([] : List va_W))[i]?) = (List.flatten [(wTape qT k (qB 0) vz30 tz31 az32)] ++ List.flatten ([] : List va_W)).map some := rfl
          have hDc := hD.sub [0, 1] (by decide) hC
          have hFc := va_free hD hS hA [0, 1] hC
          refine va_calli (va_runV (As := [.ref (adK 3)]) (rest := []) ⟨hx, hb, hml, hown, hts⟩ (c_X9_expect l dC dI k H.size adK adV ln by9 qT (qB 0) vz30 tz31 az32 3 (by decide) htz31) (cwV 1 hts (gk_V (wl_mem 0 rfl) (wl_mem 1 rfl) (wl_mem 2 rfl) (wl_mem 3 rfl) (fun w h => List.mem_cons_of_mem _ (List.mem_append_right _ (List.mem_append_left _ h))) wkg_c_X9_expect) rfl rfl rfl (by decide +kernel) ⟨Nat.le_of_ble_eq_true rfl, Nat.le_of_ble_eq_true rfl⟩) ⟨fun a U g mk q => by obtain ⟨q0, q1, qP, qK, qD, qZ⟩ := q; exact ⟨q0, q1, qP, va_K.moved (u := U) (U := U.calling g mk a) (Vm.Alike.refl U.vm) qK, qD, qZ.calling⟩, va_recv hK hPc (ci := 9) (q0 := 0) rfl rfl, fun U hU hW => ⟨rfl, by rw [hU], by rw [hU]; exact hPc, va_K.moved hW.alike hK, hDc.weaken (fun _ _ _ _ => trivial), hZ.pass hS hU hW hFc⟩⟩ rfl rfl hl.1 rfl (lv_room (Nat.le_of_ble_eq_true rfl)) dX9_parseValley_66 ⟨Nat.le_of_ble_eq_true rfl, Nat.le_of_ble_eq_true rfl⟩) hS (fun q _ h => hFc q h) hFc (fun rz38 u t H1 locs ht hvm gz37 hB hz1 hk1 hS => ?_)
          obtain ⟨vz39, tz40, az41, htz40, hP1⟩ := hB
          rw [ht] at hP1
          obtain ⟨hP, hD⟩ := w_callR hP hD hk1 hP1 [0] rfl rfl (fun _ h => absurd h List.not_mem_nil) rfl [some 0, none] rfl rfl
          clear hPc hC hDc hFc hk1 hP1
          generalize H1 = H at hP hS ⊢
          have hP : va_P (dC, dI) vwCl (List.flatten [(wTape qT k (qB 0) vz39 tz40 az41), (wValley qB k (va_up (va_up vB 1 (vz12 4)) 2 (vz30 4)) bB cB wB aB eB)] ++ List.flatten ([] : List va_W)) H := hP
          have hD : va_D A (List.flatten [(wTape qT k (qB 0) vz39 tz40 az41), (wValley qB k (va_up (va_up vB 1 (vz12 4)) 2 (vz30 4)) bB cB wB aB eB)] ++ List.flatten ([] : List va_W)) := hD
          refine W.widen (k := 0) (n := 0) (Nat.le_refl 0) (Nat.le_refl 0) ?_
          have pz42 := gz37
          have pz42 : rz38.toInt = 0 ∨ rz38.toInt = 1 := pz42
          refine lv_if_eq (tgt := 82) hx hb dX9_parseValley_69 (by decide) (fun cz43 => ?_) (fun cz43 => ?_)
          · skip
            have zz44 : rz38.toInt = (0 : Int) := zi_eq.mp cz43
            refine lv_iconst (v := 0) hx hb dX9_parseValley_82 (by decide) ?_
            rw [hQ]
            exact W.zret (v := (0 : Int32)) hx hb hr rfl (fun t ht hW => ⟨⟨(0 : Int32), (), rfl, (by show (0 : Int) = 0 ∨ (0 : Int) = 1; omega), vz39, tz40, az41, (va_up (va_up vB 1 (vz12 4)) 2 (vz30 4)), bB, cB, wB, aB, eB, htz40, hbB, hcB, hwB, heB, by rw [ht]; exact hP⟩, hS.F ht⟩) hS.2.2 dX9_parseValley_83
          · skip
            have zz45 : ¬ rz38.toInt = (0 : Int) := fun h9 => cz43 (zi_eq.mpr h9)
            refine lv_aload_n hx hb dX9_parseValley_72 rfl (lv_at hl 0 rfl) ?_
            refine lv_iconst (v := 0) hx hb dX9_parseValley_73 (by decide) ?_
            refine lv_bipush (v := 10) hx hb dX9_parseValley_74 (by decide) ?_
            have hPc := hP.sub (ws' := (List.flatten [(wTape qT k (qB 0) vz39 tz40 az41)] ++ List.flatten ([] : List va_W))) [0, 1] rfl
            have hC : [0, 1].map (fun i => (List.flatten [(wTape qT k (qB 0) vz39 tz40 az41), (wValley qB k (va_up (va_up vB 1 (vz12 4)) 2 (vz30 4)) bB cB wB aB eB)] ++ List.flatten ([] : List va_W))[i]?) = (List.flatten [(wTape qT k (qB 0) vz39 tz40 az41)] ++ List.flatten ([] : List va_W)).map some := rfl
            have hDc := hD.sub [0, 1] (by decide) hC
            have hFc := va_free hD hS hA [0, 1] hC
            refine va_calli (va_runV (As := [.int 0, .int 10]) (rest := []) ⟨hx, hb, hml, hown, hts⟩ (c_X9_expectNumber l dC dI k H.size qT (qB 0) vz39 tz40 az41 (0 : Int32) (10 : Int32) htz40) (cwV 2 hts (gk_V (wl_mem 4 rfl) (wl_mem 5 rfl) (wl_mem 6 rfl) (wl_mem 3 rfl) (fun w h => List.mem_cons_of_mem _ (List.mem_append_right _ (List.mem_append_right _ (List.mem_append_left _ h)))) wkg_c_X9_expectNumber) rfl rfl rfl (by decide +kernel) ⟨Nat.le_of_ble_eq_true rfl, Nat.le_of_ble_eq_true rfl⟩) ⟨fun a U g mk q => by obtain ⟨q0, q1, qP, qK, qD⟩ := q; exact ⟨q0, q1, qP, va_K.moved (u := U) (U := U.calling g mk a) (Vm.Alike.refl U.vm) qK, qD⟩, va_recv hK hPc (ci := 9) (q0 := 0) rfl rfl, fun U hU hW => ⟨rfl, by rw [hU], by rw [hU]; exact hPc, va_K.moved hW.alike hK, hDc.weaken (fun _ _ _ _ => trivial)⟩⟩ rfl rfl hl.1 rfl (lv_room (Nat.le_of_ble_eq_true rfl)) dX9_parseValley_76 ⟨Nat.le_of_ble_eq_true rfl, Nat.le_of_ble_eq_true rfl⟩) hS (fun q _ h => hFc q h) hFc (fun rz47 u t H1 locs ht hvm gz46 hB hz1 hk1 hS => ?_)
            obtain rfl := gz46
            obtain ⟨vz48, tz49, az50, htz49, pz51, pz52, hP1⟩ := hB
            rw [ht] at hP1
            obtain ⟨hP, hD⟩ := w_callR hP hD hk1 hP1 [0] rfl rfl (fun _ h => absurd h List.not_mem_nil) rfl [some 0, none] rfl rfl
            clear hPc hC hDc hFc hk1 hP1
            generalize H1 = H at hP hS ⊢
            have hP : va_P (dC, dI) vwCl (List.flatten [(wTape qT k (qB 0) vz48 tz49 az50), (wValley qB k (va_up (va_up vB 1 (vz12 4)) 2 (vz30 4)) bB cB wB aB eB)] ++ List.flatten ([] : List va_W)) H := hP
            have hD : va_D A (List.flatten [(wTape qT k (qB 0) vz48 tz49 az50), (wValley qB k (va_up (va_up vB 1 (vz12 4)) 2 (vz30 4)) bB cB wB aB eB)] ++ List.flatten ([] : List va_W)) := hD
            refine W.widen (k := 0) (n := 0) (Nat.le_refl 0) (Nat.le_refl 0) ?_
            have pz51 : rz47.toInt = 0 ∨ ((0 : Int) ≤ (vz48 4).toInt ∧ (vz48 4).toInt ≤ (10 : Int)) := pz51
            have pz52 : rz47.toInt = 0 ∨ rz47.toInt = 1 := pz52
            refine lv_if_ne (tgt := 84) hx hb dX9_parseValley_79 (by decide) (fun cz53 => ?_) (fun cz53 => ?_)
            · skip
              have zz54 : ¬ rz47.toInt = (0 : Int) := fun h9 => cz53 (zi_eq.mpr h9)
              refine lv_aload_n hx hb dX9_parseValley_84 rfl (lv_at hl 0 rfl) ?_
              refine va_get (D := (dC, dI)) (ci := 9) (v := .ref (qB 0)) (C := RX9) (T := TX9) (N := 10) hx hb hts (fun w h => List.mem_cons_of_mem _ (List.mem_append_right _ (List.mem_append_right _ (List.mem_append_right _ (List.mem_append_left _ h))))) hown hK hP 0 rfl rfl 1 (by decide) (hts (.fieldLink RX9 18 "SagMemory$Tape" "read" "LSagMemory$Valley;") (wl_mem 7 rfl)) (fun _ h9 => h9) rfl dX9_parseValley_85 ?_
              refine lv_aload_n hx hb dX9_parseValley_88 rfl (lv_at hl 0 rfl) ?_
              refine va_get (D := (dC, dI)) (ci := 9) (v := .int (vz48 4)) (C := RX9) (T := TX9) (N := 10) hx hb hts (fun w h => List.mem_cons_of_mem _ (List.mem_append_right _ (List.mem_append_right _ (List.mem_append_right _ (List.mem_append_left _ h))))) hown hK hP 0 rfl rfl 9 (by decide) (hts (.fieldLink RX9 96 "SagMemory$Tape" "number" "I") (wl_mem 8 rfl)) (fun _ h9 => h9) rfl dX9_parseValley_89 ?_
              refine va_put (D := (dC, dI)) (ci := 10) (v := .int (vz48 4)) (ty := .int) (C := RX10) (T := TX10) (N := 16) hx hb hts (fun w h => List.mem_cons_of_mem _ (List.mem_append_right _ (List.mem_append_right _ (List.mem_append_right _ (List.mem_append_right _ (List.mem_append_left _ h)))))) tyX10 tyX10_ok nmX10 hown hK hP hD hS 2 rfl rfl 10 (by decide) (hts (.fieldLink RX9 105 "SagMemory$Valley" "odds" "I") (wl_mem 11 rfl)) (fun _ h9 => h9) rfl (by decide +kernel) rfl rfl (Nat.le_of_ble_eq_true rfl) dX9_parseValley_92 (fun H locs hP hD hS => ?_)
              have hP : va_P (dC, dI) vwCl (List.flatten [(wTape qT k (qB 0) vz48 tz49 az50), (wValley qB k (va_up (va_up (va_up vB 1 (vz12 4)) 2 (vz30 4)) 3 (vz48 4)) bB cB wB aB eB)] ++ List.flatten ([] : List va_W)) H := hP
              have hD : va_D A (List.flatten [(wTape qT k (qB 0) vz48 tz49 az50), (wValley qB k (va_up (va_up (va_up vB 1 (vz12 4)) 2 (vz30 4)) 3 (vz48 4)) bB cB wB aB eB)] ++ List.flatten ([] : List va_W)) := hD
              refine lv_iconst (v := 1) hx hb dX9_parseValley_95 (by decide) ?_
              rw [hQ]
              exact W.zret (v := (1 : Int32)) hx hb hr rfl (fun t ht hW => ⟨⟨(1 : Int32), (), rfl, (by show (1 : Int) = 0 ∨ (1 : Int) = 1; omega), vz48, tz49, az50, (va_up (va_up (va_up vB 1 (vz12 4)) 2 (vz30 4)) 3 (vz48 4)), bB, cB, wB, aB, eB, htz49, hbB, hcB, hwB, heB, by rw [ht]; exact hP⟩, hS.F ht⟩) hS.2.2 dX9_parseValley_96
            · skip
              have zz55 : rz47.toInt = (0 : Int) := zi_eq.mp cz53
              refine lv_iconst (v := 0) hx hb dX9_parseValley_82 (by decide) ?_
              rw [hQ]
              exact W.zret (v := (0 : Int32)) hx hb hr rfl (fun t ht hW => ⟨⟨(0 : Int32), (), rfl, (by show (0 : Int) = 0 ∨ (0 : Int) = 1; omega), vz48, tz49, az50, (va_up (va_up vB 1 (vz12 4)) 2 (vz30 4)), bB, cB, wB, aB, eB, htz49, hbB, hcB, hwB, heB, by rw [ht]; exact hP⟩, hS.F ht⟩) hS.2.2 dX9_parseValley_83
        · skip
          have zz56 : rz29.toInt = (0 : Int) := zi_eq.mp cz35
          refine lv_iconst (v := 0) hx hb dX9_parseValley_50 (by decide) ?_
          rw [hQ]
          exact W.zret (v := (0 : Int32)) hx hb hr rfl (fun t ht hW => ⟨⟨(0 : Int32), (), rfl, (by show (0 : Int) = 0 ∨ (0 : Int) = 1; omega), vz30, tz31, az32, (va_up vB 1 (vz12 4)), bB, cB, wB, aB, eB, htz31, hbB, hcB, hwB, heB, by rw [ht]; exact hP⟩, hS.F ht⟩) hS.2.2 dX9_parseValley_51
    · skip
      have zz57 : rz11.toInt = (0 : Int) := zi_eq.mp cz17
      refine lv_iconst (v := 0) hx hb dX9_parseValley_18 (by decide) ?_
      rw [hQ]
      exact W.zret (v := (0 : Int32)) hx hb hr rfl (fun t ht hW => ⟨⟨(0 : Int32), (), rfl, (by show (0 : Int) = 0 ∨ (0 : Int) = 1; omega), vz12, tz13, az14, vB, bB, cB, wB, aB, eB, htz13, hbB, hcB, hwB, heB, by rw [ht]; exact hP⟩, hS.F ht⟩) hS.2.2 dX9_parseValley_19
def wk_c_X9_parseBridge : List Cond := .code yX9_parseBridge cX9_parseBridge 2 (some .boolean) :: ([.fieldLink RX9 18 "SagMemory$Tape" "read" "LSagMemory$Valley;", .fieldLink RX9 107 "SagMemory$Valley" "bridges" "I", .methodLink RX9 38 yX9_next, .instanceMethod yX9_next, .selects RX9 yX9_next yX9_next, .initialized RX9, .methodLink RX9 53 yX9_expect, .instanceMethod yX9_expect, .selects RX9 yX9_expect yX9_expect, .methodLink RX9 92 yX9_expectNumber, .instanceMethod yX9_expectNumber, .selects RX9 yX9_expectNumber yX9_expectNumber, .fieldLink RX9 112 "SagMemory$Valley" "holds" "[I", .fieldLink RX9 96 "SagMemory$Tape" "number" "I", .fieldLink RX9 116 "SagMemory$Valley" "tolls" "[I", .methodLink RX9 86 yX9_fail, .instanceMethod yX9_fail, .selects RX9 yX9_fail yX9_fail] ++ (wsX90 ++ (wsX100 ++ (wk_c_X9_next ++ (wk_c_X9_expect ++ (wk_c_X9_expectNumber ++ (wk_c_X9_fail ++ [])))))))
theorem wkg_c_X9_parseBridge : wk_c_X9_parseBridge.all goodWord = true := by decide +kernel
set_option maxHeartbeats 4000000 in
set_option maxRecDepth 100000 in
theorem c_X9_parseBridge (l : Launch) (dC : Nat → ClassId) (dI : Nat → Nat → Nat) (k : Nat → ClassId) (sz : Nat) (adK adV ln : Nat → Nat) (by9 : Nat → Nat → Int32) (qT : Nat → Nat) (vT : Nat → Int32) (tT : Nat → Int32) (aT : Nat → Nat → Int32) (qB : Nat → Nat) (vB : Nat → Int32) (bB : Nat → Int32) (cB : Nat → Int32) (wB : Nat → Int32) (aB : Nat → Nat → Int32) (eB : Nat → Nat → Int32) (htT : Rg 0 700 tT) (hbB : Rg 0 3 bB) (hcB : Rg 0 7 cB) (hwB : Rg 0 5 wB) (heB : RgA 0 99 eB) : Met l yX9_parseBridge wk_c_X9_parseBridge ({ frames := 6, cells := 0, slots := 0, locals := 128 }) (va_Pc [.ref (qT 0)] (fun U => U.heap.size = sz ∧ va_P (dC, dI) vwCl (List.flatten [(wTape qT k (qB 0) vT tT aT), (wValley qB k vB bB cB wB aB eB)] ++ List.flatten ([] : List va_W)) U.heap ∧ va_K (dC, dI) vwCl (tK k) U ∧ va_D (fun _ => True) (List.flatten [(wTape qT k (qB 0) vT tT aT), (wValley qB k vB bB cB wB aB eB)] ++ List.flatten ([] : List va_W)) ∧ Zt adK adV ln by9 (va_A (List.flatten [(wTape qT k (qB 0) vT tT aT), (wValley qB k vB bB cB wB aB eB)] ++ List.flatten ([] : List va_W)) sz) U U.heap)) (va_Qi (fun (r : Int32) (_ : Unit) => (r.toInt = 0 ∨ r.toInt = 1)) (fun (_ : Unit) (t : State) => ∃ (vT' : Nat → Int32) (tT' : Nat → Int32) (aT' : Nat → Nat → Int32) (vB' : Nat → Int32) (bB' : Nat → Int32) (cB' : Nat → Int32) (wB' : Nat → Int32) (aB' : Nat → Nat → Int32) (eB' : Nat → Nat → Int32), Rg 0 700 tT' ∧ Rg 0 3 bB' ∧ Rg 0 7 cB' ∧ Rg 0 5 wB' ∧ RgA 0 99 eB' ∧ va_P (dC, dI) vwCl (List.flatten [(wTape qT k (qB 0) vT' tT' aT'), (wValley qB k vB' bB' cB' wB' aB' eB')] ++ List.flatten ([] : List va_W)) t.heap) (va_A (List.flatten [(wTape qT k (qB 0) vT tT aT), (wValley qB k vB bB cB wB aB eB)] ++ List.flatten ([] : List va_W)) sz)) 0 0 (va_A (List.flatten [(wTape qT k (qB 0) vT tT aT), (wValley qB k vB bB cB wB aB eB)] ++ List.flatten ([] : List va_W)) sz) := by
  refine Met.ofW (cc := cX9_parseBridge) (maxL := 2) (ret := (some .boolean)) (by decide) rfl ?_
  intro p e s m args below meth c s₁ B hml hv
  obtain ⟨rfl, hsz, hP, hK, hD0, hZ⟩ := hv
  have hx := B.exec
  have hb := B.bytes
  have hr := B.returns
  have hts := atoms_spec (ws := wk_c_X9_parseBridge) B.pre
  have hown : s.vm.findClass RX9 = some m.cls := findClass_of_methodNamed B.named
  have hlocks := B.notSynchronized
  subst hsz
  have hD := hD0.self (sz := s.heap.size)
  generalize hAe : va_A (List.flatten [(wTape qT k (qB 0) vT tT aT), (wValley qB k vB bB cB wB aB eB)] ++ List.flatten ([] : List va_W)) s.heap.size = A at hD hZ ⊢
  have hA : ∀ q : Nat, s.heap.size ≤ q → A q := fun q h => by rw [← hAe]; exact Or.inr h
  have hS : va_S A s.heap s.heap [] := va_S.rf
  have hP : va_P (dC, dI) vwCl (List.flatten [(wTape qT k (qB 0) vT tT aT), (wValley qB k vB bB cB wB aB eB)] ++ List.flatten ([] : List va_W)) s.heap := hP
  have hl := lv_entry ([.ref (qT 0)]) (n := 2) (Nat.le_of_ble_eq_true rfl)
  rw [lg_entry_eq]
  generalize (lg_sl ([.ref (qT 0)]) ++ List.replicate (2 - (lg_sl ([.ref (qT 0)])).length) Slot.unset).toArray = ls at hl ⊢
  have hl : lv_has ls 2 [(0, .ref (qT 0))] := hl
  refine w_gen (fun Q hQ => ?_)
  refine lv_aload_n hx hb dX9_parseBridge_0 rfl (lv_at hl 0 rfl) ?_
  refine va_get (D := (dC, dI)) (ci := 9) (v := .ref (qB 0)) (C := RX9) (T := TX9) (N := 10) hx hb hts (fun w h => List.mem_cons_of_mem _ (List.mem_append_right _ (List.mem_append_left _ h))) hown hK hP 0 rfl rfl 1 (by decide) (hts (.fieldLink RX9 18 "SagMemory$Tape" "read" "LSagMemory$Valley;") (wl_mem 0 rfl)) (fun _ h9 => h9) rfl dX9_parseBridge_1 ?_
  refine va_get (D := (dC, dI)) (ci := 10) (v := .int (bB 0)) (C := RX10) (T := TX10) (N := 16) hx hb hts (fun w h => List.mem_cons_of_mem _ (List.mem_append_right _ (List.mem_append_right _ (List.mem_append_left _ h)))) hown hK hP 2 rfl rfl 11 (by decide) (hts (.fieldLink RX9 107 "SagMemory$Valley" "bridges" "I") (wl_mem 1 rfl)) (fun _ h9 => h9) rfl dX9_parseBridge_4 ?_
  have bz1 := hbB 0
  refine lv_istore_n (lv' := [(1, .int (bB 0)), (0, .ref (qT 0))]) hx hb dX9_parseBridge_7 rfl hl (by decide) rfl (fun ls hl => ?_)
  refine lv_iload_n hx hb dX9_parseBridge_8 rfl (lv_at hl 0 rfl) ?_
  refine lv_iconst (v := 3) hx hb dX9_parseBridge_9 (by decide) ?_
  refine lv_icmp_lt (tgt := 19) hx hb dX9_parseBridge_10 (by decide) (fun cz2 => ?_) (fun cz2 => ?_)
  · skip
    have zz3 : (bB 0).toInt < (3 : Int) := zi_lt.mp cz2
    refine lv_aload_n hx hb dX9_parseBridge_19 rfl (lv_at hl 1 rfl) ?_
    have hPc := hP.sub (ws' := (List.flatten [(wTape qT k (qB 0) vT tT aT)] ++ List.flatten ([] : List va_W))) [0, 1] rfl
    have hC : [0, 1].map (fun i => (List.flatten [(wTape qT k (qB 0) vT tT aT), (wValley qB k vB bB cB wB aB eB)] ++ List.flatten ([] : List va_W))[i]?) = (List.flatten [(wTape qT k (qB 0) vT tT aT)] ++ List.flatten ([] : List va_W)).map some := rfl
    have hDc := hD.sub [0, 1] (by decide) hC
    have hFc := va_free hD hS hA [0, 1] hC
    refine va_callv (va_runV (As := []) (rest := []) ⟨hx, hb, hml, hown, hts⟩ (c_X9_next l dC dI k s.heap.size qT (qB 0) vT tT aT htT) (cwV 0 hts (gk_V (wl_mem 2 rfl) (wl_mem 3 rfl) (wl_mem 4 rfl) (wl_mem 5 rfl) (fun w h => List.mem_cons_of_mem _ (List.mem_append_right _ (List.mem_append_right _ (List.mem_append_right _ (List.mem_append_left _ h))))) wkg_c_X9_next) rfl rfl rfl (by decide +kernel) ⟨Nat.le_of_ble_eq_true rfl, Nat.le_of_ble_eq_true rfl⟩) ⟨fun a U g mk q => by obtain ⟨q0, q1, qP, qK, qD⟩ := q; exact ⟨q0, q1, qP, va_K.moved (u := U) (U := U.calling g mk a) (Vm.Alike.refl U.vm) qK, qD⟩, va_recv hK hPc (ci := 9) (q0 := 0) rfl rfl, fun U hU hW => ⟨rfl, by rw [hU], by rw [hU]; exact hPc, va_K.moved hW.alike hK, hDc.weaken (fun _ _ _ _ => trivial)⟩⟩ rfl rfl hl.1 rfl (lv_room (Nat.le_of_ble_eq_true rfl)) dX9_parseBridge_20 ⟨Nat.le_of_ble_eq_true rfl, Nat.le_of_ble_eq_true rfl⟩) hS (fun q _ h => hFc q h) hFc (fun u t H1 locs ht hvm gz4 hB hz1 hk1 hS => ?_)
    obtain ⟨vz6, tz7, az8, htz7, pz9, hP1⟩ := hB
    rw [ht] at hP1
    obtain ⟨hP, hD⟩ := w_callR hP hD hk1 hP1 [0] rfl rfl (fun _ h => absurd h List.not_mem_nil) rfl [some 0, none] rfl rfl
    clear hPc hC hDc hFc hk1 hP1
    generalize H1 = H at hP hS ⊢
    have hP : va_P (dC, dI) vwCl (List.flatten [(wTape qT k (qB 0) vz6 tz7 az8), (wValley qB k vB bB cB wB aB eB)] ++ List.flatten ([] : List va_W)) H := hP
    have hD : va_D A (List.flatten [(wTape qT k (qB 0) vz6 tz7 az8), (wValley qB k vB bB cB wB aB eB)] ++ List.flatten ([] : List va_W)) := hD
    refine W.widen (k := 0) (n := 0) (Nat.le_refl 0) (Nat.le_refl 0) ?_
    have pz9 : (vz6 4).toInt = (vT 4).toInt := pz9
    refine lv_aload_n hx hb dX9_parseBridge_23 rfl (lv_at hl 1 rfl) ?_
    refine va_ldcS (own := RX9) (index := 110) (tx := "holds") (q := adK 5) hx hb hown (hZ.2.2.2 5 (by decide)) dX9_parseBridge_24 ?_
    have hPc := hP.sub (ws' := (List.flatten [(wTape qT k (qB 0) vz6 tz7 az8)] ++ List.flatten ([] : List va_W))) [0, 1] rfl
    have hC : [0, 1].map (fun i => (List.flatten [(wTape qT k (qB 0) vz6 tz7 az8), (wValley qB k vB bB cB wB aB eB)] ++ List.flatten ([] : List va_W))[i]?) = (List.flatten [(wTape qT k (qB 0) vz6 tz7 az8)] ++ List.flatten ([] : List va_W)).map some := rfl
    have hDc := hD.sub [0, 1] (by decide) hC
    have hFc := va_free hD hS hA [0, 1] hC
    refine va_calli (va_runV (As := [.ref (adK 5)]) (rest := []) ⟨hx, hb, hml, hown, hts⟩ (c_X9_expect l dC dI k H.size adK adV ln by9 qT (qB 0) vz6 tz7 az8 5 (by decide) htz7) (cwV 1 hts (gk_V (wl_mem 6 rfl) (wl_mem 7 rfl) (wl_mem 8 rfl) (wl_mem 5 rfl) (fun w h => List.mem_cons_of_mem _ (List.mem_append_right _ (List.mem_append_right _ (List.mem_append_right _ (List.mem_append_right _ (List.mem_append_left _ h)))))) wkg_c_X9_expect) rfl rfl rfl (by decide +kernel) ⟨Nat.le_of_ble_eq_true rfl, Nat.le_of_ble_eq_true rfl⟩) ⟨fun a U g mk q => by obtain ⟨q0, q1, qP, qK, qD, qZ⟩ := q; exact ⟨q0, q1, qP, va_K.moved (u := U) (U := U.calling g mk a) (Vm.Alike.refl U.vm) qK, qD, qZ.calling⟩, va_recv hK hPc (ci := 9) (q0 := 0) rfl rfl, fun U hU hW => ⟨rfl, by rw [hU], by rw [hU]; exact hPc, va_K.moved hW.alike hK, hDc.weaken (fun _ _ _ _ => trivial), hZ.pass hS hU hW hFc⟩⟩ rfl rfl hl.1 rfl (lv_room (Nat.le_of_ble_eq_true rfl)) dX9_parseBridge_26 ⟨Nat.le_of_ble_eq_true rfl, Nat.le_of_ble_eq_true rfl⟩) hS (fun q _ h => hFc q h) hFc (fun rz11 u t H1 locs ht hvm gz10 hB hz1 hk1 hS => ?_)
    obtain ⟨vz12, tz13, az14, htz13, hP1⟩ := hB
    rw [ht] at hP1
    obtain ⟨hP, hD⟩ := w_callR hP hD hk1 hP1 [0] rfl rfl (fun _ h => absurd h List.not_mem_nil) rfl [some 0, none] rfl rfl
    clear hPc hC hDc hFc hk1 hP1
    generalize H1 = H at hP hS ⊢
    have hP : va_P (dC, dI) vwCl (List.flatten [(wTape qT k (qB 0) vz12 tz13 az14), (wValley qB k vB bB cB wB aB eB)] ++ List.flatten ([] : List va_W)) H := hP
    have hD : va_D A (List.flatten [(wTape qT k (qB 0) vz12 tz13 az14), (wValley qB k vB bB cB wB aB eB)] ++ List.flatten ([] : List va_W)) := hD
    refine W.widen (k := 0) (n := 0) (Nat.le_refl 0) (Nat.le_refl 0) ?_
    have pz15 := gz10
    have pz15 : rz11.toInt = 0 ∨ rz11.toInt = 1 := pz15
    refine lv_if_eq (tgt := 43) hx hb dX9_parseBridge_29 (by decide) (fun cz16 => ?_) (fun cz16 => ?_)
    · skip
      have zz17 : rz11.toInt = (0 : Int) := zi_eq.mp cz16
      refine lv_iconst (v := 0) hx hb dX9_parseBridge_43 (by decide) ?_
      rw [hQ]
      exact W.zret (v := (0 : Int32)) hx hb hr rfl (fun t ht hW => ⟨⟨(0 : Int32), (), rfl, (by show (0 : Int) = 0 ∨ (0 : Int) = 1; omega), vz12, tz13, az14, vB, bB, cB, wB, aB, eB, htz13, hbB, hcB, hwB, heB, by rw [ht]; exact hP⟩, hS.F ht⟩) hS.2.2 dX9_parseBridge_44
    · skip
      have zz18 : ¬ rz11.toInt = (0 : Int) := fun h9 => cz16 (zi_eq.mpr h9)
      refine lv_aload_n hx hb dX9_parseBridge_32 rfl (lv_at hl 1 rfl) ?_
      refine lv_iconst (v := 1) hx hb dX9_parseBridge_33 (by decide) ?_
      refine lv_sipush (v := 300) hx hb dX9_parseBridge_34 (by decide) ?_
      have hPc := hP.sub (ws' := (List.flatten [(wTape qT k (qB 0) vz12 tz13 az14)] ++ List.flatten ([] : List va_W))) [0, 1] rfl
      have hC : [0, 1].map (fun i => (List.flatten [(wTape qT k (qB 0) vz12 tz13 az14), (wValley qB k vB bB cB wB aB eB)] ++ List.flatten ([] : List va_W))[i]?) = (List.flatten [(wTape qT k (qB 0) vz12 tz13 az14)] ++ List.flatten ([] : List va_W)).map some := rfl
      have hDc := hD.sub [0, 1] (by decide) hC
      have hFc := va_free hD hS hA [0, 1] hC
      refine va_calli (va_runV (As := [.int 1, .int 300]) (rest := []) ⟨hx, hb, hml, hown, hts⟩ (c_X9_expectNumber l dC dI k H.size qT (qB 0) vz12 tz13 az14 (1 : Int32) (300 : Int32) htz13) (cwV 2 hts (gk_V (wl_mem 9 rfl) (wl_mem 10 rfl) (wl_mem 11 rfl) (wl_mem 5 rfl) (fun w h => List.mem_cons_of_mem _ (List.mem_append_right _ (List.mem_append_right _ (List.mem_append_right _ (List.mem_append_right _ (List.mem_append_right _ (List.mem_append_left _ h))))))) wkg_c_X9_expectNumber) rfl rfl rfl (by decide +kernel) ⟨Nat.le_of_ble_eq_true rfl, Nat.le_of_ble_eq_true rfl⟩) ⟨fun a U g mk q => by obtain ⟨q0, q1, qP, qK, qD⟩ := q; exact ⟨q0, q1, qP, va_K.moved (u := U) (U := U.calling g mk a) (Vm.Alike.refl U.vm) qK, qD⟩, va_recv hK hPc (ci := 9) (q0 := 0) rfl rfl, fun U hU hW => ⟨rfl, by rw [hU], by rw [hU]; exact hPc, va_K.moved hW.alike hK, hDc.weaken (fun _ _ _ _ => trivial)⟩⟩ rfl rfl hl.1 rfl (lv_room (Nat.le_of_ble_eq_true rfl)) dX9_parseBridge_37 ⟨Nat.le_of_ble_eq_true rfl, Nat.le_of_ble_eq_true rfl⟩) hS (fun q _ h => hFc q h) hFc (fun rz20 u t H1 locs ht hvm gz19 hB hz1 hk1 hS => ?_)
      obtain rfl := gz19
      obtain ⟨vz21, tz22, az23, htz22, pz24, pz25, hP1⟩ := hB
      rw [ht] at hP1
      obtain ⟨hP, hD⟩ := w_callR hP hD hk1 hP1 [0] rfl rfl (fun _ h => absurd h List.not_mem_nil) rfl [some 0, none] rfl rfl
      clear hPc hC hDc hFc hk1 hP1
      generalize H1 = H at hP hS ⊢
      have hP : va_P (dC, dI) vwCl (List.flatten [(wTape qT k (qB 0) vz21 tz22 az23), (wValley qB k vB bB cB wB aB eB)] ++ List.flatten ([] : List va_W)) H := hP
      have hD : va_D A (List.flatten [(wTape qT k (qB 0) vz21 tz22 az23), (wValley qB k vB bB cB wB aB eB)] ++ List.flatten ([] : List va_W)) := hD
      refine W.widen (k := 0) (n := 0) (Nat.le_refl 0) (Nat.le_refl 0) ?_
      have pz24 : rz20.toInt = 0 ∨ ((1 : Int) ≤ (vz21 4).toInt ∧ (vz21 4).toInt ≤ (300 : Int)) := pz24
      have pz25 : rz20.toInt = 0 ∨ rz20.toInt = 1 := pz25
      refine lv_if_ne (tgt := 45) hx hb dX9_parseBridge_40 (by decide) (fun cz26 => ?_) (fun cz26 => ?_)
      · skip
        have zz27 : ¬ rz20.toInt = (0 : Int) := fun h9 => cz26 (zi_eq.mpr h9)
        refine lv_aload_n hx hb dX9_parseBridge_45 rfl (lv_at hl 1 rfl) ?_
        refine va_get (D := (dC, dI)) (ci := 9) (v := .ref (qB 0)) (C := RX9) (T := TX9) (N := 10) hx hb hts (fun w h => List.mem_cons_of_mem _ (List.mem_append_right _ (List.mem_append_left _ h))) hown hK hP 0 rfl rfl 1 (by decide) (hts (.fieldLink RX9 18 "SagMemory$Tape" "read" "LSagMemory$Valley;") (wl_mem 0 rfl)) (fun _ h9 => h9) rfl dX9_parseBridge_46 ?_
        refine va_get (D := (dC, dI)) (ci := 10) (v := .ref (qB 1)) (C := RX10) (T := TX10) (N := 16) hx hb hts (fun w h => List.mem_cons_of_mem _ (List.mem_append_right _ (List.mem_append_right _ (List.mem_append_left _ h)))) hown hK hP 2 rfl rfl 0 (by decide) (hts (.fieldLink RX9 112 "SagMemory$Valley" "holds" "[I") (wl_mem 12 rfl)) (fun _ h9 => h9) rfl dX9_parseBridge_49 ?_
        refine lv_iload_n hx hb dX9_parseBridge_52 rfl (lv_at hl 0 rfl) ?_
        refine lv_aload_n hx hb dX9_parseBridge_53 rfl (lv_at hl 1 rfl) ?_
        refine va_get (D := (dC, dI)) (ci := 9) (v := .int (vz21 4)) (C := RX9) (T := TX9) (N := 10) hx hb hts (fun w h => List.mem_cons_of_mem _ (List.mem_append_right _ (List.mem_append_left _ h))) hown hK hP 0 rfl rfl 9 (by decide) (hts (.fieldLink RX9 96 "SagMemory$Tape" "number" "I") (wl_mem 13 rfl)) (fun _ h9 => h9) rfl dX9_parseBridge_54 ?_
        refine va_iast hx hb hK hP hD hS 3 0 rfl rfl (vp_in_iff.mpr ⟨by omega, by omega⟩) dX9_parseBridge_57 (fun H locs hP hD hS => ?_)
        obtain ⟨fz28, efz28, hP, hD⟩ : ∃ fz28 : Nat → Int32, fz28 = upd (aB 0) (bB 0).toNatClampNeg (vz21 4) ∧ va_P (dC, dI) vwCl (List.flatten [(wTape qT k (qB 0) vz21 tz22 az23), (wValley qB k vB bB cB wB (va_up aB 0 fz28) eB)] ++ List.flatten ([] : List va_W)) H ∧ va_D A (List.flatten [(wTape qT k (qB 0) vz21 tz22 az23), (wValley qB k vB bB cB wB (va_up aB 0 fz28) eB)] ++ List.flatten ([] : List va_W)) := ⟨_, rfl, hP, hD⟩
        have kfz28 : fz28 (bB 0).toNatClampNeg = (vz21 4) := by rw [efz28]; exact pk_us
        refine lv_aload_n hx hb dX9_parseBridge_58 rfl (lv_at hl 1 rfl) ?_
        refine va_ldcS (own := RX9) (index := 114) (tx := "toll") (q := adK 6) hx hb hown (hZ.2.2.2 6 (by decide)) dX9_parseBridge_59 ?_
        have hPc := hP.sub (ws' := (List.flatten [(wTape qT k (qB 0) vz21 tz22 az23)] ++ List.flatten ([] : List va_W))) [0, 1] rfl
        have hC : [0, 1].map (fun i => (List.flatten [(wTape qT k (qB 0) vz21 tz22 az23), (wValley qB k vB bB cB wB (va_up aB 0 fz28) eB)] ++ List.flatten ([] : List va_W))[i]?) = (List.flatten [(wTape qT k (qB 0) vz21 tz22 az23)] ++ List.flatten ([] : List va_W)).map some := rfl
        have hDc := hD.sub [0, 1] (by decide) hC
        have hFc := va_free hD hS hA [0, 1] hC
        refine va_calli (va_runV (As := [.ref (adK 6)]) (rest := []) ⟨hx, hb, hml, hown, hts⟩ (c_X9_expect l dC dI k H.size adK adV ln by9 qT (qB 0) vz21 tz22 az23 6 (by decide) htz22) (cwV 1 hts (gk_V (wl_mem 6 rfl) (wl_mem 7 rfl) (wl_mem 8 rfl) (wl_mem 5 rfl) (fun w h => List.mem_cons_of_mem _ (List.mem_append_right _ (List.mem_append_right _ (List.mem_append_right _ (List.mem_append_right _ (List.mem_append_left _ h)))))) wkg_c_X9_expect) rfl rfl rfl (by decide +kernel) ⟨Nat.le_of_ble_eq_true rfl, Nat.le_of_ble_eq_true rfl⟩) ⟨fun a U g mk q => by obtain ⟨q0, q1, qP, qK, qD, qZ⟩ := q; exact ⟨q0, q1, qP, va_K.moved (u := U) (U := U.calling g mk a) (Vm.Alike.refl U.vm) qK, qD, qZ.calling⟩, va_recv hK hPc (ci := 9) (q0 := 0) rfl rfl, fun U hU hW => ⟨rfl, by rw [hU], by rw [hU]; exact hPc, va_K.moved hW.alike hK, hDc.weaken (fun _ _ _ _ => trivial), hZ.pass hS hU hW hFc⟩⟩ rfl rfl hl.1 rfl (lv_room (Nat.le_of_ble_eq_true rfl)) dX9_parseBridge_61 ⟨Nat.le_of_ble_eq_true rfl, Nat.le_of_ble_eq_true rfl⟩) hS (fun q _ h => hFc q h) hFc (fun rz30 u t H1 locs ht hvm gz29 hB hz1 hk1 hS => ?_)
        obtain ⟨vz31, tz32, az33, htz32, hP1⟩ := hB
        rw [ht] at hP1
        obtain ⟨hP, hD⟩ := w_callR hP hD hk1 hP1 [0] rfl rfl (fun _ h => absurd h List.not_mem_nil) rfl [some 0, none] rfl rfl
        clear hPc hC hDc hFc hk1 hP1
        generalize H1 = H at hP hS ⊢
        have hP : va_P (dC, dI) vwCl (List.flatten [(wTape qT k (qB 0) vz31 tz32 az33), (wValley qB k vB bB cB wB (va_up aB 0 fz28) eB)] ++ List.flatten ([] : List va_W)) H := hP
        have hD : va_D A (List.flatten [(wTape qT k (qB 0) vz31 tz32 az33), (wValley qB k vB bB cB wB (va_up aB 0 fz28) eB)] ++ List.flatten ([] : List va_W)) := hD
        refine W.widen (k := 0) (n := 0) (Nat.le_refl 0) (Nat.le_refl 0) ?_
        have pz34 := gz29
        have pz34 : rz30.toInt = 0 ∨ rz30.toInt = 1 := pz34
        refine lv_if_eq (tgt := 77) hx hb dX9_parseBridge_64 (by decide) (fun cz35 => ?_) (fun cz35 => ?_)
        · skip
          have zz36 : rz30.toInt = (0 : Int) := zi_eq.mp cz35
          refine lv_iconst (v := 0) hx hb dX9_parseBridge_77 (by decide) ?_
          rw [hQ]
          exact W.zret (v := (0 : Int32)) hx hb hr rfl (fun t ht hW => ⟨⟨(0 : Int32), (), rfl, (by show (0 : Int) = 0 ∨ (0 : Int) = 1; omega), vz31, tz32, az33, vB, bB, cB, wB, (va_up aB 0 fz28), eB, htz32, hbB, hcB, hwB, heB, by rw [ht]; exact hP⟩, hS.F ht⟩) hS.2.2 dX9_parseBridge_78
        · skip
          have zz37 : ¬ rz30.toInt = (0 : Int) := fun h9 => cz35 (zi_eq.mpr h9)
          refine lv_aload_n hx hb dX9_parseBridge_67 rfl (lv_at hl 1 rfl) ?_
          refine lv_iconst (v := 0) hx hb dX9_parseBridge_68 (by decide) ?_
          refine lv_bipush (v := 9) hx hb dX9_parseBridge_69 (by decide) ?_
          have hPc := hP.sub (ws' := (List.flatten [(wTape qT k (qB 0) vz31 tz32 az33)] ++ List.flatten ([] : List va_W))) [0, 1] rfl
          have hC : [0, 1].map (fun i => (List.flatten [(wTape qT k (qB 0) vz31 tz32 az33), (wValley qB k vB bB cB wB (va_up aB 0 fz28) eB)] ++ List.flatten ([] : List va_W))[i]?) = (List.flatten [(wTape qT k (qB 0) vz31 tz32 az33)] ++ List.flatten ([] : List va_W)).map some := rfl
          have hDc := hD.sub [0, 1] (by decide) hC
          have hFc := va_free hD hS hA [0, 1] hC
          refine va_calli (va_runV (As := [.int 0, .int 9]) (rest := []) ⟨hx, hb, hml, hown, hts⟩ (c_X9_expectNumber l dC dI k H.size qT (qB 0) vz31 tz32 az33 (0 : Int32) (9 : Int32) htz32) (cwV 2 hts (gk_V (wl_mem 9 rfl) (wl_mem 10 rfl) (wl_mem 11 rfl) (wl_mem 5 rfl) (fun w h => List.mem_cons_of_mem _ (List.mem_append_right _ (List.mem_append_right _ (List.mem_append_right _ (List.mem_append_right _ (List.mem_append_right _ (List.mem_append_left _ h))))))) wkg_c_X9_expectNumber) rfl rfl rfl (by decide +kernel) ⟨Nat.le_of_ble_eq_true rfl, Nat.le_of_ble_eq_true rfl⟩) ⟨fun a U g mk q => by obtain ⟨q0, q1, qP, qK, qD⟩ := q; exact ⟨q0, q1, qP, va_K.moved (u := U) (U := U.calling g mk a) (Vm.Alike.refl U.vm) qK, qD⟩, va_recv hK hPc (ci := 9) (q0 := 0) rfl rfl, fun U hU hW => ⟨rfl, by rw [hU], by rw [hU]; exact hPc, va_K.moved hW.alike hK, hDc.weaken (fun _ _ _ _ => trivial)⟩⟩ rfl rfl hl.1 rfl (lv_room (Nat.le_of_ble_eq_true rfl)) dX9_parseBridge_71 ⟨Nat.le_of_ble_eq_true rfl, Nat.le_of_ble_eq_true rfl⟩) hS (fun q _ h => hFc q h) hFc (fun rz39 u t H1 locs ht hvm gz38 hB hz1 hk1 hS => ?_)
          obtain rfl := gz38
          obtain ⟨vz40, tz41, az42, htz41, pz43, pz44, hP1⟩ := hB
          rw [ht] at hP1
          obtain ⟨hP, hD⟩ := w_callR hP hD hk1 hP1 [0] rfl rfl (fun _ h => absurd h List.not_mem_nil) rfl [some 0, none] rfl rfl
          clear hPc hC hDc hFc hk1 hP1
          generalize H1 = H at hP hS ⊢
          have hP : va_P (dC, dI) vwCl (List.flatten [(wTape qT k (qB 0) vz40 tz41 az42), (wValley qB k vB bB cB wB (va_up aB 0 fz28) eB)] ++ List.flatten ([] : List va_W)) H := hP
          have hD : va_D A (List.flatten [(wTape qT k (qB 0) vz40 tz41 az42), (wValley qB k vB bB cB wB (va_up aB 0 fz28) eB)] ++ List.flatten ([] : List va_W)) := hD
          refine W.widen (k := 0) (n := 0) (Nat.le_refl 0) (Nat.le_refl 0) ?_
          have pz43 : rz39.toInt = 0 ∨ ((0 : Int) ≤ (vz40 4).toInt ∧ (vz40 4).toInt ≤ (9 : Int)) := pz43
          have pz44 : rz39.toInt = 0 ∨ rz39.toInt = 1 := pz44
          refine lv_if_ne (tgt := 79) hx hb dX9_parseBridge_74 (by decide) (fun cz45 => ?_) (fun cz45 => ?_)
          · skip
            have zz46 : ¬ rz39.toInt = (0 : Int) := fun h9 => cz45 (zi_eq.mpr h9)
            refine lv_aload_n hx hb dX9_parseBridge_79 rfl (lv_at hl 1 rfl) ?_
            refine va_get (D := (dC, dI)) (ci := 9) (v := .ref (qB 0)) (C := RX9) (T := TX9) (N := 10) hx hb hts (fun w h => List.mem_cons_of_mem _ (List.mem_append_right _ (List.mem_append_left _ h))) hown hK hP 0 rfl rfl 1 (by decide) (hts (.fieldLink RX9 18 "SagMemory$Tape" "read" "LSagMemory$Valley;") (wl_mem 0 rfl)) (fun _ h9 => h9) rfl dX9_parseBridge_80 ?_
            refine va_get (D := (dC, dI)) (ci := 10) (v := .ref (qB 2)) (C := RX10) (T := TX10) (N := 16) hx hb hts (fun w h => List.mem_cons_of_mem _ (List.mem_append_right _ (List.mem_append_right _ (List.mem_append_left _ h)))) hown hK hP 2 rfl rfl 1 (by decide) (hts (.fieldLink RX9 116 "SagMemory$Valley" "tolls" "[I") (wl_mem 14 rfl)) (fun _ h9 => h9) rfl dX9_parseBridge_83 ?_
            refine lv_iload_n hx hb dX9_parseBridge_86 rfl (lv_at hl 0 rfl) ?_
            refine lv_aload_n hx hb dX9_parseBridge_87 rfl (lv_at hl 1 rfl) ?_
            refine va_get (D := (dC, dI)) (ci := 9) (v := .int (vz40 4)) (C := RX9) (T := TX9) (N := 10) hx hb hts (fun w h => List.mem_cons_of_mem _ (List.mem_append_right _ (List.mem_append_left _ h))) hown hK hP 0 rfl rfl 9 (by decide) (hts (.fieldLink RX9 96 "SagMemory$Tape" "number" "I") (wl_mem 13 rfl)) (fun _ h9 => h9) rfl dX9_parseBridge_88 ?_
            refine va_iast hx hb hK hP hD hS 4 0 rfl rfl (vp_in_iff.mpr ⟨by omega, by omega⟩) dX9_parseBridge_91 (fun H locs hP hD hS => ?_)
            obtain ⟨fz47, efz47, hP, hD⟩ : ∃ fz47 : Nat → Int32, fz47 = upd (aB 1) (bB 0).toNatClampNeg (vz40 4) ∧ va_P (dC, dI) vwCl (List.flatten [(wTape qT k (qB 0) vz40 tz41 az42), (wValley qB k vB bB cB wB (va_up (va_up aB 0 fz28) 1 fz47) eB)] ++ List.flatten ([] : List va_W)) H ∧ va_D A (List.flatten [(wTape qT k (qB 0) vz40 tz41 az42), (wValley qB k vB bB cB wB (va_up (va_up aB 0 fz28) 1 fz47) eB)] ++ List.flatten ([] : List va_W)) := ⟨_, rfl, hP, hD⟩
            have kfz47 : fz47 (bB 0).toNatClampNeg = (vz40 4) := by rw [efz47]; exact pk_us
            refine lv_aload_n hx hb dX9_parseBridge_92 rfl (lv_at hl 1 rfl) ?_
            refine va_get (D := (dC, dI)) (ci := 9) (v := .ref (qB 0)) (C := RX9) (T := TX9) (N := 10) hx hb hts (fun w h => List.mem_cons_of_mem _ (List.mem_append_right _ (List.mem_append_left _ h))) hown hK hP 0 rfl rfl 1 (by decide) (hts (.fieldLink RX9 18 "SagMemory$Tape" "read" "LSagMemory$Valley;") (wl_mem 0 rfl)) (fun _ h9 => h9) rfl dX9_parseBridge_93 ?_
            refine lv_dup hx hb dX9_parseBridge_96 rfl ?_
            refine va_get (D := (dC, dI)) (ci := 10) (v := .int (bB 0)) (C := RX10) (T := TX10) (N := 16) hx hb hts (fun w h => List.mem_cons_of_mem _ (List.mem_append_right _ (List.mem_append_right _ (List.mem_append_left _ h)))) hown hK hP 2 rfl rfl 11 (by decide) (hts (.fieldLink RX9 107 "SagMemory$Valley" "bridges" "I") (wl_mem 1 rfl)) (fun _ h9 => h9) rfl dX9_parseBridge_97 ?_
            refine lv_iconst (v := 1) hx hb dX9_parseBridge_100 (by decide) ?_
            refine lv_iadd hx hb dX9_parseBridge_101 ?_
            refine lv_topi (fun xz48 exz48 => ?_)
            have fxz48 : xz48.toInt = (bB 0).toInt + (1 : Int) := by rw [exz48]; exact fb_addI (x := (bB 0)) (y := (1 : Int32)) (by show -2147483648 ≤ (bB 0).toInt + (1 : Int); omega) (by show (bB 0).toInt + (1 : Int) < 2147483648; omega)
            refine va_put (D := (dC, dI)) (ci := 10) (v := .int xz48) (ty := .int) (C := RX10) (T := TX10) (N := 16) hx hb hts (fun w h => List.mem_cons_of_mem _ (List.mem_append_right _ (List.mem_append_right _ (List.mem_append_left _ h)))) tyX10 tyX10_ok nmX10 hown hK hP hD hS 2 rfl rfl 11 (by decide) (hts (.fieldLink RX9 107 "SagMemory$Valley" "bridges" "I") (wl_mem 1 rfl)) (fun _ h9 => h9) rfl (by decide +kernel) rfl rfl (Nat.le_of_ble_eq_true rfl) dX9_parseBridge_102 (fun H locs hP hD hS => ?_)
            have hP : va_P (dC, dI) vwCl (List.flatten [(wTape qT k (qB 0) vz40 tz41 az42), (wValley qB k vB (va_up bB 0 xz48) cB wB (va_up (va_up aB 0 fz28) 1 fz47) eB)] ++ List.flatten ([] : List va_W)) H := hP
            have hD : va_D A (List.flatten [(wTape qT k (qB 0) vz40 tz41 az42), (wValley qB k vB (va_up bB 0 xz48) cB wB (va_up (va_up aB 0 fz28) 1 fz47) eB)] ++ List.flatten ([] : List va_W)) := hD
            refine lv_iconst (v := 1) hx hb dX9_parseBridge_105 (by decide) ?_
            rw [hQ]
            exact W.zret (v := (1 : Int32)) hx hb hr rfl (fun t ht hW => ⟨⟨(1 : Int32), (), rfl, (by show (1 : Int) = 0 ∨ (1 : Int) = 1; omega), vz40, tz41, az42, vB, (va_up bB 0 xz48), cB, wB, (va_up (va_up aB 0 fz28) 1 fz47), eB, htz41, (rg_up hbB (by show 0 ≤ xz48.toInt ∧ xz48.toInt ≤ 3; omega)), hcB, hwB, heB, by rw [ht]; exact hP⟩, hS.F ht⟩) hS.2.2 dX9_parseBridge_106
          · skip
            have zz49 : rz39.toInt = (0 : Int) := zi_eq.mp cz45
            refine lv_iconst (v := 0) hx hb dX9_parseBridge_77 (by decide) ?_
            rw [hQ]
            exact W.zret (v := (0 : Int32)) hx hb hr rfl (fun t ht hW => ⟨⟨(0 : Int32), (), rfl, (by show (0 : Int) = 0 ∨ (0 : Int) = 1; omega), vz40, tz41, az42, vB, bB, cB, wB, (va_up aB 0 fz28), eB, htz41, hbB, hcB, hwB, heB, by rw [ht]; exact hP⟩, hS.F ht⟩) hS.2.2 dX9_parseBridge_78
      · skip
        have zz50 : rz20.toInt = (0 : Int) := zi_eq.mp cz26
        refine lv_iconst (v := 0) hx hb dX9_parseBridge_43 (by decide) ?_
        rw [hQ]
        exact W.zret (v := (0 : Int32)) hx hb hr rfl (fun t ht hW => ⟨⟨(0 : Int32), (), rfl, (by show (0 : Int) = 0 ∨ (0 : Int) = 1; omega), vz21, tz22, az23, vB, bB, cB, wB, aB, eB, htz22, hbB, hcB, hwB, heB, by rw [ht]; exact hP⟩, hS.F ht⟩) hS.2.2 dX9_parseBridge_44
  · skip
    have zz51 : ¬ (bB 0).toInt < (3 : Int) := fun h9 => cz2 (zi_lt.mpr h9)
    refine lv_aload_n hx hb dX9_parseBridge_13 rfl (lv_at hl 1 rfl) ?_
    refine lv_iconst (v := 3) hx hb dX9_parseBridge_14 (by decide) ?_
    have hPc := hP.sub (ws' := (List.flatten [(wTape qT k (qB 0) vT tT aT)] ++ List.flatten ([] : List va_W))) [0, 1] rfl
    have hC : [0, 1].map (fun i => (List.flatten [(wTape qT k (qB 0) vT tT aT), (wValley qB k vB bB cB wB aB eB)] ++ List.flatten ([] : List va_W))[i]?) = (List.flatten [(wTape qT k (qB 0) vT tT aT)] ++ List.flatten ([] : List va_W)).map some := rfl
    have hDc := hD.sub [0, 1] (by decide) hC
    have hFc := va_free hD hS hA [0, 1] hC
    refine va_calli (va_runV (As := [.int 3]) (rest := []) ⟨hx, hb, hml, hown, hts⟩ (c_X9_fail l dC dI k s.heap.size qT (qB 0) vT tT aT (3 : Int32) htT) (cwV 1 hts (gk_V (wl_mem 15 rfl) (wl_mem 16 rfl) (wl_mem 17 rfl) (wl_mem 5 rfl) (fun w h => List.mem_cons_of_mem _ (List.mem_append_right _ (List.mem_append_right _ (List.mem_append_right _ (List.mem_append_right _ (List.mem_append_right _ (List.mem_append_right _ (List.mem_append_left _ h)))))))) wkg_c_X9_fail) rfl rfl rfl (by decide +kernel) ⟨Nat.le_of_ble_eq_true rfl, Nat.le_of_ble_eq_true rfl⟩) ⟨fun a U g mk q => by obtain ⟨q0, q1, qP, qK, qD⟩ := q; exact ⟨q0, q1, qP, va_K.moved (u := U) (U := U.calling g mk a) (Vm.Alike.refl U.vm) qK, qD⟩, va_recv hK hPc (ci := 9) (q0 := 0) rfl rfl, fun U hU hW => ⟨rfl, by rw [hU], by rw [hU]; exact hPc, va_K.moved hW.alike hK, hDc.weaken (fun _ _ _ _ => trivial)⟩⟩ rfl rfl hl.1 rfl (lv_room (Nat.le_of_ble_eq_true rfl)) dX9_parseBridge_15 ⟨Nat.le_of_ble_eq_true rfl, Nat.le_of_ble_eq_true rfl⟩) hS (fun q _ h => hFc q h) hFc (fun rz53 u t H1 locs ht hvm gz52 hB hz1 hk1 hS => ?_)
    obtain ⟨vz54, tz55, az56, htz55, hP1⟩ := hB
    rw [ht] at hP1
    obtain ⟨hP, hD⟩ := w_callR hP hD hk1 hP1 [0] rfl rfl (fun _ h => absurd h List.not_mem_nil) rfl [some 0, none] rfl rfl
    clear hPc hC hDc hFc hk1 hP1
    generalize H1 = H at hP hS ⊢
    have hP : va_P (dC, dI) vwCl (List.flatten [(wTape qT k (qB 0) vz54 tz55 az56), (wValley qB k vB bB cB wB aB eB)] ++ List.flatten ([] : List va_W)) H := hP
    have hD : va_D A (List.flatten [(wTape qT k (qB 0) vz54 tz55 az56), (wValley qB k vB bB cB wB aB eB)] ++ List.flatten ([] : List va_W)) := hD
    refine W.widen (k := 0) (n := 0) (Nat.le_refl 0) (Nat.le_refl 0) ?_
    obtain ⟨pz57, pz58⟩ := gz52
    have pz57 : rz53.toInt = 0 := pz57
    have pz58 : rz53.toInt = 0 ∨ rz53.toInt = 1 := pz58
    rw [hQ]
    exact W.zret (v := rz53) hx hb hr (zb_nar (by show rz53.toInt = 0 ∨ rz53.toInt = 1; omega)) (fun t ht hW => ⟨⟨rz53, (), rfl, (by show rz53.toInt = 0 ∨ rz53.toInt = 1; omega), vz54, tz55, az56, vB, bB, cB, wB, aB, eB, htz55, hbB, hcB, hwB, heB, by rw [ht]; exact hP⟩, hS.F ht⟩) hS.2.2 dX9_parseBridge_18
def wk_c_X9_parseCart : List Cond := .code yX9_parseCart cX9_parseCart 2 (some .boolean) :: ([.fieldLink RX9 18 "SagMemory$Tape" "read" "LSagMemory$Valley;", .fieldLink RX9 119 "SagMemory$Valley" "carts" "I", .methodLink RX9 38 yX9_next, .instanceMethod yX9_next, .selects RX9 yX9_next yX9_next, .initialized RX9, .methodLink RX9 92 yX9_expectNumber, .instanceMethod yX9_expectNumber, .selects RX9 yX9_expectNumber yX9_expectNumber, .fieldLink RX9 122 "SagMemory$Valley" "loads" "[I", .fieldLink RX9 96 "SagMemory$Tape" "number" "I", .methodLink RX9 53 yX9_expect, .instanceMethod yX9_expect, .selects RX9 yX9_expect yX9_expect, .fieldLink RX9 107 "SagMemory$Valley" "bridges" "I", .fieldLink RX9 127 "SagMemory$Valley" "ways" "[I", .methodLink RX9 86 yX9_fail, .instanceMethod yX9_fail, .selects RX9 yX9_fail yX9_fail] ++ (wsX90 ++ (wsX100 ++ (wk_c_X9_next ++ (wk_c_X9_expectNumber ++ (wk_c_X9_expect ++ (wk_c_X9_fail ++ [])))))))
theorem wkg_c_X9_parseCart : wk_c_X9_parseCart.all goodWord = true := by decide +kernel
set_option maxHeartbeats 4000000 in
set_option maxRecDepth 100000 in
theorem c_X9_parseCart (l : Launch) (dC : Nat → ClassId) (dI : Nat → Nat → Nat) (k : Nat → ClassId) (sz : Nat) (adK adV ln : Nat → Nat) (by9 : Nat → Nat → Int32) (qT : Nat → Nat) (vT : Nat → Int32) (tT : Nat → Int32) (aT : Nat → Nat → Int32) (qB : Nat → Nat) (vB : Nat → Int32) (bB : Nat → Int32) (cB : Nat → Int32) (wB : Nat → Int32) (aB : Nat → Nat → Int32) (eB : Nat → Nat → Int32) (htT : Rg 0 700 tT) (hbB : Rg 0 3 bB) (hcB : Rg 0 7 cB) (hwB : Rg 0 5 wB) (heB : RgA 0 99 eB) : Met l yX9_parseCart wk_c_X9_parseCart ({ frames := 6, cells := 0, slots := 0, locals := 128 }) (va_Pc [.ref (qT 0)] (fun U => U.heap.size = sz ∧ va_P (dC, dI) vwCl (List.flatten [(wTape qT k (qB 0) vT tT aT), (wValley qB k vB bB cB wB aB eB)] ++ List.flatten ([] : List va_W)) U.heap ∧ va_K (dC, dI) vwCl (tK k) U ∧ va_D (fun _ => True) (List.flatten [(wTape qT k (qB 0) vT tT aT), (wValley qB k vB bB cB wB aB eB)] ++ List.flatten ([] : List va_W)) ∧ Zt adK adV ln by9 (va_A (List.flatten [(wTape qT k (qB 0) vT tT aT), (wValley qB k vB bB cB wB aB eB)] ++ List.flatten ([] : List va_W)) sz) U U.heap)) (va_Qi (fun (r : Int32) (_ : Unit) => (r.toInt = 0 ∨ r.toInt = 1)) (fun (_ : Unit) (t : State) => ∃ (vT' : Nat → Int32) (tT' : Nat → Int32) (aT' : Nat → Nat → Int32) (vB' : Nat → Int32) (bB' : Nat → Int32) (cB' : Nat → Int32) (wB' : Nat → Int32) (aB' : Nat → Nat → Int32) (eB' : Nat → Nat → Int32), Rg 0 700 tT' ∧ Rg 0 3 bB' ∧ Rg 0 7 cB' ∧ Rg 0 5 wB' ∧ RgA 0 99 eB' ∧ va_P (dC, dI) vwCl (List.flatten [(wTape qT k (qB 0) vT' tT' aT'), (wValley qB k vB' bB' cB' wB' aB' eB')] ++ List.flatten ([] : List va_W)) t.heap) (va_A (List.flatten [(wTape qT k (qB 0) vT tT aT), (wValley qB k vB bB cB wB aB eB)] ++ List.flatten ([] : List va_W)) sz)) 0 0 (va_A (List.flatten [(wTape qT k (qB 0) vT tT aT), (wValley qB k vB bB cB wB aB eB)] ++ List.flatten ([] : List va_W)) sz) := by
  refine Met.ofW (cc := cX9_parseCart) (maxL := 2) (ret := (some .boolean)) (by decide) rfl ?_
  intro p e s m args below meth c s₁ B hml hv
  obtain ⟨rfl, hsz, hP, hK, hD0, hZ⟩ := hv
  have hx := B.exec
  have hb := B.bytes
  have hr := B.returns
  have hts := atoms_spec (ws := wk_c_X9_parseCart) B.pre
  have hown : s.vm.findClass RX9 = some m.cls := findClass_of_methodNamed B.named
  have hlocks := B.notSynchronized
  subst hsz
  have hD := hD0.self (sz := s.heap.size)
  generalize hAe : va_A (List.flatten [(wTape qT k (qB 0) vT tT aT), (wValley qB k vB bB cB wB aB eB)] ++ List.flatten ([] : List va_W)) s.heap.size = A at hD hZ ⊢
  have hA : ∀ q : Nat, s.heap.size ≤ q → A q := fun q h => by rw [← hAe]; exact Or.inr h
  have hS : va_S A s.heap s.heap [] := va_S.rf
  have hP : va_P (dC, dI) vwCl (List.flatten [(wTape qT k (qB 0) vT tT aT), (wValley qB k vB bB cB wB aB eB)] ++ List.flatten ([] : List va_W)) s.heap := hP
  have hl := lv_entry ([.ref (qT 0)]) (n := 2) (Nat.le_of_ble_eq_true rfl)
  rw [lg_entry_eq]
  generalize (lg_sl ([.ref (qT 0)]) ++ List.replicate (2 - (lg_sl ([.ref (qT 0)])).length) Slot.unset).toArray = ls at hl ⊢
  have hl : lv_has ls 2 [(0, .ref (qT 0))] := hl
  refine w_gen (fun Q hQ => ?_)
  refine lv_aload_n hx hb dX9_parseCart_0 rfl (lv_at hl 0 rfl) ?_
  refine va_get (D := (dC, dI)) (ci := 9) (v := .ref (qB 0)) (C := RX9) (T := TX9) (N := 10) hx hb hts (fun w h => List.mem_cons_of_mem _ (List.mem_append_right _ (List.mem_append_left _ h))) hown hK hP 0 rfl rfl 1 (by decide) (hts (.fieldLink RX9 18 "SagMemory$Tape" "read" "LSagMemory$Valley;") (wl_mem 0 rfl)) (fun _ h9 => h9) rfl dX9_parseCart_1 ?_
  refine va_get (D := (dC, dI)) (ci := 10) (v := .int (cB 0)) (C := RX10) (T := TX10) (N := 16) hx hb hts (fun w h => List.mem_cons_of_mem _ (List.mem_append_right _ (List.mem_append_right _ (List.mem_append_left _ h)))) hown hK hP 2 rfl rfl 12 (by decide) (hts (.fieldLink RX9 119 "SagMemory$Valley" "carts" "I") (wl_mem 1 rfl)) (fun _ h9 => h9) rfl dX9_parseCart_4 ?_
  have bz1 := hcB 0
  refine lv_istore_n (lv' := [(1, .int (cB 0)), (0, .ref (qT 0))]) hx hb dX9_parseCart_7 rfl hl (by decide) rfl (fun ls hl => ?_)
  refine lv_iload_n hx hb dX9_parseCart_8 rfl (lv_at hl 0 rfl) ?_
  refine lv_bipush (v := 7) hx hb dX9_parseCart_9 (by decide) ?_
  refine lv_icmp_lt (tgt := 20) hx hb dX9_parseCart_11 (by decide) (fun cz2 => ?_) (fun cz2 => ?_)
  · skip
    have zz3 : (cB 0).toInt < (7 : Int) := zi_lt.mp cz2
    refine lv_aload_n hx hb dX9_parseCart_20 rfl (lv_at hl 1 rfl) ?_
    have hPc := hP.sub (ws' := (List.flatten [(wTape qT k (qB 0) vT tT aT)] ++ List.flatten ([] : List va_W))) [0, 1] rfl
    have hC : [0, 1].map (fun i => (List.flatten [(wTape qT k (qB 0) vT tT aT), (wValley qB k vB bB cB wB aB eB)] ++ List.flatten ([] : List va_W))[i]?) = (List.flatten [(wTape qT k (qB 0) vT tT aT)] ++ List.flatten ([] : List va_W)).map some := rfl
    have hDc := hD.sub [0, 1] (by decide) hC
    have hFc := va_free hD hS hA [0, 1] hC
    refine va_callv (va_runV (As := []) (rest := []) ⟨hx, hb, hml, hown, hts⟩ (c_X9_next l dC dI k s.heap.size qT (qB 0) vT tT aT htT) (cwV 0 hts (gk_V (wl_mem 2 rfl) (wl_mem 3 rfl) (wl_mem 4 rfl) (wl_mem 5 rfl) (fun w h => List.mem_cons_of_mem _ (List.mem_append_right _ (List.mem_append_right _ (List.mem_append_right _ (List.mem_append_left _ h))))) wkg_c_X9_next) rfl rfl rfl (by decide +kernel) ⟨Nat.le_of_ble_eq_true rfl, Nat.le_of_ble_eq_true rfl⟩) ⟨fun a U g mk q => by obtain ⟨q0, q1, qP, qK, qD⟩ := q; exact ⟨q0, q1, qP, va_K.moved (u := U) (U := U.calling g mk a) (Vm.Alike.refl U.vm) qK, qD⟩, va_recv hK hPc (ci := 9) (q0 := 0) rfl rfl, fun U hU hW => ⟨rfl, by rw [hU], by rw [hU]; exact hPc, va_K.moved hW.alike hK, hDc.weaken (fun _ _ _ _ => trivial)⟩⟩ rfl rfl hl.1 rfl (lv_room (Nat.le_of_ble_eq_true rfl)) dX9_parseCart_21 ⟨Nat.le_of_ble_eq_true rfl, Nat.le_of_ble_eq_true rfl⟩) hS (fun q _ h => hFc q h) hFc (fun u t H1 locs ht hvm gz4 hB hz1 hk1 hS => ?_)
    obtain ⟨vz6, tz7, az8, htz7, pz9, hP1⟩ := hB
    rw [ht] at hP1
    obtain ⟨hP, hD⟩ := w_callR hP hD hk1 hP1 [0] rfl rfl (fun _ h => absurd h List.not_mem_nil) rfl [some 0, none] rfl rfl
    clear hPc hC hDc hFc hk1 hP1
    generalize H1 = H at hP hS ⊢
    have hP : va_P (dC, dI) vwCl (List.flatten [(wTape qT k (qB 0) vz6 tz7 az8), (wValley qB k vB bB cB wB aB eB)] ++ List.flatten ([] : List va_W)) H := hP
    have hD : va_D A (List.flatten [(wTape qT k (qB 0) vz6 tz7 az8), (wValley qB k vB bB cB wB aB eB)] ++ List.flatten ([] : List va_W)) := hD
    refine W.widen (k := 0) (n := 0) (Nat.le_refl 0) (Nat.le_refl 0) ?_
    have pz9 : (vz6 4).toInt = (vT 4).toInt := pz9
    refine lv_aload_n hx hb dX9_parseCart_24 rfl (lv_at hl 1 rfl) ?_
    refine lv_iconst (v := 1) hx hb dX9_parseCart_25 (by decide) ?_
    refine lv_bipush (v := 99) hx hb dX9_parseCart_26 (by decide) ?_
    have hPc := hP.sub (ws' := (List.flatten [(wTape qT k (qB 0) vz6 tz7 az8)] ++ List.flatten ([] : List va_W))) [0, 1] rfl
    have hC : [0, 1].map (fun i => (List.flatten [(wTape qT k (qB 0) vz6 tz7 az8), (wValley qB k vB bB cB wB aB eB)] ++ List.flatten ([] : List va_W))[i]?) = (List.flatten [(wTape qT k (qB 0) vz6 tz7 az8)] ++ List.flatten ([] : List va_W)).map some := rfl
    have hDc := hD.sub [0, 1] (by decide) hC
    have hFc := va_free hD hS hA [0, 1] hC
    refine va_calli (va_runV (As := [.int 1, .int 99]) (rest := []) ⟨hx, hb, hml, hown, hts⟩ (c_X9_expectNumber l dC dI k H.size qT (qB 0) vz6 tz7 az8 (1 : Int32) (99 : Int32) htz7) (cwV 2 hts (gk_V (wl_mem 6 rfl) (wl_mem 7 rfl) (wl_mem 8 rfl) (wl_mem 5 rfl) (fun w h => List.mem_cons_of_mem _ (List.mem_append_right _ (List.mem_append_right _ (List.mem_append_right _ (List.mem_append_right _ (List.mem_append_left _ h)))))) wkg_c_X9_expectNumber) rfl rfl rfl (by decide +kernel) ⟨Nat.le_of_ble_eq_true rfl, Nat.le_of_ble_eq_true rfl⟩) ⟨fun a U g mk q => by obtain ⟨q0, q1, qP, qK, qD⟩ := q; exact ⟨q0, q1, qP, va_K.moved (u := U) (U := U.calling g mk a) (Vm.Alike.refl U.vm) qK, qD⟩, va_recv hK hPc (ci := 9) (q0 := 0) rfl rfl, fun U hU hW => ⟨rfl, by rw [hU], by rw [hU]; exact hPc, va_K.moved hW.alike hK, hDc.weaken (fun _ _ _ _ => trivial)⟩⟩ rfl rfl hl.1 rfl (lv_room (Nat.le_of_ble_eq_true rfl)) dX9_parseCart_28 ⟨Nat.le_of_ble_eq_true rfl, Nat.le_of_ble_eq_true rfl⟩) hS (fun q _ h => hFc q h) hFc (fun rz11 u t H1 locs ht hvm gz10 hB hz1 hk1 hS => ?_)
    obtain rfl := gz10
    obtain ⟨vz12, tz13, az14, htz13, pz15, pz16, hP1⟩ := hB
    rw [ht] at hP1
    obtain ⟨hP, hD⟩ := w_callR hP hD hk1 hP1 [0] rfl rfl (fun _ h => absurd h List.not_mem_nil) rfl [some 0, none] rfl rfl
    clear hPc hC hDc hFc hk1 hP1
    generalize H1 = H at hP hS ⊢
    have hP : va_P (dC, dI) vwCl (List.flatten [(wTape qT k (qB 0) vz12 tz13 az14), (wValley qB k vB bB cB wB aB eB)] ++ List.flatten ([] : List va_W)) H := hP
    have hD : va_D A (List.flatten [(wTape qT k (qB 0) vz12 tz13 az14), (wValley qB k vB bB cB wB aB eB)] ++ List.flatten ([] : List va_W)) := hD
    refine W.widen (k := 0) (n := 0) (Nat.le_refl 0) (Nat.le_refl 0) ?_
    have pz15 : rz11.toInt = 0 ∨ ((1 : Int) ≤ (vz12 4).toInt ∧ (vz12 4).toInt ≤ (99 : Int)) := pz15
    have pz16 : rz11.toInt = 0 ∨ rz11.toInt = 1 := pz16
    refine lv_if_ne (tgt := 36) hx hb dX9_parseCart_31 (by decide) (fun cz17 => ?_) (fun cz17 => ?_)
    · skip
      have zz18 : ¬ rz11.toInt = (0 : Int) := fun h9 => cz17 (zi_eq.mpr h9)
      refine lv_aload_n hx hb dX9_parseCart_36 rfl (lv_at hl 1 rfl) ?_
      refine va_get (D := (dC, dI)) (ci := 9) (v := .ref (qB 0)) (C := RX9) (T := TX9) (N := 10) hx hb hts (fun w h => List.mem_cons_of_mem _ (List.mem_append_right _ (List.mem_append_left _ h))) hown hK hP 0 rfl rfl 1 (by decide) (hts (.fieldLink RX9 18 "SagMemory$Tape" "read" "LSagMemory$Valley;") (wl_mem 0 rfl)) (fun _ h9 => h9) rfl dX9_parseCart_37 ?_
      refine va_get (D := (dC, dI)) (ci := 10) (v := .ref (qB 3)) (C := RX10) (T := TX10) (N := 16) hx hb hts (fun w h => List.mem_cons_of_mem _ (List.mem_append_right _ (List.mem_append_right _ (List.mem_append_left _ h)))) hown hK hP 2 rfl rfl 2 (by decide) (hts (.fieldLink RX9 122 "SagMemory$Valley" "loads" "[I") (wl_mem 9 rfl)) (fun _ h9 => h9) rfl dX9_parseCart_40 ?_
      refine lv_iload_n hx hb dX9_parseCart_43 rfl (lv_at hl 0 rfl) ?_
      refine lv_aload_n hx hb dX9_parseCart_44 rfl (lv_at hl 1 rfl) ?_
      refine va_get (D := (dC, dI)) (ci := 9) (v := .int (vz12 4)) (C := RX9) (T := TX9) (N := 10) hx hb hts (fun w h => List.mem_cons_of_mem _ (List.mem_append_right _ (List.mem_append_left _ h))) hown hK hP 0 rfl rfl 9 (by decide) (hts (.fieldLink RX9 96 "SagMemory$Tape" "number" "I") (wl_mem 10 rfl)) (fun _ h9 => h9) rfl dX9_parseCart_45 ?_
      refine va_iast hx hb hK hP hD hS 5 0 rfl rfl (vp_in_iff.mpr ⟨by omega, by omega⟩) dX9_parseCart_48 (fun H locs hP hD hS => ?_)
      obtain ⟨fz19, efz19, hP, hD⟩ : ∃ fz19 : Nat → Int32, fz19 = upd (eB 0) (cB 0).toNatClampNeg (vz12 4) ∧ va_P (dC, dI) vwCl (List.flatten [(wTape qT k (qB 0) vz12 tz13 az14), (wValley qB k vB bB cB wB aB (va_up eB 0 fz19))] ++ List.flatten ([] : List va_W)) H ∧ va_D A (List.flatten [(wTape qT k (qB 0) vz12 tz13 az14), (wValley qB k vB bB cB wB aB (va_up eB 0 fz19))] ++ List.flatten ([] : List va_W)) := ⟨_, rfl, hP, hD⟩
      have hfz19 : Rg 0 99 fz19 := by rw [efz19]; exact rg_upd (heB 0) (by show 0 ≤ (vz12 4).toInt ∧ (vz12 4).toInt ≤ 99; omega)
      have kfz19 : fz19 (cB 0).toNatClampNeg = (vz12 4) := by rw [efz19]; exact pk_us
      refine lv_aload_n hx hb dX9_parseCart_49 rfl (lv_at hl 1 rfl) ?_
      refine va_ldcS (own := RX9) (index := 125) (tx := "by") (q := adK 8) hx hb hown (hZ.2.2.2 8 (by decide)) dX9_parseCart_50 ?_
      have hPc := hP.sub (ws' := (List.flatten [(wTape qT k (qB 0) vz12 tz13 az14)] ++ List.flatten ([] : List va_W))) [0, 1] rfl
      have hC : [0, 1].map (fun i => (List.flatten [(wTape qT k (qB 0) vz12 tz13 az14), (wValley qB k vB bB cB wB aB (va_up eB 0 fz19))] ++ List.flatten ([] : List va_W))[i]?) = (List.flatten [(wTape qT k (qB 0) vz12 tz13 az14)] ++ List.flatten ([] : List va_W)).map some := rfl
      have hDc := hD.sub [0, 1] (by decide) hC
      have hFc := va_free hD hS hA [0, 1] hC
      refine va_calli (va_runV (As := [.ref (adK 8)]) (rest := []) ⟨hx, hb, hml, hown, hts⟩ (c_X9_expect l dC dI k H.size adK adV ln by9 qT (qB 0) vz12 tz13 az14 8 (by decide) htz13) (cwV 1 hts (gk_V (wl_mem 11 rfl) (wl_mem 12 rfl) (wl_mem 13 rfl) (wl_mem 5 rfl) (fun w h => List.mem_cons_of_mem _ (List.mem_append_right _ (List.mem_append_right _ (List.mem_append_right _ (List.mem_append_right _ (List.mem_append_right _ (List.mem_append_left _ h))))))) wkg_c_X9_expect) rfl rfl rfl (by decide +kernel) ⟨Nat.le_of_ble_eq_true rfl, Nat.le_of_ble_eq_true rfl⟩) ⟨fun a U g mk q => by obtain ⟨q0, q1, qP, qK, qD, qZ⟩ := q; exact ⟨q0, q1, qP, va_K.moved (u := U) (U := U.calling g mk a) (Vm.Alike.refl U.vm) qK, qD, qZ.calling⟩, va_recv hK hPc (ci := 9) (q0 := 0) rfl rfl, fun U hU hW => ⟨rfl, by rw [hU], by rw [hU]; exact hPc, va_K.moved hW.alike hK, hDc.weaken (fun _ _ _ _ => trivial), hZ.pass hS hU hW hFc⟩⟩ rfl rfl hl.1 rfl (lv_room (Nat.le_of_ble_eq_true rfl)) dX9_parseCart_52 ⟨Nat.le_of_ble_eq_true rfl, Nat.le_of_ble_eq_true rfl⟩) hS (fun q _ h => hFc q h) hFc (fun rz21 u t H1 locs ht hvm gz20 hB hz1 hk1 hS => ?_)
      obtain ⟨vz22, tz23, az24, htz23, hP1⟩ := hB
      rw [ht] at hP1
      obtain ⟨hP, hD⟩ := w_callR hP hD hk1 hP1 [0] rfl rfl (fun _ h => absurd h List.not_mem_nil) rfl [some 0, none] rfl rfl
      clear hPc hC hDc hFc hk1 hP1
      generalize H1 = H at hP hS ⊢
      have hP : va_P (dC, dI) vwCl (List.flatten [(wTape qT k (qB 0) vz22 tz23 az24), (wValley qB k vB bB cB wB aB (va_up eB 0 fz19))] ++ List.flatten ([] : List va_W)) H := hP
      have hD : va_D A (List.flatten [(wTape qT k (qB 0) vz22 tz23 az24), (wValley qB k vB bB cB wB aB (va_up eB 0 fz19))] ++ List.flatten ([] : List va_W)) := hD
      refine W.widen (k := 0) (n := 0) (Nat.le_refl 0) (Nat.le_refl 0) ?_
      have pz25 := gz20
      have pz25 : rz21.toInt = 0 ∨ rz21.toInt = 1 := pz25
      refine lv_if_eq (tgt := 75) hx hb dX9_parseCart_55 (by decide) (fun cz26 => ?_) (fun cz26 => ?_)
      · skip
        have zz27 : rz21.toInt = (0 : Int) := zi_eq.mp cz26
        refine lv_iconst (v := 0) hx hb dX9_parseCart_75 (by decide) ?_
        rw [hQ]
        exact W.zret (v := (0 : Int32)) hx hb hr rfl (fun t ht hW => ⟨⟨(0 : Int32), (), rfl, (by show (0 : Int) = 0 ∨ (0 : Int) = 1; omega), vz22, tz23, az24, vB, bB, cB, wB, aB, (va_up eB 0 fz19), htz23, hbB, hcB, hwB, (rga_up heB hfz19), by rw [ht]; exact hP⟩, hS.F ht⟩) hS.2.2 dX9_parseCart_76
      · skip
        have zz28 : ¬ rz21.toInt = (0 : Int) := fun h9 => cz26 (zi_eq.mpr h9)
        refine lv_aload_n hx hb dX9_parseCart_58 rfl (lv_at hl 1 rfl) ?_
        refine lv_iconst (v := 0) hx hb dX9_parseCart_59 (by decide) ?_
        refine lv_aload_n hx hb dX9_parseCart_60 rfl (lv_at hl 1 rfl) ?_
        refine va_get (D := (dC, dI)) (ci := 9) (v := .ref (qB 0)) (C := RX9) (T := TX9) (N := 10) hx hb hts (fun w h => List.mem_cons_of_mem _ (List.mem_append_right _ (List.mem_append_left _ h))) hown hK hP 0 rfl rfl 1 (by decide) (hts (.fieldLink RX9 18 "SagMemory$Tape" "read" "LSagMemory$Valley;") (wl_mem 0 rfl)) (fun _ h9 => h9) rfl dX9_parseCart_61 ?_
        refine va_get (D := (dC, dI)) (ci := 10) (v := .int (bB 0)) (C := RX10) (T := TX10) (N := 16) hx hb hts (fun w h => List.mem_cons_of_mem _ (List.mem_append_right _ (List.mem_append_right _ (List.mem_append_left _ h)))) hown hK hP 2 rfl rfl 11 (by decide) (hts (.fieldLink RX9 107 "SagMemory$Valley" "bridges" "I") (wl_mem 14 rfl)) (fun _ h9 => h9) rfl dX9_parseCart_64 ?_
        have bz29 := hbB 0
        refine lv_iconst (v := 1) hx hb dX9_parseCart_67 (by decide) ?_
        refine lv_isub hx hb dX9_parseCart_68 ?_
        refine lv_topi (fun xz30 exz30 => ?_)
        have fxz30 : xz30.toInt = (bB 0).toInt - (1 : Int) := by rw [exz30]; exact fb_subI (x := (bB 0)) (y := (1 : Int32)) (by show -2147483648 ≤ (bB 0).toInt - (1 : Int); omega) (by show (bB 0).toInt - (1 : Int) < 2147483648; omega)
        have hPc := hP.sub (ws' := (List.flatten [(wTape qT k (qB 0) vz22 tz23 az24)] ++ List.flatten ([] : List va_W))) [0, 1] rfl
        have hC : [0, 1].map (fun i => (List.flatten [(wTape qT k (qB 0) vz22 tz23 az24), (wValley qB k vB bB cB wB aB (va_up eB 0 fz19))] ++ List.flatten ([] : List va_W))[i]?) = (List.flatten [(wTape qT k (qB 0) vz22 tz23 az24)] ++ List.flatten ([] : List va_W)).map some := rfl
        have hDc := hD.sub [0, 1] (by decide) hC
        have hFc := va_free hD hS hA [0, 1] hC
        refine va_calli (va_runV (As := [.int 0, .int xz30]) (rest := []) ⟨hx, hb, hml, hown, hts⟩ (c_X9_expectNumber l dC dI k H.size qT (qB 0) vz22 tz23 az24 (0 : Int32) xz30 htz23) (cwV 2 hts (gk_V (wl_mem 6 rfl) (wl_mem 7 rfl) (wl_mem 8 rfl) (wl_mem 5 rfl) (fun w h => List.mem_cons_of_mem _ (List.mem_append_right _ (List.mem_append_right _ (List.mem_append_right _ (List.mem_append_right _ (List.mem_append_left _ h)))))) wkg_c_X9_expectNumber) rfl rfl rfl (by decide +kernel) ⟨Nat.le_of_ble_eq_true rfl, Nat.le_of_ble_eq_true rfl⟩) ⟨fun a U g mk q => by obtain ⟨q0, q1, qP, qK, qD⟩ := q; exact ⟨q0, q1, qP, va_K.moved (u := U) (U := U.calling g mk a) (Vm.Alike.refl U.vm) qK, qD⟩, va_recv hK hPc (ci := 9) (q0 := 0) rfl rfl, fun U hU hW => ⟨rfl, by rw [hU], by rw [hU]; exact hPc, va_K.moved hW.alike hK, hDc.weaken (fun _ _ _ _ => trivial)⟩⟩ rfl rfl hl.1 rfl (lv_room (Nat.le_of_ble_eq_true rfl)) dX9_parseCart_69 ⟨Nat.le_of_ble_eq_true rfl, Nat.le_of_ble_eq_true rfl⟩) hS (fun q _ h => hFc q h) hFc (fun rz32 u t H1 locs ht hvm gz31 hB hz1 hk1 hS => ?_)
        obtain rfl := gz31
        obtain ⟨vz33, tz34, az35, htz34, pz36, pz37, hP1⟩ := hB
        rw [ht] at hP1
        obtain ⟨hP, hD⟩ := w_callR hP hD hk1 hP1 [0] rfl rfl (fun _ h => absurd h List.not_mem_nil) rfl [some 0, none] rfl rfl
        clear hPc hC hDc hFc hk1 hP1
        generalize H1 = H at hP hS ⊢
        have hP : va_P (dC, dI) vwCl (List.flatten [(wTape qT k (qB 0) vz33 tz34 az35), (wValley qB k vB bB cB wB aB (va_up eB 0 fz19))] ++ List.flatten ([] : List va_W)) H := hP
        have hD : va_D A (List.flatten [(wTape qT k (qB 0) vz33 tz34 az35), (wValley qB k vB bB cB wB aB (va_up eB 0 fz19))] ++ List.flatten ([] : List va_W)) := hD
        refine W.widen (k := 0) (n := 0) (Nat.le_refl 0) (Nat.le_refl 0) ?_
        have pz36 : rz32.toInt = 0 ∨ ((0 : Int) ≤ (vz33 4).toInt ∧ (vz33 4).toInt ≤ xz30.toInt) := pz36
        have pz37 : rz32.toInt = 0 ∨ rz32.toInt = 1 := pz37
        refine lv_if_ne (tgt := 77) hx hb dX9_parseCart_72 (by decide) (fun cz38 => ?_) (fun cz38 => ?_)
        · skip
          have zz39 : ¬ rz32.toInt = (0 : Int) := fun h9 => cz38 (zi_eq.mpr h9)
          refine lv_aload_n hx hb dX9_parseCart_77 rfl (lv_at hl 1 rfl) ?_
          refine va_get (D := (dC, dI)) (ci := 9) (v := .ref (qB 0)) (C := RX9) (T := TX9) (N := 10) hx hb hts (fun w h => List.mem_cons_of_mem _ (List.mem_append_right _ (List.mem_append_left _ h))) hown hK hP 0 rfl rfl 1 (by decide) (hts (.fieldLink RX9 18 "SagMemory$Tape" "read" "LSagMemory$Valley;") (wl_mem 0 rfl)) (fun _ h9 => h9) rfl dX9_parseCart_78 ?_
          refine va_get (D := (dC, dI)) (ci := 10) (v := .ref (qB 4)) (C := RX10) (T := TX10) (N := 16) hx hb hts (fun w h => List.mem_cons_of_mem _ (List.mem_append_right _ (List.mem_append_right _ (List.mem_append_left _ h)))) hown hK hP 2 rfl rfl 3 (by decide) (hts (.fieldLink RX9 127 "SagMemory$Valley" "ways" "[I") (wl_mem 15 rfl)) (fun _ h9 => h9) rfl dX9_parseCart_81 ?_
          refine lv_iload_n hx hb dX9_parseCart_84 rfl (lv_at hl 0 rfl) ?_
          refine lv_aload_n hx hb dX9_parseCart_85 rfl (lv_at hl 1 rfl) ?_
          refine va_get (D := (dC, dI)) (ci := 9) (v := .int (vz33 4)) (C := RX9) (T := TX9) (N := 10) hx hb hts (fun w h => List.mem_cons_of_mem _ (List.mem_append_right _ (List.mem_append_left _ h))) hown hK hP 0 rfl rfl 9 (by decide) (hts (.fieldLink RX9 96 "SagMemory$Tape" "number" "I") (wl_mem 10 rfl)) (fun _ h9 => h9) rfl dX9_parseCart_86 ?_
          refine va_iast hx hb hK hP hD hS 6 0 rfl rfl (vp_in_iff.mpr ⟨by omega, by omega⟩) dX9_parseCart_89 (fun H locs hP hD hS => ?_)
          obtain ⟨fz40, efz40, hP, hD⟩ : ∃ fz40 : Nat → Int32, fz40 = upd (aB 2) (cB 0).toNatClampNeg (vz33 4) ∧ va_P (dC, dI) vwCl (List.flatten [(wTape qT k (qB 0) vz33 tz34 az35), (wValley qB k vB bB cB wB (va_up aB 2 fz40) (va_up eB 0 fz19))] ++ List.flatten ([] : List va_W)) H ∧ va_D A (List.flatten [(wTape qT k (qB 0) vz33 tz34 az35), (wValley qB k vB bB cB wB (va_up aB 2 fz40) (va_up eB 0 fz19))] ++ List.flatten ([] : List va_W)) := ⟨_, rfl, hP, hD⟩
          have kfz40 : fz40 (cB 0).toNatClampNeg = (vz33 4) := by rw [efz40]; exact pk_us
          refine lv_aload_n hx hb dX9_parseCart_90 rfl (lv_at hl 1 rfl) ?_
          refine va_get (D := (dC, dI)) (ci := 9) (v := .ref (qB 0)) (C := RX9) (T := TX9) (N := 10) hx hb hts (fun w h => List.mem_cons_of_mem _ (List.mem_append_right _ (List.mem_append_left _ h))) hown hK hP 0 rfl rfl 1 (by decide) (hts (.fieldLink RX9 18 "SagMemory$Tape" "read" "LSagMemory$Valley;") (wl_mem 0 rfl)) (fun _ h9 => h9) rfl dX9_parseCart_91 ?_
          refine lv_dup hx hb dX9_parseCart_94 rfl ?_
          refine va_get (D := (dC, dI)) (ci := 10) (v := .int (cB 0)) (C := RX10) (T := TX10) (N := 16) hx hb hts (fun w h => List.mem_cons_of_mem _ (List.mem_append_right _ (List.mem_append_right _ (List.mem_append_left _ h)))) hown hK hP 2 rfl rfl 12 (by decide) (hts (.fieldLink RX9 119 "SagMemory$Valley" "carts" "I") (wl_mem 1 rfl)) (fun _ h9 => h9) rfl dX9_parseCart_95 ?_
          refine lv_iconst (v := 1) hx hb dX9_parseCart_98 (by decide) ?_
          refine lv_iadd hx hb dX9_parseCart_99 ?_
          refine lv_topi (fun xz41 exz41 => ?_)
          have fxz41 : xz41.toInt = (cB 0).toInt + (1 : Int) := by rw [exz41]; exact fb_addI (x := (cB 0)) (y := (1 : Int32)) (by show -2147483648 ≤ (cB 0).toInt + (1 : Int); omega) (by show (cB 0).toInt + (1 : Int) < 2147483648; omega)
          refine va_put (D := (dC, dI)) (ci := 10) (v := .int xz41) (ty := .int) (C := RX10) (T := TX10) (N := 16) hx hb hts (fun w h => List.mem_cons_of_mem _ (List.mem_append_right _ (List.mem_append_right _ (List.mem_append_left _ h)))) tyX10 tyX10_ok nmX10 hown hK hP hD hS 2 rfl rfl 12 (by decide) (hts (.fieldLink RX9 119 "SagMemory$Valley" "carts" "I") (wl_mem 1 rfl)) (fun _ h9 => h9) rfl (by decide +kernel) rfl rfl (Nat.le_of_ble_eq_true rfl) dX9_parseCart_100 (fun H locs hP hD hS => ?_)
          have hP : va_P (dC, dI) vwCl (List.flatten [(wTape qT k (qB 0) vz33 tz34 az35), (wValley qB k vB bB (va_up cB 0 xz41) wB (va_up aB 2 fz40) (va_up eB 0 fz19))] ++ List.flatten ([] : List va_W)) H := hP
          have hD : va_D A (List.flatten [(wTape qT k (qB 0) vz33 tz34 az35), (wValley qB k vB bB (va_up cB 0 xz41) wB (va_up aB 2 fz40) (va_up eB 0 fz19))] ++ List.flatten ([] : List va_W)) := hD
          refine lv_iconst (v := 1) hx hb dX9_parseCart_103 (by decide) ?_
          rw [hQ]
          exact W.zret (v := (1 : Int32)) hx hb hr rfl (fun t ht hW => ⟨⟨(1 : Int32), (), rfl, (by show (1 : Int) = 0 ∨ (1 : Int) = 1; omega), vz33, tz34, az35, vB, bB, (va_up cB 0 xz41), wB, (va_up aB 2 fz40), (va_up eB 0 fz19), htz34, hbB, (rg_up hcB (by show 0 ≤ xz41.toInt ∧ xz41.toInt ≤ 7; omega)), hwB, (rga_up heB hfz19), by rw [ht]; exact hP⟩, hS.F ht⟩) hS.2.2 dX9_parseCart_104
        · skip
          have zz42 : rz32.toInt = (0 : Int) := zi_eq.mp cz38
          refine lv_iconst (v := 0) hx hb dX9_parseCart_75 (by decide) ?_
          rw [hQ]
          exact W.zret (v := (0 : Int32)) hx hb hr rfl (fun t ht hW => ⟨⟨(0 : Int32), (), rfl, (by show (0 : Int) = 0 ∨ (0 : Int) = 1; omega), vz33, tz34, az35, vB, bB, cB, wB, aB, (va_up eB 0 fz19), htz34, hbB, hcB, hwB, (rga_up heB hfz19), by rw [ht]; exact hP⟩, hS.F ht⟩) hS.2.2 dX9_parseCart_76
    · skip
      have zz43 : rz11.toInt = (0 : Int) := zi_eq.mp cz17
      refine lv_iconst (v := 0) hx hb dX9_parseCart_34 (by decide) ?_
      rw [hQ]
      exact W.zret (v := (0 : Int32)) hx hb hr rfl (fun t ht hW => ⟨⟨(0 : Int32), (), rfl, (by show (0 : Int) = 0 ∨ (0 : Int) = 1; omega), vz12, tz13, az14, vB, bB, cB, wB, aB, eB, htz13, hbB, hcB, hwB, heB, by rw [ht]; exact hP⟩, hS.F ht⟩) hS.2.2 dX9_parseCart_35
  · skip
    have zz44 : ¬ (cB 0).toInt < (7 : Int) := fun h9 => cz2 (zi_lt.mpr h9)
    refine lv_aload_n hx hb dX9_parseCart_14 rfl (lv_at hl 1 rfl) ?_
    refine lv_iconst (v := 3) hx hb dX9_parseCart_15 (by decide) ?_
    have hPc := hP.sub (ws' := (List.flatten [(wTape qT k (qB 0) vT tT aT)] ++ List.flatten ([] : List va_W))) [0, 1] rfl
    have hC : [0, 1].map (fun i => (List.flatten [(wTape qT k (qB 0) vT tT aT), (wValley qB k vB bB cB wB aB eB)] ++ List.flatten ([] : List va_W))[i]?) = (List.flatten [(wTape qT k (qB 0) vT tT aT)] ++ List.flatten ([] : List va_W)).map some := rfl
    have hDc := hD.sub [0, 1] (by decide) hC
    have hFc := va_free hD hS hA [0, 1] hC
    refine va_calli (va_runV (As := [.int 3]) (rest := []) ⟨hx, hb, hml, hown, hts⟩ (c_X9_fail l dC dI k s.heap.size qT (qB 0) vT tT aT (3 : Int32) htT) (cwV 1 hts (gk_V (wl_mem 16 rfl) (wl_mem 17 rfl) (wl_mem 18 rfl) (wl_mem 5 rfl) (fun w h => List.mem_cons_of_mem _ (List.mem_append_right _ (List.mem_append_right _ (List.mem_append_right _ (List.mem_append_right _ (List.mem_append_right _ (List.mem_append_right _ (List.mem_append_left _ h)))))))) wkg_c_X9_fail) rfl rfl rfl (by decide +kernel) ⟨Nat.le_of_ble_eq_true rfl, Nat.le_of_ble_eq_true rfl⟩) ⟨fun a U g mk q => by obtain ⟨q0, q1, qP, qK, qD⟩ := q; exact ⟨q0, q1, qP, va_K.moved (u := U) (U := U.calling g mk a) (Vm.Alike.refl U.vm) qK, qD⟩, va_recv hK hPc (ci := 9) (q0 := 0) rfl rfl, fun U hU hW => ⟨rfl, by rw [hU], by rw [hU]; exact hPc, va_K.moved hW.alike hK, hDc.weaken (fun _ _ _ _ => trivial)⟩⟩ rfl rfl hl.1 rfl (lv_room (Nat.le_of_ble_eq_true rfl)) dX9_parseCart_16 ⟨Nat.le_of_ble_eq_true rfl, Nat.le_of_ble_eq_true rfl⟩) hS (fun q _ h => hFc q h) hFc (fun rz46 u t H1 locs ht hvm gz45 hB hz1 hk1 hS => ?_)
    obtain ⟨vz47, tz48, az49, htz48, hP1⟩ := hB
    rw [ht] at hP1
    obtain ⟨hP, hD⟩ := w_callR hP hD hk1 hP1 [0] rfl rfl (fun _ h => absurd h List.not_mem_nil) rfl [some 0, none] rfl rfl
    clear hPc hC hDc hFc hk1 hP1
    generalize H1 = H at hP hS ⊢
    have hP : va_P (dC, dI) vwCl (List.flatten [(wTape qT k (qB 0) vz47 tz48 az49), (wValley qB k vB bB cB wB aB eB)] ++ List.flatten ([] : List va_W)) H := hP
    have hD : va_D A (List.flatten [(wTape qT k (qB 0) vz47 tz48 az49), (wValley qB k vB bB cB wB aB eB)] ++ List.flatten ([] : List va_W)) := hD
    refine W.widen (k := 0) (n := 0) (Nat.le_refl 0) (Nat.le_refl 0) ?_
    obtain ⟨pz50, pz51⟩ := gz45
    have pz50 : rz46.toInt = 0 := pz50
    have pz51 : rz46.toInt = 0 ∨ rz46.toInt = 1 := pz51
    rw [hQ]
    exact W.zret (v := rz46) hx hb hr (zb_nar (by show rz46.toInt = 0 ∨ rz46.toInt = 1; omega)) (fun t ht hW => ⟨⟨rz46, (), rfl, (by show rz46.toInt = 0 ∨ rz46.toInt = 1; omega), vz47, tz48, az49, vB, bB, cB, wB, aB, eB, htz48, hbB, hcB, hwB, heB, by rw [ht]; exact hP⟩, hS.F ht⟩) hS.2.2 dX9_parseCart_19
def wk_c_X9_parseWard : List Cond := .code yX9_parseWard cX9_parseWard 2 (some .boolean) :: ([.fieldLink RX9 18 "SagMemory$Tape" "read" "LSagMemory$Valley;", .fieldLink RX9 130 "SagMemory$Valley" "wards" "I", .methodLink RX9 38 yX9_next, .instanceMethod yX9_next, .selects RX9 yX9_next yX9_next, .initialized RX9, .fieldLink RX9 107 "SagMemory$Valley" "bridges" "I", .methodLink RX9 92 yX9_expectNumber, .instanceMethod yX9_expectNumber, .selects RX9 yX9_expectNumber yX9_expectNumber, .fieldLink RX9 133 "SagMemory$Valley" "wardBridges" "[I", .fieldLink RX9 96 "SagMemory$Tape" "number" "I", .methodLink RX9 53 yX9_expect, .instanceMethod yX9_expect, .selects RX9 yX9_expect yX9_expect, .fieldLink RX9 138 "SagMemory$Valley" "wardOvers" "[I", .methodLink RX9 65 yX9_isWord, .instanceMethod yX9_isWord, .selects RX9 yX9_isWord yX9_isWord, .methodLink RX9 145 yX9_expectOther, .instanceMethod yX9_expectOther, .selects RX9 yX9_expectOther yX9_expectOther, .fieldLink RX9 148 "SagMemory$Valley" "wardTargets" "[I", .methodLink RX9 86 yX9_fail, .instanceMethod yX9_fail, .selects RX9 yX9_fail yX9_fail] ++ (wsX90 ++ (wsX100 ++ (wk_c_X9_next ++ (wk_c_X9_expectNumber ++ (wk_c_X9_expect ++ (wk_c_X9_isWord ++ (wk_c_X9_expectOther ++ (wk_c_X9_fail ++ [])))))))))
theorem wkg_c_X9_parseWard : wk_c_X9_parseWard.all goodWord = true := by decide +kernel
set_option maxHeartbeats 4000000 in
set_option maxRecDepth 100000 in
theorem c_X9_parseWard (l : Launch) (dC : Nat → ClassId) (dI : Nat → Nat → Nat) (k : Nat → ClassId) (sz : Nat) (adK adV ln : Nat → Nat) (by9 : Nat → Nat → Int32) (qT : Nat → Nat) (vT : Nat → Int32) (tT : Nat → Int32) (aT : Nat → Nat → Int32) (qB : Nat → Nat) (vB : Nat → Int32) (bB : Nat → Int32) (cB : Nat → Int32) (wB : Nat → Int32) (aB : Nat → Nat → Int32) (eB : Nat → Nat → Int32) (htT : Rg 0 700 tT) (hbB : Rg 0 3 bB) (hcB : Rg 0 7 cB) (hwB : Rg 0 5 wB) (heB : RgA 0 99 eB) : Met l yX9_parseWard wk_c_X9_parseWard ({ frames := 6, cells := 0, slots := 0, locals := 128 }) (va_Pc [.ref (qT 0)] (fun U => U.heap.size = sz ∧ va_P (dC, dI) vwCl (List.flatten [(wTape qT k (qB 0) vT tT aT), (wValley qB k vB bB cB wB aB eB)] ++ List.flatten ([] : List va_W)) U.heap ∧ va_K (dC, dI) vwCl (tK k) U ∧ va_D (fun _ => True) (List.flatten [(wTape qT k (qB 0) vT tT aT), (wValley qB k vB bB cB wB aB eB)] ++ List.flatten ([] : List va_W)) ∧ Zt adK adV ln by9 (va_A (List.flatten [(wTape qT k (qB 0) vT tT aT), (wValley qB k vB bB cB wB aB eB)] ++ List.flatten ([] : List va_W)) sz) U U.heap)) (va_Qi (fun (r : Int32) (_ : Unit) => (r.toInt = 0 ∨ r.toInt = 1)) (fun (_ : Unit) (t : State) => ∃ (vT' : Nat → Int32) (tT' : Nat → Int32) (aT' : Nat → Nat → Int32) (vB' : Nat → Int32) (bB' : Nat → Int32) (cB' : Nat → Int32) (wB' : Nat → Int32) (aB' : Nat → Nat → Int32) (eB' : Nat → Nat → Int32), Rg 0 700 tT' ∧ Rg 0 3 bB' ∧ Rg 0 7 cB' ∧ Rg 0 5 wB' ∧ RgA 0 99 eB' ∧ va_P (dC, dI) vwCl (List.flatten [(wTape qT k (qB 0) vT' tT' aT'), (wValley qB k vB' bB' cB' wB' aB' eB')] ++ List.flatten ([] : List va_W)) t.heap) (va_A (List.flatten [(wTape qT k (qB 0) vT tT aT), (wValley qB k vB bB cB wB aB eB)] ++ List.flatten ([] : List va_W)) sz)) 0 0 (va_A (List.flatten [(wTape qT k (qB 0) vT tT aT), (wValley qB k vB bB cB wB aB eB)] ++ List.flatten ([] : List va_W)) sz) := by
  refine Met.ofW (cc := cX9_parseWard) (maxL := 2) (ret := (some .boolean)) (by decide) rfl ?_
  intro p e s m args below meth c s₁ B hml hv
  obtain ⟨rfl, hsz, hP, hK, hD0, hZ⟩ := hv
  have hx := B.exec
  have hb := B.bytes
  have hr := B.returns
  have hts := atoms_spec (ws := wk_c_X9_parseWard) B.pre
  have hown : s.vm.findClass RX9 = some m.cls := findClass_of_methodNamed B.named
  have hlocks := B.notSynchronized
  subst hsz
  have hD := hD0.self (sz := s.heap.size)
  generalize hAe : va_A (List.flatten [(wTape qT k (qB 0) vT tT aT), (wValley qB k vB bB cB wB aB eB)] ++ List.flatten ([] : List va_W)) s.heap.size = A at hD hZ ⊢
  have hA : ∀ q : Nat, s.heap.size ≤ q → A q := fun q h => by rw [← hAe]; exact Or.inr h
  have hS : va_S A s.heap s.heap [] := va_S.rf
  have hP : va_P (dC, dI) vwCl (List.flatten [(wTape qT k (qB 0) vT tT aT), (wValley qB k vB bB cB wB aB eB)] ++ List.flatten ([] : List va_W)) s.heap := hP
  have hl := lv_entry ([.ref (qT 0)]) (n := 2) (Nat.le_of_ble_eq_true rfl)
  rw [lg_entry_eq]
  generalize (lg_sl ([.ref (qT 0)]) ++ List.replicate (2 - (lg_sl ([.ref (qT 0)])).length) Slot.unset).toArray = ls at hl ⊢
  have hl : lv_has ls 2 [(0, .ref (qT 0))] := hl
  refine w_gen (fun Q hQ => ?_)
  refine lv_aload_n hx hb dX9_parseWard_0 rfl (lv_at hl 0 rfl) ?_
  refine va_get (D := (dC, dI)) (ci := 9) (v := .ref (qB 0)) (C := RX9) (T := TX9) (N := 10) hx hb hts (fun w h => List.mem_cons_of_mem _ (List.mem_append_right _ (List.mem_append_left _ h))) hown hK hP 0 rfl rfl 1 (by decide) (hts (.fieldLink RX9 18 "SagMemory$Tape" "read" "LSagMemory$Valley;") (wl_mem 0 rfl)) (fun _ h9 => h9) rfl dX9_parseWard_1 ?_
  refine va_get (D := (dC, dI)) (ci := 10) (v := .int (wB 0)) (C := RX10) (T := TX10) (N := 16) hx hb hts (fun w h => List.mem_cons_of_mem _ (List.mem_append_right _ (List.mem_append_right _ (List.mem_append_left _ h)))) hown hK hP 2 rfl rfl 13 (by decide) (hts (.fieldLink RX9 130 "SagMemory$Valley" "wards" "I") (wl_mem 1 rfl)) (fun _ h9 => h9) rfl dX9_parseWard_4 ?_
  have bz1 := hwB 0
  refine lv_istore_n (lv' := [(1, .int (wB 0)), (0, .ref (qT 0))]) hx hb dX9_parseWard_7 rfl hl (by decide) rfl (fun ls hl => ?_)
  refine lv_iload_n hx hb dX9_parseWard_8 rfl (lv_at hl 0 rfl) ?_
  refine lv_iconst (v := 5) hx hb dX9_parseWard_9 (by decide) ?_
  refine lv_icmp_lt (tgt := 19) hx hb dX9_parseWard_10 (by decide) (fun cz2 => ?_) (fun cz2 => ?_)
  · skip
    have zz3 : (wB 0).toInt < (5 : Int) := zi_lt.mp cz2
    refine lv_aload_n hx hb dX9_parseWard_19 rfl (lv_at hl 1 rfl) ?_
    have hPc := hP.sub (ws' := (List.flatten [(wTape qT k (qB 0) vT tT aT)] ++ List.flatten ([] : List va_W))) [0, 1] rfl
    have hC : [0, 1].map (fun i => (List.flatten [(wTape qT k (qB 0) vT tT aT), (wValley qB k vB bB cB wB aB eB)] ++ List.flatten ([] : List va_W))[i]?) = (List.flatten [(wTape qT k (qB 0) vT tT aT)] ++ List.flatten ([] : List va_W)).map some := rfl
    have hDc := hD.sub [0, 1] (by decide) hC
    have hFc := va_free hD hS hA [0, 1] hC
    refine va_callv (va_runV (As := []) (rest := []) ⟨hx, hb, hml, hown, hts⟩ (c_X9_next l dC dI k s.heap.size qT (qB 0) vT tT aT htT) (cwV 0 hts (gk_V (wl_mem 2 rfl) (wl_mem 3 rfl) (wl_mem 4 rfl) (wl_mem 5 rfl) (fun w h => List.mem_cons_of_mem _ (List.mem_append_right _ (List.mem_append_right _ (List.mem_append_right _ (List.mem_append_left _ h))))) wkg_c_X9_next) rfl rfl rfl (by decide +kernel) ⟨Nat.le_of_ble_eq_true rfl, Nat.le_of_ble_eq_true rfl⟩) ⟨fun a U g mk q => by obtain ⟨q0, q1, qP, qK, qD⟩ := q; exact ⟨q0, q1, qP, va_K.moved (u := U) (U := U.calling g mk a) (Vm.Alike.refl U.vm) qK, qD⟩, va_recv hK hPc (ci := 9) (q0 := 0) rfl rfl, fun U hU hW => ⟨rfl, by rw [hU], by rw [hU]; exact hPc, va_K.moved hW.alike hK, hDc.weaken (fun _ _ _ _ => trivial)⟩⟩ rfl rfl hl.1 rfl (lv_room (Nat.le_of_ble_eq_true rfl)) dX9_parseWard_20 ⟨Nat.le_of_ble_eq_true rfl, Nat.le_of_ble_eq_true rfl⟩) hS (fun q _ h => hFc q h) hFc (fun u t H1 locs ht hvm gz4 hB hz1 hk1 hS => ?_)
    obtain ⟨vz6, tz7, az8, htz7, pz9, hP1⟩ := hB
    rw [ht] at hP1
    obtain ⟨hP, hD⟩ := w_callR hP hD hk1 hP1 [0] rfl rfl (fun _ h => absurd h List.not_mem_nil) rfl [some 0, none] rfl rfl
    clear hPc hC hDc hFc hk1 hP1
    generalize H1 = H at hP hS ⊢
    have hP : va_P (dC, dI) vwCl (List.flatten [(wTape qT k (qB 0) vz6 tz7 az8), (wValley qB k vB bB cB wB aB eB)] ++ List.flatten ([] : List va_W)) H := hP
    have hD : va_D A (List.flatten [(wTape qT k (qB 0) vz6 tz7 az8), (wValley qB k vB bB cB wB aB eB)] ++ List.flatten ([] : List va_W)) := hD
    refine W.widen (k := 0) (n := 0) (Nat.le_refl 0) (Nat.le_refl 0) ?_
    have pz9 : (vz6 4).toInt = (vT 4).toInt := pz9
    refine lv_aload_n hx hb dX9_parseWard_23 rfl (lv_at hl 1 rfl) ?_
    refine lv_iconst (v := 0) hx hb dX9_parseWard_24 (by decide) ?_
    refine lv_aload_n hx hb dX9_parseWard_25 rfl (lv_at hl 1 rfl) ?_
    refine va_get (D := (dC, dI)) (ci := 9) (v := .ref (qB 0)) (C := RX9) (T := TX9) (N := 10) hx hb hts (fun w h => List.mem_cons_of_mem _ (List.mem_append_right _ (List.mem_append_left _ h))) hown hK hP 0 rfl rfl 1 (by decide) (hts (.fieldLink RX9 18 "SagMemory$Tape" "read" "LSagMemory$Valley;") (wl_mem 0 rfl)) (fun _ h9 => h9) rfl dX9_parseWard_26 ?_
    refine va_get (D := (dC, dI)) (ci := 10) (v := .int (bB 0)) (C := RX10) (T := TX10) (N := 16) hx hb hts (fun w h => List.mem_cons_of_mem _ (List.mem_append_right _ (List.mem_append_right _ (List.mem_append_left _ h)))) hown hK hP 2 rfl rfl 11 (by decide) (hts (.fieldLink RX9 107 "SagMemory$Valley" "bridges" "I") (wl_mem 6 rfl)) (fun _ h9 => h9) rfl dX9_parseWard_29 ?_
    have bz10 := hbB 0
    refine lv_iconst (v := 1) hx hb dX9_parseWard_32 (by decide) ?_
    refine lv_isub hx hb dX9_parseWard_33 ?_
    refine lv_topi (fun xz11 exz11 => ?_)
    have fxz11 : xz11.toInt = (bB 0).toInt - (1 : Int) := by rw [exz11]; exact fb_subI (x := (bB 0)) (y := (1 : Int32)) (by show -2147483648 ≤ (bB 0).toInt - (1 : Int); omega) (by show (bB 0).toInt - (1 : Int) < 2147483648; omega)
    have hPc := hP.sub (ws' := (List.flatten [(wTape qT k (qB 0) vz6 tz7 az8)] ++ List.flatten ([] : List va_W))) [0, 1] rfl
    have hC : [0, 1].map (fun i => (List.flatten [(wTape qT k (qB 0) vz6 tz7 az8), (wValley qB k vB bB cB wB aB eB)] ++ List.flatten ([] : List va_W))[i]?) = (List.flatten [(wTape qT k (qB 0) vz6 tz7 az8)] ++ List.flatten ([] : List va_W)).map some := rfl
    have hDc := hD.sub [0, 1] (by decide) hC
    have hFc := va_free hD hS hA [0, 1] hC
    refine va_calli (va_runV (As := [.int 0, .int xz11]) (rest := []) ⟨hx, hb, hml, hown, hts⟩ (c_X9_expectNumber l dC dI k H.size qT (qB 0) vz6 tz7 az8 (0 : Int32) xz11 htz7) (cwV 2 hts (gk_V (wl_mem 7 rfl) (wl_mem 8 rfl) (wl_mem 9 rfl) (wl_mem 5 rfl) (fun w h => List.mem_cons_of_mem _ (List.mem_append_right _ (List.mem_append_right _ (List.mem_append_right _ (List.mem_append_right _ (List.mem_append_left _ h)))))) wkg_c_X9_expectNumber) rfl rfl rfl (by decide +kernel) ⟨Nat.le_of_ble_eq_true rfl, Nat.le_of_ble_eq_true rfl⟩) ⟨fun a U g mk q => by obtain ⟨q0, q1, qP, qK, qD⟩ := q; exact ⟨q0, q1, qP, va_K.moved (u := U) (U := U.calling g mk a) (Vm.Alike.refl U.vm) qK, qD⟩, va_recv hK hPc (ci := 9) (q0 := 0) rfl rfl, fun U hU hW => ⟨rfl, by rw [hU], by rw [hU]; exact hPc, va_K.moved hW.alike hK, hDc.weaken (fun _ _ _ _ => trivial)⟩⟩ rfl rfl hl.1 rfl (lv_room (Nat.le_of_ble_eq_true rfl)) dX9_parseWard_34 ⟨Nat.le_of_ble_eq_true rfl, Nat.le_of_ble_eq_true rfl⟩) hS (fun q _ h => hFc q h) hFc (fun rz13 u t H1 locs ht hvm gz12 hB hz1 hk1 hS => ?_)
    obtain rfl := gz12
    obtain ⟨vz14, tz15, az16, htz15, pz17, pz18, hP1⟩ := hB
    rw [ht] at hP1
    obtain ⟨hP, hD⟩ := w_callR hP hD hk1 hP1 [0] rfl rfl (fun _ h => absurd h List.not_mem_nil) rfl [some 0, none] rfl rfl
    clear hPc hC hDc hFc hk1 hP1
    generalize H1 = H at hP hS ⊢
    have hP : va_P (dC, dI) vwCl (List.flatten [(wTape qT k (qB 0) vz14 tz15 az16), (wValley qB k vB bB cB wB aB eB)] ++ List.flatten ([] : List va_W)) H := hP
    have hD : va_D A (List.flatten [(wTape qT k (qB 0) vz14 tz15 az16), (wValley qB k vB bB cB wB aB eB)] ++ List.flatten ([] : List va_W)) := hD
    refine W.widen (k := 0) (n := 0) (Nat.le_refl 0) (Nat.le_refl 0) ?_
    have pz17 : rz13.toInt = 0 ∨ ((0 : Int) ≤ (vz14 4).toInt ∧ (vz14 4).toInt ≤ xz11.toInt) := pz17
    have pz18 : rz13.toInt = 0 ∨ rz13.toInt = 1 := pz18
    refine lv_if_ne (tgt := 42) hx hb dX9_parseWard_37 (by decide) (fun cz19 => ?_) (fun cz19 => ?_)
    · skip
      have zz20 : ¬ rz13.toInt = (0 : Int) := fun h9 => cz19 (zi_eq.mpr h9)
      refine lv_aload_n hx hb dX9_parseWard_42 rfl (lv_at hl 1 rfl) ?_
      refine va_get (D := (dC, dI)) (ci := 9) (v := .ref (qB 0)) (C := RX9) (T := TX9) (N := 10) hx hb hts (fun w h => List.mem_cons_of_mem _ (List.mem_append_right _ (List.mem_append_left _ h))) hown hK hP 0 rfl rfl 1 (by decide) (hts (.fieldLink RX9 18 "SagMemory$Tape" "read" "LSagMemory$Valley;") (wl_mem 0 rfl)) (fun _ h9 => h9) rfl dX9_parseWard_43 ?_
      refine va_get (D := (dC, dI)) (ci := 10) (v := .ref (qB 5)) (C := RX10) (T := TX10) (N := 16) hx hb hts (fun w h => List.mem_cons_of_mem _ (List.mem_append_right _ (List.mem_append_right _ (List.mem_append_left _ h)))) hown hK hP 2 rfl rfl 4 (by decide) (hts (.fieldLink RX9 133 "SagMemory$Valley" "wardBridges" "[I") (wl_mem 10 rfl)) (fun _ h9 => h9) rfl dX9_parseWard_46 ?_
      refine lv_iload_n hx hb dX9_parseWard_49 rfl (lv_at hl 0 rfl) ?_
      refine lv_aload_n hx hb dX9_parseWard_50 rfl (lv_at hl 1 rfl) ?_
      refine va_get (D := (dC, dI)) (ci := 9) (v := .int (vz14 4)) (C := RX9) (T := TX9) (N := 10) hx hb hts (fun w h => List.mem_cons_of_mem _ (List.mem_append_right _ (List.mem_append_left _ h))) hown hK hP 0 rfl rfl 9 (by decide) (hts (.fieldLink RX9 96 "SagMemory$Tape" "number" "I") (wl_mem 11 rfl)) (fun _ h9 => h9) rfl dX9_parseWard_51 ?_
      refine va_iast hx hb hK hP hD hS 7 0 rfl rfl (vp_in_iff.mpr ⟨by omega, by omega⟩) dX9_parseWard_54 (fun H locs hP hD hS => ?_)
      obtain ⟨fz21, efz21, hP, hD⟩ : ∃ fz21 : Nat → Int32, fz21 = upd (aB 3) (wB 0).toNatClampNeg (vz14 4) ∧ va_P (dC, dI) vwCl (List.flatten [(wTape qT k (qB 0) vz14 tz15 az16), (wValley qB k vB bB cB wB (va_up aB 3 fz21) eB)] ++ List.flatten ([] : List va_W)) H ∧ va_D A (List.flatten [(wTape qT k (qB 0) vz14 tz15 az16), (wValley qB k vB bB cB wB (va_up aB 3 fz21) eB)] ++ List.flatten ([] : List va_W)) := ⟨_, rfl, hP, hD⟩
      have kfz21 : fz21 (wB 0).toNatClampNeg = (vz14 4) := by rw [efz21]; exact pk_us
      refine lv_aload_n hx hb dX9_parseWard_55 rfl (lv_at hl 1 rfl) ?_
      refine va_ldcS (own := RX9) (index := 136) (tx := "over") (q := adK 10) hx hb hown (hZ.2.2.2 10 (by decide)) dX9_parseWard_56 ?_
      have hPc := hP.sub (ws' := (List.flatten [(wTape qT k (qB 0) vz14 tz15 az16)] ++ List.flatten ([] : List va_W))) [0, 1] rfl
      have hC : [0, 1].map (fun i => (List.flatten [(wTape qT k (qB 0) vz14 tz15 az16), (wValley qB k vB bB cB wB (va_up aB 3 fz21) eB)] ++ List.flatten ([] : List va_W))[i]?) = (List.flatten [(wTape qT k (qB 0) vz14 tz15 az16)] ++ List.flatten ([] : List va_W)).map some := rfl
      have hDc := hD.sub [0, 1] (by decide) hC
      have hFc := va_free hD hS hA [0, 1] hC
      refine va_calli (va_runV (As := [.ref (adK 10)]) (rest := []) ⟨hx, hb, hml, hown, hts⟩ (c_X9_expect l dC dI k H.size adK adV ln by9 qT (qB 0) vz14 tz15 az16 10 (by decide) htz15) (cwV 1 hts (gk_V (wl_mem 12 rfl) (wl_mem 13 rfl) (wl_mem 14 rfl) (wl_mem 5 rfl) (fun w h => List.mem_cons_of_mem _ (List.mem_append_right _ (List.mem_append_right _ (List.mem_append_right _ (List.mem_append_right _ (List.mem_append_right _ (List.mem_append_left _ h))))))) wkg_c_X9_expect) rfl rfl rfl (by decide +kernel) ⟨Nat.le_of_ble_eq_true rfl, Nat.le_of_ble_eq_true rfl⟩) ⟨fun a U g mk q => by obtain ⟨q0, q1, qP, qK, qD, qZ⟩ := q; exact ⟨q0, q1, qP, va_K.moved (u := U) (U := U.calling g mk a) (Vm.Alike.refl U.vm) qK, qD, qZ.calling⟩, va_recv hK hPc (ci := 9) (q0 := 0) rfl rfl, fun U hU hW => ⟨rfl, by rw [hU], by rw [hU]; exact hPc, va_K.moved hW.alike hK, hDc.weaken (fun _ _ _ _ => trivial), hZ.pass hS hU hW hFc⟩⟩ rfl rfl hl.1 rfl (lv_room (Nat.le_of_ble_eq_true rfl)) dX9_parseWard_58 ⟨Nat.le_of_ble_eq_true rfl, Nat.le_of_ble_eq_true rfl⟩) hS (fun q _ h => hFc q h) hFc (fun rz23 u t H1 locs ht hvm gz22 hB hz1 hk1 hS => ?_)
      obtain ⟨vz24, tz25, az26, htz25, hP1⟩ := hB
      rw [ht] at hP1
      obtain ⟨hP, hD⟩ := w_callR hP hD hk1 hP1 [0] rfl rfl (fun _ h => absurd h List.not_mem_nil) rfl [some 0, none] rfl rfl
      clear hPc hC hDc hFc hk1 hP1
      generalize H1 = H at hP hS ⊢
      have hP : va_P (dC, dI) vwCl (List.flatten [(wTape qT k (qB 0) vz24 tz25 az26), (wValley qB k vB bB cB wB (va_up aB 3 fz21) eB)] ++ List.flatten ([] : List va_W)) H := hP
      have hD : va_D A (List.flatten [(wTape qT k (qB 0) vz24 tz25 az26), (wValley qB k vB bB cB wB (va_up aB 3 fz21) eB)] ++ List.flatten ([] : List va_W)) := hD
      refine W.widen (k := 0) (n := 0) (Nat.le_refl 0) (Nat.le_refl 0) ?_
      have pz27 := gz22
      have pz27 : rz23.toInt = 0 ∨ rz23.toInt = 1 := pz27
      refine lv_if_eq (tgt := 74) hx hb dX9_parseWard_61 (by decide) (fun cz28 => ?_) (fun cz28 => ?_)
      · skip
        have zz29 : rz23.toInt = (0 : Int) := zi_eq.mp cz28
        refine lv_iconst (v := 0) hx hb dX9_parseWard_74 (by decide) ?_
        rw [hQ]
        exact W.zret (v := (0 : Int32)) hx hb hr rfl (fun t ht hW => ⟨⟨(0 : Int32), (), rfl, (by show (0 : Int) = 0 ∨ (0 : Int) = 1; omega), vz24, tz25, az26, vB, bB, cB, wB, (va_up aB 3 fz21), eB, htz25, hbB, hcB, hwB, heB, by rw [ht]; exact hP⟩, hS.F ht⟩) hS.2.2 dX9_parseWard_75
      · skip
        have zz30 : ¬ rz23.toInt = (0 : Int) := fun h9 => cz28 (zi_eq.mpr h9)
        refine lv_aload_n hx hb dX9_parseWard_64 rfl (lv_at hl 1 rfl) ?_
        refine lv_iconst (v := 0) hx hb dX9_parseWard_65 (by decide) ?_
        refine lv_bipush (v := 99) hx hb dX9_parseWard_66 (by decide) ?_
        have hPc := hP.sub (ws' := (List.flatten [(wTape qT k (qB 0) vz24 tz25 az26)] ++ List.flatten ([] : List va_W))) [0, 1] rfl
        have hC : [0, 1].map (fun i => (List.flatten [(wTape qT k (qB 0) vz24 tz25 az26), (wValley qB k vB bB cB wB (va_up aB 3 fz21) eB)] ++ List.flatten ([] : List va_W))[i]?) = (List.flatten [(wTape qT k (qB 0) vz24 tz25 az26)] ++ List.flatten ([] : List va_W)).map some := rfl
        have hDc := hD.sub [0, 1] (by decide) hC
        have hFc := va_free hD hS hA [0, 1] hC
        refine va_calli (va_runV (As := [.int 0, .int 99]) (rest := []) ⟨hx, hb, hml, hown, hts⟩ (c_X9_expectNumber l dC dI k H.size qT (qB 0) vz24 tz25 az26 (0 : Int32) (99 : Int32) htz25) (cwV 2 hts (gk_V (wl_mem 7 rfl) (wl_mem 8 rfl) (wl_mem 9 rfl) (wl_mem 5 rfl) (fun w h => List.mem_cons_of_mem _ (List.mem_append_right _ (List.mem_append_right _ (List.mem_append_right _ (List.mem_append_right _ (List.mem_append_left _ h)))))) wkg_c_X9_expectNumber) rfl rfl rfl (by decide +kernel) ⟨Nat.le_of_ble_eq_true rfl, Nat.le_of_ble_eq_true rfl⟩) ⟨fun a U g mk q => by obtain ⟨q0, q1, qP, qK, qD⟩ := q; exact ⟨q0, q1, qP, va_K.moved (u := U) (U := U.calling g mk a) (Vm.Alike.refl U.vm) qK, qD⟩, va_recv hK hPc (ci := 9) (q0 := 0) rfl rfl, fun U hU hW => ⟨rfl, by rw [hU], by rw [hU]; exact hPc, va_K.moved hW.alike hK, hDc.weaken (fun _ _ _ _ => trivial)⟩⟩ rfl rfl hl.1 rfl (lv_room (Nat.le_of_ble_eq_true rfl)) dX9_parseWard_68 ⟨Nat.le_of_ble_eq_true rfl, Nat.le_of_ble_eq_true rfl⟩) hS (fun q _ h => hFc q h) hFc (fun rz32 u t H1 locs ht hvm gz31 hB hz1 hk1 hS => ?_)
        obtain rfl := gz31
        obtain ⟨vz33, tz34, az35, htz34, pz36, pz37, hP1⟩ := hB
        rw [ht] at hP1
        obtain ⟨hP, hD⟩ := w_callR hP hD hk1 hP1 [0] rfl rfl (fun _ h => absurd h List.not_mem_nil) rfl [some 0, none] rfl rfl
        clear hPc hC hDc hFc hk1 hP1
        generalize H1 = H at hP hS ⊢
        have hP : va_P (dC, dI) vwCl (List.flatten [(wTape qT k (qB 0) vz33 tz34 az35), (wValley qB k vB bB cB wB (va_up aB 3 fz21) eB)] ++ List.flatten ([] : List va_W)) H := hP
        have hD : va_D A (List.flatten [(wTape qT k (qB 0) vz33 tz34 az35), (wValley qB k vB bB cB wB (va_up aB 3 fz21) eB)] ++ List.flatten ([] : List va_W)) := hD
        refine W.widen (k := 0) (n := 0) (Nat.le_refl 0) (Nat.le_refl 0) ?_
        have pz36 : rz32.toInt = 0 ∨ ((0 : Int) ≤ (vz33 4).toInt ∧ (vz33 4).toInt ≤ (99 : Int)) := pz36
        have pz37 : rz32.toInt = 0 ∨ rz32.toInt = 1 := pz37
        refine lv_if_ne (tgt := 76) hx hb dX9_parseWard_71 (by decide) (fun cz38 => ?_) (fun cz38 => ?_)
        · skip
          have zz39 : ¬ rz32.toInt = (0 : Int) := fun h9 => cz38 (zi_eq.mpr h9)
          refine lv_aload_n hx hb dX9_parseWard_76 rfl (lv_at hl 1 rfl) ?_
          refine va_get (D := (dC, dI)) (ci := 9) (v := .ref (qB 0)) (C := RX9) (T := TX9) (N := 10) hx hb hts (fun w h => List.mem_cons_of_mem _ (List.mem_append_right _ (List.mem_append_left _ h))) hown hK hP 0 rfl rfl 1 (by decide) (hts (.fieldLink RX9 18 "SagMemory$Tape" "read" "LSagMemory$Valley;") (wl_mem 0 rfl)) (fun _ h9 => h9) rfl dX9_parseWard_77 ?_
          refine va_get (D := (dC, dI)) (ci := 10) (v := .ref (qB 6)) (C := RX10) (T := TX10) (N := 16) hx hb hts (fun w h => List.mem_cons_of_mem _ (List.mem_append_right _ (List.mem_append_right _ (List.mem_append_left _ h)))) hown hK hP 2 rfl rfl 5 (by decide) (hts (.fieldLink RX9 138 "SagMemory$Valley" "wardOvers" "[I") (wl_mem 15 rfl)) (fun _ h9 => h9) rfl dX9_parseWard_80 ?_
          refine lv_iload_n hx hb dX9_parseWard_83 rfl (lv_at hl 0 rfl) ?_
          refine lv_aload_n hx hb dX9_parseWard_84 rfl (lv_at hl 1 rfl) ?_
          refine va_get (D := (dC, dI)) (ci := 9) (v := .int (vz33 4)) (C := RX9) (T := TX9) (N := 10) hx hb hts (fun w h => List.mem_cons_of_mem _ (List.mem_append_right _ (List.mem_append_left _ h))) hown hK hP 0 rfl rfl 9 (by decide) (hts (.fieldLink RX9 96 "SagMemory$Tape" "number" "I") (wl_mem 11 rfl)) (fun _ h9 => h9) rfl dX9_parseWard_85 ?_
          refine va_iast hx hb hK hP hD hS 8 0 rfl rfl (vp_in_iff.mpr ⟨by omega, by omega⟩) dX9_parseWard_88 (fun H locs hP hD hS => ?_)
          obtain ⟨fz40, efz40, hP, hD⟩ : ∃ fz40 : Nat → Int32, fz40 = upd (aB 4) (wB 0).toNatClampNeg (vz33 4) ∧ va_P (dC, dI) vwCl (List.flatten [(wTape qT k (qB 0) vz33 tz34 az35), (wValley qB k vB bB cB wB (va_up (va_up aB 3 fz21) 4 fz40) eB)] ++ List.flatten ([] : List va_W)) H ∧ va_D A (List.flatten [(wTape qT k (qB 0) vz33 tz34 az35), (wValley qB k vB bB cB wB (va_up (va_up aB 3 fz21) 4 fz40) eB)] ++ List.flatten ([] : List va_W)) := ⟨_, rfl, hP, hD⟩
          have kfz40 : fz40 (wB 0).toNatClampNeg = (vz33 4) := by rw [efz40]; exact pk_us
          refine lv_aload_n hx hb dX9_parseWard_89 rfl (lv_at hl 1 rfl) ?_
          refine va_ldcS (own := RX9) (index := 141) (tx := "to") (q := adK 11) hx hb hown (hZ.2.2.2 11 (by decide)) dX9_parseWard_90 ?_
          have hPc := hP.sub (ws' := (List.flatten [(wTape qT k (qB 0) vz33 tz34 az35)] ++ List.flatten ([] : List va_W))) [0, 1] rfl
          have hC : [0, 1].map (fun i => (List.flatten [(wTape qT k (qB 0) vz33 tz34 az35), (wValley qB k vB bB cB wB (va_up (va_up aB 3 fz21) 4 fz40) eB)] ++ List.flatten ([] : List va_W))[i]?) = (List.flatten [(wTape qT k (qB 0) vz33 tz34 az35)] ++ List.flatten ([] : List va_W)).map some := rfl
          have hDc := hD.sub [0, 1] (by decide) hC
          have hFc := va_free hD hS hA [0, 1] hC
          refine va_calli (va_runV (As := [.ref (adK 11)]) (rest := []) ⟨hx, hb, hml, hown, hts⟩ (c_X9_expect l dC dI k H.size adK adV ln by9 qT (qB 0) vz33 tz34 az35 11 (by decide) htz34) (cwV 1 hts (gk_V (wl_mem 12 rfl) (wl_mem 13 rfl) (wl_mem 14 rfl) (wl_mem 5 rfl) (fun w h => List.mem_cons_of_mem _ (List.mem_append_right _ (List.mem_append_right _ (List.mem_append_right _ (List.mem_append_right _ (List.mem_append_right _ (List.mem_append_left _ h))))))) wkg_c_X9_expect) rfl rfl rfl (by decide +kernel) ⟨Nat.le_of_ble_eq_true rfl, Nat.le_of_ble_eq_true rfl⟩) ⟨fun a U g mk q => by obtain ⟨q0, q1, qP, qK, qD, qZ⟩ := q; exact ⟨q0, q1, qP, va_K.moved (u := U) (U := U.calling g mk a) (Vm.Alike.refl U.vm) qK, qD, qZ.calling⟩, va_recv hK hPc (ci := 9) (q0 := 0) rfl rfl, fun U hU hW => ⟨rfl, by rw [hU], by rw [hU]; exact hPc, va_K.moved hW.alike hK, hDc.weaken (fun _ _ _ _ => trivial), hZ.pass hS hU hW hFc⟩⟩ rfl rfl hl.1 rfl (lv_room (Nat.le_of_ble_eq_true rfl)) dX9_parseWard_92 ⟨Nat.le_of_ble_eq_true rfl, Nat.le_of_ble_eq_true rfl⟩) hS (fun q _ h => hFc q h) hFc (fun rz42 u t H1 locs ht hvm gz41 hB hz1 hk1 hS => ?_)
          obtain ⟨vz43, tz44, az45, htz44, hP1⟩ := hB
          rw [ht] at hP1
          obtain ⟨hP, hD⟩ := w_callR hP hD hk1 hP1 [0] rfl rfl (fun _ h => absurd h List.not_mem_nil) rfl [some 0, none] rfl rfl
          clear hPc hC hDc hFc hk1 hP1
          generalize H1 = H at hP hS ⊢
          have hP : va_P (dC, dI) vwCl (List.flatten [(wTape qT k (qB 0) vz43 tz44 az45), (wValley qB k vB bB cB wB (va_up (va_up aB 3 fz21) 4 fz40) eB)] ++ List.flatten ([] : List va_W)) H := hP
          have hD : va_D A (List.flatten [(wTape qT k (qB 0) vz43 tz44 az45), (wValley qB k vB bB cB wB (va_up (va_up aB 3 fz21) 4 fz40) eB)] ++ List.flatten ([] : List va_W)) := hD
          refine W.widen (k := 0) (n := 0) (Nat.le_refl 0) (Nat.le_refl 0) ?_
          have pz46 := gz41
          have pz46 : rz42.toInt = 0 ∨ rz42.toInt = 1 := pz46
          refine lv_if_ne (tgt := 100) hx hb dX9_parseWard_95 (by decide) (fun cz47 => ?_) (fun cz47 => ?_)
          · skip
            have zz48 : ¬ rz42.toInt = (0 : Int) := fun h9 => cz47 (zi_eq.mpr h9)
            refine lv_aload_n hx hb dX9_parseWard_100 rfl (lv_at hl 1 rfl) ?_
            refine va_ldcS (own := RX9) (index := 143) (tx := "halt") (q := adK 12) hx hb hown (hZ.2.2.2 12 (by decide)) dX9_parseWard_101 ?_
            have hPc := hP.sub (ws' := (List.flatten [(wTape qT k (qB 0) vz43 tz44 az45)])) [0, 1] rfl
            refine vp_callSi (va_Run.run (va_runV (As := [.ref (adK 12)]) (rest := []) ⟨hx, hb, hml, hown, hts⟩ (c_X9_isWord l dC dI k adK adV ln by9 qT (qB 0) vz43 tz44 az45 12 (by decide) htz44) (cwV 1 hts (gk_V (wl_mem 16 rfl) (wl_mem 17 rfl) (wl_mem 18 rfl) (wl_mem 5 rfl) (fun w h => List.mem_cons_of_mem _ (List.mem_append_right _ (List.mem_append_right _ (List.mem_append_right _ (List.mem_append_right _ (List.mem_append_right _ (List.mem_append_right _ (List.mem_append_left _ h)))))))) wkg_c_X9_isWord) rfl rfl rfl (by decide +kernel) ⟨Nat.le_of_ble_eq_true rfl, Nat.le_of_ble_eq_true rfl⟩) ⟨fun a U g mk q => by obtain ⟨q0, qP, qK, qZ⟩ := q; exact ⟨q0, qP, va_K.moved (u := U) (U := U.calling g mk a) (Vm.Alike.refl U.vm) qK, qZ.calling⟩, va_recv hK hPc (ci := 9) (q0 := 0) rfl rfl, fun U hU hW => ⟨rfl, by rw [hU]; exact hPc, va_K.moved hW.alike hK, hZ.pass hS hU hW (fun _ h => h.elim)⟩⟩ rfl rfl hl.1 rfl (lv_room (Nat.le_of_ble_eq_true rfl)) dX9_parseWard_103 ⟨Nat.le_of_ble_eq_true rfl, Nat.le_of_ble_eq_true rfl⟩)) (fun rz50 gz49 => ?_)
            clear hPc
            have pz51 := gz49
            have pz51 : rz50.toInt = 0 ∨ rz50.toInt = 1 := pz51
            have ct156_kz85 : ∀ (H : Heap) (locs : List Loc) (ls : Array Slot) (az82 : Nat → Nat → Int32) (tz83 : Nat → Int32) (vz84 : Nat → Int32), Rg 0 700 tz83 → va_P (dC, dI) vwCl (List.flatten [(wTape qT k (qB 0) vz84 tz83 az82), (wValley qB k vB bB cB wB (va_up (va_up aB 3 fz21) 4 fz40) eB)] ++ List.flatten ([] : List va_W)) H → va_D A (List.flatten [(wTape qT k (qB 0) vz84 tz83 az82), (wValley qB k vB bB cB wB (va_up (va_up aB 3 fz21) 4 fz40) eB)] ++ List.flatten ([] : List va_W)) → va_S A s.heap H locs → lv_has ls 2 [(0, .ref (qT 0)), (1, .int (wB 0))] → W p l e (headSpec wk_c_X9_parseWard ({ frames := 6, cells := 0, slots := 0, locals := 128 })).room s m ([.ref (qT 0)] : List Value).toArray below meth c H locs 0 0 Q (F0 m 156 ls []) := by
              intro H locs ls az82 tz83 vz84 htz83 hP hD hS hl
              refine lv_aload_n hx hb dX9_parseWard_156 rfl (lv_at hl 0 rfl) ?_
              refine va_get (D := (dC, dI)) (ci := 9) (v := .ref (qB 0)) (C := RX9) (T := TX9) (N := 10) hx hb hts (fun w h => List.mem_cons_of_mem _ (List.mem_append_right _ (List.mem_append_left _ h))) hown hK hP 0 rfl rfl 1 (by decide) (hts (.fieldLink RX9 18 "SagMemory$Tape" "read" "LSagMemory$Valley;") (wl_mem 0 rfl)) (fun _ h9 => h9) rfl dX9_parseWard_157 ?_
              refine va_get (D := (dC, dI)) (ci := 10) (v := .ref (qB 7)) (C := RX10) (T := TX10) (N := 16) hx hb hts (fun w h => List.mem_cons_of_mem _ (List.mem_append_right _ (List.mem_append_right _ (List.mem_append_left _ h)))) hown hK hP 2 rfl rfl 6 (by decide) (hts (.fieldLink RX9 148 "SagMemory$Valley" "wardTargets" "[I") (wl_mem 22 rfl)) (fun _ h9 => h9) rfl dX9_parseWard_160 ?_
              refine lv_iload_n hx hb dX9_parseWard_163 rfl (lv_at hl 1 rfl) ?_
              refine lv_aload_n hx hb dX9_parseWard_164 rfl (lv_at hl 0 rfl) ?_
              refine va_get (D := (dC, dI)) (ci := 9) (v := .int (vz84 4)) (C := RX9) (T := TX9) (N := 10) hx hb hts (fun w h => List.mem_cons_of_mem _ (List.mem_append_right _ (List.mem_append_left _ h))) hown hK hP 0 rfl rfl 9 (by decide) (hts (.fieldLink RX9 96 "SagMemory$Tape" "number" "I") (wl_mem 11 rfl)) (fun _ h9 => h9) rfl dX9_parseWard_165 ?_
              refine va_iast hx hb hK hP hD hS 9 0 rfl rfl (vp_in_iff.mpr ⟨by omega, by omega⟩) dX9_parseWard_168 (fun H locs hP hD hS => ?_)
              obtain ⟨fz86, efz86, hP, hD⟩ : ∃ fz86 : Nat → Int32, fz86 = upd (aB 5) (wB 0).toNatClampNeg (vz84 4) ∧ va_P (dC, dI) vwCl (List.flatten [(wTape qT k (qB 0) vz84 tz83 az82), (wValley qB k vB bB cB wB (va_up (va_up (va_up aB 3 fz21) 4 fz40) 5 fz86) eB)] ++ List.flatten ([] : List va_W)) H ∧ va_D A (List.flatten [(wTape qT k (qB 0) vz84 tz83 az82), (wValley qB k vB bB cB wB (va_up (va_up (va_up aB 3 fz21) 4 fz40) 5 fz86) eB)] ++ List.flatten ([] : List va_W)) := ⟨_, rfl, hP, hD⟩
              have kfz86 : fz86 (wB 0).toNatClampNeg = (vz84 4) := by rw [efz86]; exact pk_us
              refine lv_aload_n hx hb dX9_parseWard_169 rfl (lv_at hl 0 rfl) ?_
              refine va_get (D := (dC, dI)) (ci := 9) (v := .ref (qB 0)) (C := RX9) (T := TX9) (N := 10) hx hb hts (fun w h => List.mem_cons_of_mem _ (List.mem_append_right _ (List.mem_append_left _ h))) hown hK hP 0 rfl rfl 1 (by decide) (hts (.fieldLink RX9 18 "SagMemory$Tape" "read" "LSagMemory$Valley;") (wl_mem 0 rfl)) (fun _ h9 => h9) rfl dX9_parseWard_170 ?_
              refine lv_dup hx hb dX9_parseWard_173 rfl ?_
              refine va_get (D := (dC, dI)) (ci := 10) (v := .int (wB 0)) (C := RX10) (T := TX10) (N := 16) hx hb hts (fun w h => List.mem_cons_of_mem _ (List.mem_append_right _ (List.mem_append_right _ (List.mem_append_left _ h)))) hown hK hP 2 rfl rfl 13 (by decide) (hts (.fieldLink RX9 130 "SagMemory$Valley" "wards" "I") (wl_mem 1 rfl)) (fun _ h9 => h9) rfl dX9_parseWard_174 ?_
              refine lv_iconst (v := 1) hx hb dX9_parseWard_177 (by decide) ?_
              refine lv_iadd hx hb dX9_parseWard_178 ?_
              refine lv_topi (fun xz87 exz87 => ?_)
              have fxz87 : xz87.toInt = (wB 0).toInt + (1 : Int) := by rw [exz87]; exact fb_addI (x := (wB 0)) (y := (1 : Int32)) (by show -2147483648 ≤ (wB 0).toInt + (1 : Int); omega) (by show (wB 0).toInt + (1 : Int) < 2147483648; omega)
              refine va_put (D := (dC, dI)) (ci := 10) (v := .int xz87) (ty := .int) (C := RX10) (T := TX10) (N := 16) hx hb hts (fun w h => List.mem_cons_of_mem _ (List.mem_append_right _ (List.mem_append_right _ (List.mem_append_left _ h)))) tyX10 tyX10_ok nmX10 hown hK hP hD hS 2 rfl rfl 13 (by decide) (hts (.fieldLink RX9 130 "SagMemory$Valley" "wards" "I") (wl_mem 1 rfl)) (fun _ h9 => h9) rfl (by decide +kernel) rfl rfl (Nat.le_of_ble_eq_true rfl) dX9_parseWard_179 (fun H locs hP hD hS => ?_)
              have hP : va_P (dC, dI) vwCl (List.flatten [(wTape qT k (qB 0) vz84 tz83 az82), (wValley qB k vB bB cB (va_up wB 0 xz87) (va_up (va_up (va_up aB 3 fz21) 4 fz40) 5 fz86) eB)] ++ List.flatten ([] : List va_W)) H := hP
              have hD : va_D A (List.flatten [(wTape qT k (qB 0) vz84 tz83 az82), (wValley qB k vB bB cB (va_up wB 0 xz87) (va_up (va_up (va_up aB 3 fz21) 4 fz40) 5 fz86) eB)] ++ List.flatten ([] : List va_W)) := hD
              refine lv_iconst (v := 1) hx hb dX9_parseWard_182 (by decide) ?_
              rw [hQ]
              exact W.zret (v := (1 : Int32)) hx hb hr rfl (fun t ht hW => ⟨⟨(1 : Int32), (), rfl, (by show (1 : Int) = 0 ∨ (1 : Int) = 1; omega), vz84, tz83, az82, vB, bB, cB, (va_up wB 0 xz87), (va_up (va_up (va_up aB 3 fz21) 4 fz40) 5 fz86), eB, htz83, hbB, hcB, (rg_up hwB (by show 0 ≤ xz87.toInt ∧ xz87.toInt ≤ 5; omega)), heB, by rw [ht]; exact hP⟩, hS.F ht⟩) hS.2.2 dX9_parseWard_183
            refine lv_if_eq (tgt := 121) hx hb dX9_parseWard_106 (by decide) (fun cz88 => ?_) (fun cz88 => ?_)
            · skip
              have zz89 : rz50.toInt = (0 : Int) := zi_eq.mp cz88
              refine lv_aload_n hx hb dX9_parseWard_121 rfl (lv_at hl 1 rfl) ?_
              refine lv_aload_n hx hb dX9_parseWard_122 rfl (lv_at hl 1 rfl) ?_
              refine va_get (D := (dC, dI)) (ci := 9) (v := .ref (qB 0)) (C := RX9) (T := TX9) (N := 10) hx hb hts (fun w h => List.mem_cons_of_mem _ (List.mem_append_right _ (List.mem_append_left _ h))) hown hK hP 0 rfl rfl 1 (by decide) (hts (.fieldLink RX9 18 "SagMemory$Tape" "read" "LSagMemory$Valley;") (wl_mem 0 rfl)) (fun _ h9 => h9) rfl dX9_parseWard_123 ?_
              refine va_get (D := (dC, dI)) (ci := 10) (v := .ref (qB 5)) (C := RX10) (T := TX10) (N := 16) hx hb hts (fun w h => List.mem_cons_of_mem _ (List.mem_append_right _ (List.mem_append_right _ (List.mem_append_left _ h)))) hown hK hP 2 rfl rfl 4 (by decide) (hts (.fieldLink RX9 133 "SagMemory$Valley" "wardBridges" "[I") (wl_mem 10 rfl)) (fun _ h9 => h9) rfl dX9_parseWard_126 ?_
              refine lv_iload_n hx hb dX9_parseWard_129 rfl (lv_at hl 0 rfl) ?_
              refine va_iald hx hb hK hP 7 0 rfl rfl (vp_in_iff.mpr ⟨by omega, by omega⟩) dX9_parseWard_130 ?_
              refine lv_topi (fun xz90 exz90 => ?_)
              obtain rfl : (vz14 4) = xz90 := (exz90.trans kfz21).symm
              have hPc := hP.sub (ws' := (List.flatten [(wTape qT k (qB 0) vz43 tz44 az45)] ++ List.flatten ([] : List va_W))) [0, 1] rfl
              have hC : [0, 1].map (fun i => (List.flatten [(wTape qT k (qB 0) vz43 tz44 az45), (wValley qB k vB bB cB wB (va_up (va_up aB 3 fz21) 4 fz40) eB)] ++ List.flatten ([] : List va_W))[i]?) = (List.flatten [(wTape qT k (qB 0) vz43 tz44 az45)] ++ List.flatten ([] : List va_W)).map some := rfl
              have hDc := hD.sub [0, 1] (by decide) hC
              have hFc := va_free hD hS hA [0, 1] hC
              refine va_calli (va_runV (As := [.int (vz14 4)]) (rest := []) ⟨hx, hb, hml, hown, hts⟩ (c_X9_expectOther l dC dI k H.size qT (qB 0) vz43 tz44 az45 (vz14 4) htz44) (cwV 1 hts (gk_V (wl_mem 19 rfl) (wl_mem 20 rfl) (wl_mem 21 rfl) (wl_mem 5 rfl) (fun w h => List.mem_cons_of_mem _ (List.mem_append_right _ (List.mem_append_right _ (List.mem_append_right _ (List.mem_append_right _ (List.mem_append_right _ (List.mem_append_right _ (List.mem_append_right _ (List.mem_append_left _ h))))))))) wkg_c_X9_expectOther) rfl rfl rfl (by decide +kernel) ⟨Nat.le_of_ble_eq_true rfl, Nat.le_of_ble_eq_true rfl⟩) ⟨fun a U g mk q => by obtain ⟨q0, q1, qP, qK, qD⟩ := q; exact ⟨q0, q1, qP, va_K.moved (u := U) (U := U.calling g mk a) (Vm.Alike.refl U.vm) qK, qD⟩, va_recv hK hPc (ci := 9) (q0 := 0) rfl rfl, fun U hU hW => ⟨rfl, by rw [hU], by rw [hU]; exact hPc, va_K.moved hW.alike hK, hDc.weaken (fun _ _ _ _ => trivial)⟩⟩ rfl rfl hl.1 rfl (lv_room (Nat.le_of_ble_eq_true rfl)) dX9_parseWard_131 ⟨Nat.le_of_ble_eq_true rfl, Nat.le_of_ble_eq_true rfl⟩) hS (fun q _ h => hFc q h) hFc (fun rz92 u t H1 locs ht hvm gz91 hB hz1 hk1 hS => ?_)
              obtain ⟨vz93, tz94, az95, htz94, hP1⟩ := hB
              rw [ht] at hP1
              obtain ⟨hP, hD⟩ := w_callR hP hD hk1 hP1 [0] rfl rfl (fun _ h => absurd h List.not_mem_nil) rfl [some 0, none] rfl rfl
              clear hPc hC hDc hFc hk1 hP1
              generalize H1 = H at hP hS ⊢
              have hP : va_P (dC, dI) vwCl (List.flatten [(wTape qT k (qB 0) vz93 tz94 az95), (wValley qB k vB bB cB wB (va_up (va_up aB 3 fz21) 4 fz40) eB)] ++ List.flatten ([] : List va_W)) H := hP
              have hD : va_D A (List.flatten [(wTape qT k (qB 0) vz93 tz94 az95), (wValley qB k vB bB cB wB (va_up (va_up aB 3 fz21) 4 fz40) eB)] ++ List.flatten ([] : List va_W)) := hD
              refine W.widen (k := 0) (n := 0) (Nat.le_refl 0) (Nat.le_refl 0) ?_
              have pz96 := gz91
              have pz96 : rz92.toInt = 0 ∨ rz92.toInt = 1 := pz96
              refine lv_if_eq (tgt := 154) hx hb dX9_parseWard_134 (by decide) (fun cz97 => ?_) (fun cz97 => ?_)
              · skip
                have zz98 : rz92.toInt = (0 : Int) := zi_eq.mp cz97
                refine lv_iconst (v := 0) hx hb dX9_parseWard_154 (by decide) ?_
                rw [hQ]
                exact W.zret (v := (0 : Int32)) hx hb hr rfl (fun t ht hW => ⟨⟨(0 : Int32), (), rfl, (by show (0 : Int) = 0 ∨ (0 : Int) = 1; omega), vz93, tz94, az95, vB, bB, cB, wB, (va_up (va_up aB 3 fz21) 4 fz40), eB, htz94, hbB, hcB, hwB, heB, by rw [ht]; exact hP⟩, hS.F ht⟩) hS.2.2 dX9_parseWard_155
              · skip
                have zz99 : ¬ rz92.toInt = (0 : Int) := fun h9 => cz97 (zi_eq.mpr h9)
                refine lv_aload_n hx hb dX9_parseWard_137 rfl (lv_at hl 1 rfl) ?_
                refine lv_iconst (v := 0) hx hb dX9_parseWard_138 (by decide) ?_
                refine lv_aload_n hx hb dX9_parseWard_139 rfl (lv_at hl 1 rfl) ?_
                refine va_get (D := (dC, dI)) (ci := 9) (v := .ref (qB 0)) (C := RX9) (T := TX9) (N := 10) hx hb hts (fun w h => List.mem_cons_of_mem _ (List.mem_append_right _ (List.mem_append_left _ h))) hown hK hP 0 rfl rfl 1 (by decide) (hts (.fieldLink RX9 18 "SagMemory$Tape" "read" "LSagMemory$Valley;") (wl_mem 0 rfl)) (fun _ h9 => h9) rfl dX9_parseWard_140 ?_
                refine va_get (D := (dC, dI)) (ci := 10) (v := .int (bB 0)) (C := RX10) (T := TX10) (N := 16) hx hb hts (fun w h => List.mem_cons_of_mem _ (List.mem_append_right _ (List.mem_append_right _ (List.mem_append_left _ h)))) hown hK hP 2 rfl rfl 11 (by decide) (hts (.fieldLink RX9 107 "SagMemory$Valley" "bridges" "I") (wl_mem 6 rfl)) (fun _ h9 => h9) rfl dX9_parseWard_143 ?_
                refine lv_iconst (v := 1) hx hb dX9_parseWard_146 (by decide) ?_
                refine lv_isub hx hb dX9_parseWard_147 ?_
                refine lv_topi (fun xz100 exz100 => ?_)
                have fxz100 : xz100.toInt = (bB 0).toInt - (1 : Int) := by rw [exz100]; exact fb_subI (x := (bB 0)) (y := (1 : Int32)) (by show -2147483648 ≤ (bB 0).toInt - (1 : Int); omega) (by show (bB 0).toInt - (1 : Int) < 2147483648; omega)
                have hPc := hP.sub (ws' := (List.flatten [(wTape qT k (qB 0) vz93 tz94 az95)] ++ List.flatten ([] : List va_W))) [0, 1] rfl
                have hC : [0, 1].map (fun i => (List.flatten [(wTape qT k (qB 0) vz93 tz94 az95), (wValley qB k vB bB cB wB (va_up (va_up aB 3 fz21) 4 fz40) eB)] ++ List.flatten ([] : List va_W))[i]?) = (List.flatten [(wTape qT k (qB 0) vz93 tz94 az95)] ++ List.flatten ([] : List va_W)).map some := rfl
                have hDc := hD.sub [0, 1] (by decide) hC
                have hFc := va_free hD hS hA [0, 1] hC
                refine va_calli (va_runV (As := [.int 0, .int xz100]) (rest := []) ⟨hx, hb, hml, hown, hts⟩ (c_X9_expectNumber l dC dI k H.size qT (qB 0) vz93 tz94 az95 (0 : Int32) xz100 htz94) (cwV 2 hts (gk_V (wl_mem 7 rfl) (wl_mem 8 rfl) (wl_mem 9 rfl) (wl_mem 5 rfl) (fun w h => List.mem_cons_of_mem _ (List.mem_append_right _ (List.mem_append_right _ (List.mem_append_right _ (List.mem_append_right _ (List.mem_append_left _ h)))))) wkg_c_X9_expectNumber) rfl rfl rfl (by decide +kernel) ⟨Nat.le_of_ble_eq_true rfl, Nat.le_of_ble_eq_true rfl⟩) ⟨fun a U g mk q => by obtain ⟨q0, q1, qP, qK, qD⟩ := q; exact ⟨q0, q1, qP, va_K.moved (u := U) (U := U.calling g mk a) (Vm.Alike.refl U.vm) qK, qD⟩, va_recv hK hPc (ci := 9) (q0 := 0) rfl rfl, fun U hU hW => ⟨rfl, by rw [hU], by rw [hU]; exact hPc, va_K.moved hW.alike hK, hDc.weaken (fun _ _ _ _ => trivial)⟩⟩ rfl rfl hl.1 rfl (lv_room (Nat.le_of_ble_eq_true rfl)) dX9_parseWard_148 ⟨Nat.le_of_ble_eq_true rfl, Nat.le_of_ble_eq_true rfl⟩) hS (fun q _ h => hFc q h) hFc (fun rz102 u t H1 locs ht hvm gz101 hB hz1 hk1 hS => ?_)
                obtain rfl := gz101
                obtain ⟨vz103, tz104, az105, htz104, pz106, pz107, hP1⟩ := hB
                rw [ht] at hP1
                obtain ⟨hP, hD⟩ := w_callR hP hD hk1 hP1 [0] rfl rfl (fun _ h => absurd h List.not_mem_nil) rfl [some 0, none] rfl rfl
                clear hPc hC hDc hFc hk1 hP1
                generalize H1 = H at hP hS ⊢
                have hP : va_P (dC, dI) vwCl (List.flatten [(wTape qT k (qB 0) vz103 tz104 az105), (wValley qB k vB bB cB wB (va_up (va_up aB 3 fz21) 4 fz40) eB)] ++ List.flatten ([] : List va_W)) H := hP
                have hD : va_D A (List.flatten [(wTape qT k (qB 0) vz103 tz104 az105), (wValley qB k vB bB cB wB (va_up (va_up aB 3 fz21) 4 fz40) eB)] ++ List.flatten ([] : List va_W)) := hD
                refine W.widen (k := 0) (n := 0) (Nat.le_refl 0) (Nat.le_refl 0) ?_
                have pz106 : rz102.toInt = 0 ∨ ((0 : Int) ≤ (vz103 4).toInt ∧ (vz103 4).toInt ≤ xz100.toInt) := pz106
                have pz107 : rz102.toInt = 0 ∨ rz102.toInt = 1 := pz107
                refine lv_if_ne (tgt := 156) hx hb dX9_parseWard_151 (by decide) (fun cz108 => ?_) (fun cz108 => ?_)
                · skip
                  have zz109 : ¬ rz102.toInt = (0 : Int) := fun h9 => cz108 (zi_eq.mpr h9)
                  exact ct156_kz85 H locs ls az105 tz104 vz103  htz104 hP hD hS (lv_sub hl [1, 0] rfl)
                · skip
                  have zz110 : rz102.toInt = (0 : Int) := zi_eq.mp cz108
                  refine lv_iconst (v := 0) hx hb dX9_parseWard_154 (by decide) ?_
                  rw [hQ]
                  exact W.zret (v := (0 : Int32)) hx hb hr rfl (fun t ht hW => ⟨⟨(0 : Int32), (), rfl, (by show (0 : Int) = 0 ∨ (0 : Int) = 1; omega), vz103, tz104, az105, vB, bB, cB, wB, (va_up (va_up aB 3 fz21) 4 fz40), eB, htz104, hbB, hcB, hwB, heB, by rw [ht]; exact hP⟩, hS.F ht⟩) hS.2.2 dX9_parseWard_155
            · skip
              have zz111 : ¬ rz50.toInt = (0 : Int) := fun h9 => cz88 (zi_eq.mpr h9)
              refine lv_aload_n hx hb dX9_parseWard_109 rfl (lv_at hl 1 rfl) ?_
              refine lv_iconst (v := (-1)) hx hb dX9_parseWard_110 (by decide) ?_
              refine va_put (D := (dC, dI)) (ci := 9) (v := .int (-1)) (ty := .int) (C := RX9) (T := TX9) (N := 10) hx hb hts (fun w h => List.mem_cons_of_mem _ (List.mem_append_right _ (List.mem_append_left _ h))) tyX9 tyX9_ok nmX9 hown hK hP hD hS 0 rfl rfl 9 (by decide) (hts (.fieldLink RX9 96 "SagMemory$Tape" "number" "I") (wl_mem 11 rfl)) (fun _ h9 => h9) rfl (by decide +kernel) rfl rfl (Nat.le_of_ble_eq_true rfl) dX9_parseWard_111 (fun H locs hP hD hS => ?_)
              have hP : va_P (dC, dI) vwCl (List.flatten [(wTape qT k (qB 0) (va_up vz43 4 (-1 : Int32)) tz44 az45), (wValley qB k vB bB cB wB (va_up (va_up aB 3 fz21) 4 fz40) eB)] ++ List.flatten ([] : List va_W)) H := hP
              have hD : va_D A (List.flatten [(wTape qT k (qB 0) (va_up vz43 4 (-1 : Int32)) tz44 az45), (wValley qB k vB bB cB wB (va_up (va_up aB 3 fz21) 4 fz40) eB)] ++ List.flatten ([] : List va_W)) := hD
              refine lv_aload_n hx hb dX9_parseWard_114 rfl (lv_at hl 1 rfl) ?_
              have hPc := hP.sub (ws' := (List.flatten [(wTape qT k (qB 0) (va_up vz43 4 (-1 : Int32)) tz44 az45)] ++ List.flatten ([] : List va_W))) [0, 1] rfl
              have hC : [0, 1].map (fun i => (List.flatten [(wTape qT k (qB 0) (va_up vz43 4 (-1 : Int32)) tz44 az45), (wValley qB k vB bB cB wB (va_up (va_up aB 3 fz21) 4 fz40) eB)] ++ List.flatten ([] : List va_W))[i]?) = (List.flatten [(wTape qT k (qB 0) (va_up vz43 4 (-1 : Int32)) tz44 az45)] ++ List.flatten ([] : List va_W)).map some := rfl
              have hDc := hD.sub [0, 1] (by decide) hC
              have hFc := va_free hD hS hA [0, 1] hC
              refine va_callv (va_runV (As := []) (rest := []) ⟨hx, hb, hml, hown, hts⟩ (c_X9_next l dC dI k H.size qT (qB 0) (va_up vz43 4 (-1 : Int32)) tz44 az45 htz44) (cwV 0 hts (gk_V (wl_mem 2 rfl) (wl_mem 3 rfl) (wl_mem 4 rfl) (wl_mem 5 rfl) (fun w h => List.mem_cons_of_mem _ (List.mem_append_right _ (List.mem_append_right _ (List.mem_append_right _ (List.mem_append_left _ h))))) wkg_c_X9_next) rfl rfl rfl (by decide +kernel) ⟨Nat.le_of_ble_eq_true rfl, Nat.le_of_ble_eq_true rfl⟩) ⟨fun a U g mk q => by obtain ⟨q0, q1, qP, qK, qD⟩ := q; exact ⟨q0, q1, qP, va_K.moved (u := U) (U := U.calling g mk a) (Vm.Alike.refl U.vm) qK, qD⟩, va_recv hK hPc (ci := 9) (q0 := 0) rfl rfl, fun U hU hW => ⟨rfl, by rw [hU], by rw [hU]; exact hPc, va_K.moved hW.alike hK, hDc.weaken (fun _ _ _ _ => trivial)⟩⟩ rfl rfl hl.1 rfl (lv_room (Nat.le_of_ble_eq_true rfl)) dX9_parseWard_115 ⟨Nat.le_of_ble_eq_true rfl, Nat.le_of_ble_eq_true rfl⟩) hS (fun q _ h => hFc q h) hFc (fun u t H1 locs ht hvm gz112 hB hz1 hk1 hS => ?_)
              obtain ⟨vz114, tz115, az116, htz115, pz117, hP1⟩ := hB
              rw [ht] at hP1
              obtain ⟨hP, hD⟩ := w_callR hP hD hk1 hP1 [0] rfl rfl (fun _ h => absurd h List.not_mem_nil) rfl [some 0, none] rfl rfl
              clear hPc hC hDc hFc hk1 hP1
              generalize H1 = H at hP hS ⊢
              have hP : va_P (dC, dI) vwCl (List.flatten [(wTape qT k (qB 0) vz114 tz115 az116), (wValley qB k vB bB cB wB (va_up (va_up aB 3 fz21) 4 fz40) eB)] ++ List.flatten ([] : List va_W)) H := hP
              have hD : va_D A (List.flatten [(wTape qT k (qB 0) vz114 tz115 az116), (wValley qB k vB bB cB wB (va_up (va_up aB 3 fz21) 4 fz40) eB)] ++ List.flatten ([] : List va_W)) := hD
              refine W.widen (k := 0) (n := 0) (Nat.le_refl 0) (Nat.le_refl 0) ?_
              have pz117 : (vz114 4).toInt = (-1 : Int) := pz117
              refine lv_goto (tgt := 156) hx hb dX9_parseWard_118 (by decide) ?_
              exact ct156_kz85 H locs ls az116 tz115 vz114  htz115 hP hD hS (lv_sub hl [1, 0] rfl)
          · skip
            have zz118 : rz42.toInt = (0 : Int) := zi_eq.mp cz47
            refine lv_iconst (v := 0) hx hb dX9_parseWard_98 (by decide) ?_
            rw [hQ]
            exact W.zret (v := (0 : Int32)) hx hb hr rfl (fun t ht hW => ⟨⟨(0 : Int32), (), rfl, (by show (0 : Int) = 0 ∨ (0 : Int) = 1; omega), vz43, tz44, az45, vB, bB, cB, wB, (va_up (va_up aB 3 fz21) 4 fz40), eB, htz44, hbB, hcB, hwB, heB, by rw [ht]; exact hP⟩, hS.F ht⟩) hS.2.2 dX9_parseWard_99
        · skip
          have zz119 : rz32.toInt = (0 : Int) := zi_eq.mp cz38
          refine lv_iconst (v := 0) hx hb dX9_parseWard_74 (by decide) ?_
          rw [hQ]
          exact W.zret (v := (0 : Int32)) hx hb hr rfl (fun t ht hW => ⟨⟨(0 : Int32), (), rfl, (by show (0 : Int) = 0 ∨ (0 : Int) = 1; omega), vz33, tz34, az35, vB, bB, cB, wB, (va_up aB 3 fz21), eB, htz34, hbB, hcB, hwB, heB, by rw [ht]; exact hP⟩, hS.F ht⟩) hS.2.2 dX9_parseWard_75
    · skip
      have zz120 : rz13.toInt = (0 : Int) := zi_eq.mp cz19
      refine lv_iconst (v := 0) hx hb dX9_parseWard_40 (by decide) ?_
      rw [hQ]
      exact W.zret (v := (0 : Int32)) hx hb hr rfl (fun t ht hW => ⟨⟨(0 : Int32), (), rfl, (by show (0 : Int) = 0 ∨ (0 : Int) = 1; omega), vz14, tz15, az16, vB, bB, cB, wB, aB, eB, htz15, hbB, hcB, hwB, heB, by rw [ht]; exact hP⟩, hS.F ht⟩) hS.2.2 dX9_parseWard_41
  · skip
    have zz121 : ¬ (wB 0).toInt < (5 : Int) := fun h9 => cz2 (zi_lt.mpr h9)
    refine lv_aload_n hx hb dX9_parseWard_13 rfl (lv_at hl 1 rfl) ?_
    refine lv_iconst (v := 3) hx hb dX9_parseWard_14 (by decide) ?_
    have hPc := hP.sub (ws' := (List.flatten [(wTape qT k (qB 0) vT tT aT)] ++ List.flatten ([] : List va_W))) [0, 1] rfl
    have hC : [0, 1].map (fun i => (List.flatten [(wTape qT k (qB 0) vT tT aT), (wValley qB k vB bB cB wB aB eB)] ++ List.flatten ([] : List va_W))[i]?) = (List.flatten [(wTape qT k (qB 0) vT tT aT)] ++ List.flatten ([] : List va_W)).map some := rfl
    have hDc := hD.sub [0, 1] (by decide) hC
    have hFc := va_free hD hS hA [0, 1] hC
    refine va_calli (va_runV (As := [.int 3]) (rest := []) ⟨hx, hb, hml, hown, hts⟩ (c_X9_fail l dC dI k s.heap.size qT (qB 0) vT tT aT (3 : Int32) htT) (cwV 1 hts (gk_V (wl_mem 23 rfl) (wl_mem 24 rfl) (wl_mem 25 rfl) (wl_mem 5 rfl) (fun w h => List.mem_cons_of_mem _ (List.mem_append_right _ (List.mem_append_right _ (List.mem_append_right _ (List.mem_append_right _ (List.mem_append_right _ (List.mem_append_right _ (List.mem_append_right _ (List.mem_append_right _ (List.mem_append_left _ h)))))))))) wkg_c_X9_fail) rfl rfl rfl (by decide +kernel) ⟨Nat.le_of_ble_eq_true rfl, Nat.le_of_ble_eq_true rfl⟩) ⟨fun a U g mk q => by obtain ⟨q0, q1, qP, qK, qD⟩ := q; exact ⟨q0, q1, qP, va_K.moved (u := U) (U := U.calling g mk a) (Vm.Alike.refl U.vm) qK, qD⟩, va_recv hK hPc (ci := 9) (q0 := 0) rfl rfl, fun U hU hW => ⟨rfl, by rw [hU], by rw [hU]; exact hPc, va_K.moved hW.alike hK, hDc.weaken (fun _ _ _ _ => trivial)⟩⟩ rfl rfl hl.1 rfl (lv_room (Nat.le_of_ble_eq_true rfl)) dX9_parseWard_15 ⟨Nat.le_of_ble_eq_true rfl, Nat.le_of_ble_eq_true rfl⟩) hS (fun q _ h => hFc q h) hFc (fun rz123 u t H1 locs ht hvm gz122 hB hz1 hk1 hS => ?_)
    obtain ⟨vz124, tz125, az126, htz125, hP1⟩ := hB
    rw [ht] at hP1
    obtain ⟨hP, hD⟩ := w_callR hP hD hk1 hP1 [0] rfl rfl (fun _ h => absurd h List.not_mem_nil) rfl [some 0, none] rfl rfl
    clear hPc hC hDc hFc hk1 hP1
    generalize H1 = H at hP hS ⊢
    have hP : va_P (dC, dI) vwCl (List.flatten [(wTape qT k (qB 0) vz124 tz125 az126), (wValley qB k vB bB cB wB aB eB)] ++ List.flatten ([] : List va_W)) H := hP
    have hD : va_D A (List.flatten [(wTape qT k (qB 0) vz124 tz125 az126), (wValley qB k vB bB cB wB aB eB)] ++ List.flatten ([] : List va_W)) := hD
    refine W.widen (k := 0) (n := 0) (Nat.le_refl 0) (Nat.le_refl 0) ?_
    obtain ⟨pz127, pz128⟩ := gz122
    have pz127 : rz123.toInt = 0 := pz127
    have pz128 : rz123.toInt = 0 ∨ rz123.toInt = 1 := pz128
    rw [hQ]
    exact W.zret (v := rz123) hx hb hr (zb_nar (by show rz123.toInt = 0 ∨ rz123.toInt = 1; omega)) (fun t ht hW => ⟨⟨rz123, (), rfl, (by show rz123.toInt = 0 ∨ rz123.toInt = 1; omega), vz124, tz125, az126, vB, bB, cB, wB, aB, eB, htz125, hbB, hcB, hwB, heB, by rw [ht]; exact hP⟩, hS.F ht⟩) hS.2.2 dX9_parseWard_18
def wk_c_X9_parseFrost : List Cond := .code yX9_parseFrost cX9_parseFrost 1 (some .boolean) :: ([.fieldLink RX9 18 "SagMemory$Tape" "read" "LSagMemory$Valley;", .fieldLink RX9 154 "SagMemory$Valley" "frosts" "I", .methodLink RX9 38 yX9_next, .instanceMethod yX9_next, .selects RX9 yX9_next yX9_next, .initialized RX9, .methodLink RX9 53 yX9_expect, .instanceMethod yX9_expect, .selects RX9 yX9_expect yX9_expect, .methodLink RX9 92 yX9_expectNumber, .instanceMethod yX9_expectNumber, .selects RX9 yX9_expectNumber yX9_expectNumber, .fieldLink RX9 158 "SagMemory$Valley" "cold" "I", .fieldLink RX9 96 "SagMemory$Tape" "number" "I", .methodLink RX9 86 yX9_fail, .instanceMethod yX9_fail, .selects RX9 yX9_fail yX9_fail] ++ (wsX90 ++ (wsX100 ++ (wk_c_X9_next ++ (wk_c_X9_expect ++ (wk_c_X9_expectNumber ++ (wk_c_X9_fail ++ [])))))))
theorem wkg_c_X9_parseFrost : wk_c_X9_parseFrost.all goodWord = true := by decide +kernel
set_option maxHeartbeats 4000000 in
set_option maxRecDepth 100000 in
theorem c_X9_parseFrost (l : Launch) (dC : Nat → ClassId) (dI : Nat → Nat → Nat) (k : Nat → ClassId) (sz : Nat) (adK adV ln : Nat → Nat) (by9 : Nat → Nat → Int32) (qT : Nat → Nat) (vT : Nat → Int32) (tT : Nat → Int32) (aT : Nat → Nat → Int32) (qB : Nat → Nat) (vB : Nat → Int32) (bB : Nat → Int32) (cB : Nat → Int32) (wB : Nat → Int32) (aB : Nat → Nat → Int32) (eB : Nat → Nat → Int32) (htT : Rg 0 700 tT) (hbB : Rg 0 3 bB) (hcB : Rg 0 7 cB) (hwB : Rg 0 5 wB) (heB : RgA 0 99 eB) : Met l yX9_parseFrost wk_c_X9_parseFrost ({ frames := 6, cells := 0, slots := 0, locals := 128 }) (va_Pc [.ref (qT 0)] (fun U => U.heap.size = sz ∧ va_P (dC, dI) vwCl (List.flatten [(wTape qT k (qB 0) vT tT aT), (wValley qB k vB bB cB wB aB eB)] ++ List.flatten ([] : List va_W)) U.heap ∧ va_K (dC, dI) vwCl (tK k) U ∧ va_D (fun _ => True) (List.flatten [(wTape qT k (qB 0) vT tT aT), (wValley qB k vB bB cB wB aB eB)] ++ List.flatten ([] : List va_W)) ∧ Zt adK adV ln by9 (va_A (List.flatten [(wTape qT k (qB 0) vT tT aT), (wValley qB k vB bB cB wB aB eB)] ++ List.flatten ([] : List va_W)) sz) U U.heap)) (va_Qi (fun (r : Int32) (_ : Unit) => (r.toInt = 0 ∨ r.toInt = 1)) (fun (_ : Unit) (t : State) => ∃ (vT' : Nat → Int32) (tT' : Nat → Int32) (aT' : Nat → Nat → Int32) (vB' : Nat → Int32) (bB' : Nat → Int32) (cB' : Nat → Int32) (wB' : Nat → Int32) (aB' : Nat → Nat → Int32) (eB' : Nat → Nat → Int32), Rg 0 700 tT' ∧ Rg 0 3 bB' ∧ Rg 0 7 cB' ∧ Rg 0 5 wB' ∧ RgA 0 99 eB' ∧ va_P (dC, dI) vwCl (List.flatten [(wTape qT k (qB 0) vT' tT' aT'), (wValley qB k vB' bB' cB' wB' aB' eB')] ++ List.flatten ([] : List va_W)) t.heap) (va_A (List.flatten [(wTape qT k (qB 0) vT tT aT), (wValley qB k vB bB cB wB aB eB)] ++ List.flatten ([] : List va_W)) sz)) 0 0 (va_A (List.flatten [(wTape qT k (qB 0) vT tT aT), (wValley qB k vB bB cB wB aB eB)] ++ List.flatten ([] : List va_W)) sz) := by
  refine Met.ofW (cc := cX9_parseFrost) (maxL := 1) (ret := (some .boolean)) (by decide) rfl ?_
  intro p e s m args below meth c s₁ B hml hv
  obtain ⟨rfl, hsz, hP, hK, hD0, hZ⟩ := hv
  have hx := B.exec
  have hb := B.bytes
  have hr := B.returns
  have hts := atoms_spec (ws := wk_c_X9_parseFrost) B.pre
  have hown : s.vm.findClass RX9 = some m.cls := findClass_of_methodNamed B.named
  have hlocks := B.notSynchronized
  subst hsz
  have hD := hD0.self (sz := s.heap.size)
  generalize hAe : va_A (List.flatten [(wTape qT k (qB 0) vT tT aT), (wValley qB k vB bB cB wB aB eB)] ++ List.flatten ([] : List va_W)) s.heap.size = A at hD hZ ⊢
  have hA : ∀ q : Nat, s.heap.size ≤ q → A q := fun q h => by rw [← hAe]; exact Or.inr h
  have hS : va_S A s.heap s.heap [] := va_S.rf
  have hP : va_P (dC, dI) vwCl (List.flatten [(wTape qT k (qB 0) vT tT aT), (wValley qB k vB bB cB wB aB eB)] ++ List.flatten ([] : List va_W)) s.heap := hP
  have hl := lv_entry ([.ref (qT 0)]) (n := 1) (Nat.le_of_ble_eq_true rfl)
  rw [lg_entry_eq]
  generalize (lg_sl ([.ref (qT 0)]) ++ List.replicate (1 - (lg_sl ([.ref (qT 0)])).length) Slot.unset).toArray = ls at hl ⊢
  have hl : lv_has ls 1 [(0, .ref (qT 0))] := hl
  refine w_gen (fun Q hQ => ?_)
  refine lv_aload_n hx hb dX9_parseFrost_0 rfl (lv_at hl 0 rfl) ?_
  refine va_get (D := (dC, dI)) (ci := 9) (v := .ref (qB 0)) (C := RX9) (T := TX9) (N := 10) hx hb hts (fun w h => List.mem_cons_of_mem _ (List.mem_append_right _ (List.mem_append_left _ h))) hown hK hP 0 rfl rfl 1 (by decide) (hts (.fieldLink RX9 18 "SagMemory$Tape" "read" "LSagMemory$Valley;") (wl_mem 0 rfl)) (fun _ h9 => h9) rfl dX9_parseFrost_1 ?_
  refine va_get (D := (dC, dI)) (ci := 10) (v := .int (vB 4)) (C := RX10) (T := TX10) (N := 16) hx hb hts (fun w h => List.mem_cons_of_mem _ (List.mem_append_right _ (List.mem_append_right _ (List.mem_append_left _ h)))) hown hK hP 2 rfl rfl 14 (by decide) (hts (.fieldLink RX9 154 "SagMemory$Valley" "frosts" "I") (wl_mem 1 rfl)) (fun _ h9 => h9) rfl dX9_parseFrost_4 ?_
  refine lv_iconst (v := 4) hx hb dX9_parseFrost_7 (by decide) ?_
  refine lv_icmp_lt (tgt := 17) hx hb dX9_parseFrost_8 (by decide) (fun cz1 => ?_) (fun cz1 => ?_)
  · skip
    have bz2 := fb_rng (vB 4)
    have zz3 : (vB 4).toInt < (4 : Int) := zi_lt.mp cz1
    refine lv_aload_n hx hb dX9_parseFrost_17 rfl (lv_at hl 0 rfl) ?_
    have hPc := hP.sub (ws' := (List.flatten [(wTape qT k (qB 0) vT tT aT)] ++ List.flatten ([] : List va_W))) [0, 1] rfl
    have hC : [0, 1].map (fun i => (List.flatten [(wTape qT k (qB 0) vT tT aT), (wValley qB k vB bB cB wB aB eB)] ++ List.flatten ([] : List va_W))[i]?) = (List.flatten [(wTape qT k (qB 0) vT tT aT)] ++ List.flatten ([] : List va_W)).map some := rfl
    have hDc := hD.sub [0, 1] (by decide) hC
    have hFc := va_free hD hS hA [0, 1] hC
    refine va_callv (va_runV (As := []) (rest := []) ⟨hx, hb, hml, hown, hts⟩ (c_X9_next l dC dI k s.heap.size qT (qB 0) vT tT aT htT) (cwV 0 hts (gk_V (wl_mem 2 rfl) (wl_mem 3 rfl) (wl_mem 4 rfl) (wl_mem 5 rfl) (fun w h => List.mem_cons_of_mem _ (List.mem_append_right _ (List.mem_append_right _ (List.mem_append_right _ (List.mem_append_left _ h))))) wkg_c_X9_next) rfl rfl rfl (by decide +kernel) ⟨Nat.le_of_ble_eq_true rfl, Nat.le_of_ble_eq_true rfl⟩) ⟨fun a U g mk q => by obtain ⟨q0, q1, qP, qK, qD⟩ := q; exact ⟨q0, q1, qP, va_K.moved (u := U) (U := U.calling g mk a) (Vm.Alike.refl U.vm) qK, qD⟩, va_recv hK hPc (ci := 9) (q0 := 0) rfl rfl, fun U hU hW => ⟨rfl, by rw [hU], by rw [hU]; exact hPc, va_K.moved hW.alike hK, hDc.weaken (fun _ _ _ _ => trivial)⟩⟩ rfl rfl hl.1 rfl (lv_room (Nat.le_of_ble_eq_true rfl)) dX9_parseFrost_18 ⟨Nat.le_of_ble_eq_true rfl, Nat.le_of_ble_eq_true rfl⟩) hS (fun q _ h => hFc q h) hFc (fun u t H1 locs ht hvm gz4 hB hz1 hk1 hS => ?_)
    obtain ⟨vz6, tz7, az8, htz7, pz9, hP1⟩ := hB
    rw [ht] at hP1
    obtain ⟨hP, hD⟩ := w_callR hP hD hk1 hP1 [0] rfl rfl (fun _ h => absurd h List.not_mem_nil) rfl [some 0, none] rfl rfl
    clear hPc hC hDc hFc hk1 hP1
    generalize H1 = H at hP hS ⊢
    have hP : va_P (dC, dI) vwCl (List.flatten [(wTape qT k (qB 0) vz6 tz7 az8), (wValley qB k vB bB cB wB aB eB)] ++ List.flatten ([] : List va_W)) H := hP
    have hD : va_D A (List.flatten [(wTape qT k (qB 0) vz6 tz7 az8), (wValley qB k vB bB cB wB aB eB)] ++ List.flatten ([] : List va_W)) := hD
    refine W.widen (k := 0) (n := 0) (Nat.le_refl 0) (Nat.le_refl 0) ?_
    have pz9 : (vz6 4).toInt = (vT 4).toInt := pz9
    refine lv_aload_n hx hb dX9_parseFrost_21 rfl (lv_at hl 0 rfl) ?_
    refine va_ldcS (own := RX9) (index := 157) (tx := "at") (q := adK 13) hx hb hown (hZ.2.2.2 13 (by decide)) dX9_parseFrost_22 ?_
    have hPc := hP.sub (ws' := (List.flatten [(wTape qT k (qB 0) vz6 tz7 az8)] ++ List.flatten ([] : List va_W))) [0, 1] rfl
    have hC : [0, 1].map (fun i => (List.flatten [(wTape qT k (qB 0) vz6 tz7 az8), (wValley qB k vB bB cB wB aB eB)] ++ List.flatten ([] : List va_W))[i]?) = (List.flatten [(wTape qT k (qB 0) vz6 tz7 az8)] ++ List.flatten ([] : List va_W)).map some := rfl
    have hDc := hD.sub [0, 1] (by decide) hC
    have hFc := va_free hD hS hA [0, 1] hC
    refine va_calli (va_runV (As := [.ref (adK 13)]) (rest := []) ⟨hx, hb, hml, hown, hts⟩ (c_X9_expect l dC dI k H.size adK adV ln by9 qT (qB 0) vz6 tz7 az8 13 (by decide) htz7) (cwV 1 hts (gk_V (wl_mem 6 rfl) (wl_mem 7 rfl) (wl_mem 8 rfl) (wl_mem 5 rfl) (fun w h => List.mem_cons_of_mem _ (List.mem_append_right _ (List.mem_append_right _ (List.mem_append_right _ (List.mem_append_right _ (List.mem_append_left _ h)))))) wkg_c_X9_expect) rfl rfl rfl (by decide +kernel) ⟨Nat.le_of_ble_eq_true rfl, Nat.le_of_ble_eq_true rfl⟩) ⟨fun a U g mk q => by obtain ⟨q0, q1, qP, qK, qD, qZ⟩ := q; exact ⟨q0, q1, qP, va_K.moved (u := U) (U := U.calling g mk a) (Vm.Alike.refl U.vm) qK, qD, qZ.calling⟩, va_recv hK hPc (ci := 9) (q0 := 0) rfl rfl, fun U hU hW => ⟨rfl, by rw [hU], by rw [hU]; exact hPc, va_K.moved hW.alike hK, hDc.weaken (fun _ _ _ _ => trivial), hZ.pass hS hU hW hFc⟩⟩ rfl rfl hl.1 rfl (lv_room (Nat.le_of_ble_eq_true rfl)) dX9_parseFrost_24 ⟨Nat.le_of_ble_eq_true rfl, Nat.le_of_ble_eq_true rfl⟩) hS (fun q _ h => hFc q h) hFc (fun rz11 u t H1 locs ht hvm gz10 hB hz1 hk1 hS => ?_)
    obtain ⟨vz12, tz13, az14, htz13, hP1⟩ := hB
    rw [ht] at hP1
    obtain ⟨hP, hD⟩ := w_callR hP hD hk1 hP1 [0] rfl rfl (fun _ h => absurd h List.not_mem_nil) rfl [some 0, none] rfl rfl
    clear hPc hC hDc hFc hk1 hP1
    generalize H1 = H at hP hS ⊢
    have hP : va_P (dC, dI) vwCl (List.flatten [(wTape qT k (qB 0) vz12 tz13 az14), (wValley qB k vB bB cB wB aB eB)] ++ List.flatten ([] : List va_W)) H := hP
    have hD : va_D A (List.flatten [(wTape qT k (qB 0) vz12 tz13 az14), (wValley qB k vB bB cB wB aB eB)] ++ List.flatten ([] : List va_W)) := hD
    refine W.widen (k := 0) (n := 0) (Nat.le_refl 0) (Nat.le_refl 0) ?_
    have pz15 := gz10
    have pz15 : rz11.toInt = 0 ∨ rz11.toInt = 1 := pz15
    refine lv_if_eq (tgt := 40) hx hb dX9_parseFrost_27 (by decide) (fun cz16 => ?_) (fun cz16 => ?_)
    · skip
      have zz17 : rz11.toInt = (0 : Int) := zi_eq.mp cz16
      refine lv_iconst (v := 0) hx hb dX9_parseFrost_40 (by decide) ?_
      rw [hQ]
      exact W.zret (v := (0 : Int32)) hx hb hr rfl (fun t ht hW => ⟨⟨(0 : Int32), (), rfl, (by show (0 : Int) = 0 ∨ (0 : Int) = 1; omega), vz12, tz13, az14, vB, bB, cB, wB, aB, eB, htz13, hbB, hcB, hwB, heB, by rw [ht]; exact hP⟩, hS.F ht⟩) hS.2.2 dX9_parseFrost_41
    · skip
      have zz18 : ¬ rz11.toInt = (0 : Int) := fun h9 => cz16 (zi_eq.mpr h9)
      refine lv_aload_n hx hb dX9_parseFrost_30 rfl (lv_at hl 0 rfl) ?_
      refine lv_iconst (v := 0) hx hb dX9_parseFrost_31 (by decide) ?_
      refine lv_bipush (v := 6) hx hb dX9_parseFrost_32 (by decide) ?_
      have hPc := hP.sub (ws' := (List.flatten [(wTape qT k (qB 0) vz12 tz13 az14)] ++ List.flatten ([] : List va_W))) [0, 1] rfl
      have hC : [0, 1].map (fun i => (List.flatten [(wTape qT k (qB 0) vz12 tz13 az14), (wValley qB k vB bB cB wB aB eB)] ++ List.flatten ([] : List va_W))[i]?) = (List.flatten [(wTape qT k (qB 0) vz12 tz13 az14)] ++ List.flatten ([] : List va_W)).map some := rfl
      have hDc := hD.sub [0, 1] (by decide) hC
      have hFc := va_free hD hS hA [0, 1] hC
      refine va_calli (va_runV (As := [.int 0, .int 6]) (rest := []) ⟨hx, hb, hml, hown, hts⟩ (c_X9_expectNumber l dC dI k H.size qT (qB 0) vz12 tz13 az14 (0 : Int32) (6 : Int32) htz13) (cwV 2 hts (gk_V (wl_mem 9 rfl) (wl_mem 10 rfl) (wl_mem 11 rfl) (wl_mem 5 rfl) (fun w h => List.mem_cons_of_mem _ (List.mem_append_right _ (List.mem_append_right _ (List.mem_append_right _ (List.mem_append_right _ (List.mem_append_right _ (List.mem_append_left _ h))))))) wkg_c_X9_expectNumber) rfl rfl rfl (by decide +kernel) ⟨Nat.le_of_ble_eq_true rfl, Nat.le_of_ble_eq_true rfl⟩) ⟨fun a U g mk q => by obtain ⟨q0, q1, qP, qK, qD⟩ := q; exact ⟨q0, q1, qP, va_K.moved (u := U) (U := U.calling g mk a) (Vm.Alike.refl U.vm) qK, qD⟩, va_recv hK hPc (ci := 9) (q0 := 0) rfl rfl, fun U hU hW => ⟨rfl, by rw [hU], by rw [hU]; exact hPc, va_K.moved hW.alike hK, hDc.weaken (fun _ _ _ _ => trivial)⟩⟩ rfl rfl hl.1 rfl (lv_room (Nat.le_of_ble_eq_true rfl)) dX9_parseFrost_34 ⟨Nat.le_of_ble_eq_true rfl, Nat.le_of_ble_eq_true rfl⟩) hS (fun q _ h => hFc q h) hFc (fun rz20 u t H1 locs ht hvm gz19 hB hz1 hk1 hS => ?_)
      obtain rfl := gz19
      obtain ⟨vz21, tz22, az23, htz22, pz24, pz25, hP1⟩ := hB
      rw [ht] at hP1
      obtain ⟨hP, hD⟩ := w_callR hP hD hk1 hP1 [0] rfl rfl (fun _ h => absurd h List.not_mem_nil) rfl [some 0, none] rfl rfl
      clear hPc hC hDc hFc hk1 hP1
      generalize H1 = H at hP hS ⊢
      have hP : va_P (dC, dI) vwCl (List.flatten [(wTape qT k (qB 0) vz21 tz22 az23), (wValley qB k vB bB cB wB aB eB)] ++ List.flatten ([] : List va_W)) H := hP
      have hD : va_D A (List.flatten [(wTape qT k (qB 0) vz21 tz22 az23), (wValley qB k vB bB cB wB aB eB)] ++ List.flatten ([] : List va_W)) := hD
      refine W.widen (k := 0) (n := 0) (Nat.le_refl 0) (Nat.le_refl 0) ?_
      have pz24 : rz20.toInt = 0 ∨ ((0 : Int) ≤ (vz21 4).toInt ∧ (vz21 4).toInt ≤ (6 : Int)) := pz24
      have pz25 : rz20.toInt = 0 ∨ rz20.toInt = 1 := pz25
      refine lv_if_ne (tgt := 42) hx hb dX9_parseFrost_37 (by decide) (fun cz26 => ?_) (fun cz26 => ?_)
      · skip
        have zz27 : ¬ rz20.toInt = (0 : Int) := fun h9 => cz26 (zi_eq.mpr h9)
        refine lv_aload_n hx hb dX9_parseFrost_42 rfl (lv_at hl 0 rfl) ?_
        refine va_get (D := (dC, dI)) (ci := 9) (v := .ref (qB 0)) (C := RX9) (T := TX9) (N := 10) hx hb hts (fun w h => List.mem_cons_of_mem _ (List.mem_append_right _ (List.mem_append_left _ h))) hown hK hP 0 rfl rfl 1 (by decide) (hts (.fieldLink RX9 18 "SagMemory$Tape" "read" "LSagMemory$Valley;") (wl_mem 0 rfl)) (fun _ h9 => h9) rfl dX9_parseFrost_43 ?_
        refine lv_dup hx hb dX9_parseFrost_46 rfl ?_
        refine va_get (D := (dC, dI)) (ci := 10) (v := .int (vB 5)) (C := RX10) (T := TX10) (N := 16) hx hb hts (fun w h => List.mem_cons_of_mem _ (List.mem_append_right _ (List.mem_append_right _ (List.mem_append_left _ h)))) hown hK hP 2 rfl rfl 15 (by decide) (hts (.fieldLink RX9 158 "SagMemory$Valley" "cold" "I") (wl_mem 12 rfl)) (fun _ h9 => h9) rfl dX9_parseFrost_47 ?_
        refine lv_iconst (v := 1) hx hb dX9_parseFrost_50 (by decide) ?_
        refine lv_aload_n hx hb dX9_parseFrost_51 rfl (lv_at hl 0 rfl) ?_
        refine va_get (D := (dC, dI)) (ci := 9) (v := .int (vz21 4)) (C := RX9) (T := TX9) (N := 10) hx hb hts (fun w h => List.mem_cons_of_mem _ (List.mem_append_right _ (List.mem_append_left _ h))) hown hK hP 0 rfl rfl 9 (by decide) (hts (.fieldLink RX9 96 "SagMemory$Tape" "number" "I") (wl_mem 13 rfl)) (fun _ h9 => h9) rfl dX9_parseFrost_52 ?_
        refine lv_ishl hx hb dX9_parseFrost_55 ?_
        refine lv_topi (fun xz28 exz28 => ?_)
        refine lv_ior hx hb dX9_parseFrost_56 ?_
        refine lv_topi (fun xz29 exz29 => ?_)
        refine va_put (D := (dC, dI)) (ci := 10) (v := .int xz29) (ty := .int) (C := RX10) (T := TX10) (N := 16) hx hb hts (fun w h => List.mem_cons_of_mem _ (List.mem_append_right _ (List.mem_append_right _ (List.mem_append_left _ h)))) tyX10 tyX10_ok nmX10 hown hK hP hD hS 2 rfl rfl 15 (by decide) (hts (.fieldLink RX9 158 "SagMemory$Valley" "cold" "I") (wl_mem 12 rfl)) (fun _ h9 => h9) rfl (by decide +kernel) rfl rfl (Nat.le_of_ble_eq_true rfl) dX9_parseFrost_57 (fun H locs hP hD hS => ?_)
        have hP : va_P (dC, dI) vwCl (List.flatten [(wTape qT k (qB 0) vz21 tz22 az23), (wValley qB k (va_up vB 5 xz29) bB cB wB aB eB)] ++ List.flatten ([] : List va_W)) H := hP
        have hD : va_D A (List.flatten [(wTape qT k (qB 0) vz21 tz22 az23), (wValley qB k (va_up vB 5 xz29) bB cB wB aB eB)] ++ List.flatten ([] : List va_W)) := hD
        refine lv_aload_n hx hb dX9_parseFrost_60 rfl (lv_at hl 0 rfl) ?_
        refine va_get (D := (dC, dI)) (ci := 9) (v := .ref (qB 0)) (C := RX9) (T := TX9) (N := 10) hx hb hts (fun w h => List.mem_cons_of_mem _ (List.mem_append_right _ (List.mem_append_left _ h))) hown hK hP 0 rfl rfl 1 (by decide) (hts (.fieldLink RX9 18 "SagMemory$Tape" "read" "LSagMemory$Valley;") (wl_mem 0 rfl)) (fun _ h9 => h9) rfl dX9_parseFrost_61 ?_
        refine lv_dup hx hb dX9_parseFrost_64 rfl ?_
        refine va_get (D := (dC, dI)) (ci := 10) (v := .int (vB 4)) (C := RX10) (T := TX10) (N := 16) hx hb hts (fun w h => List.mem_cons_of_mem _ (List.mem_append_right _ (List.mem_append_right _ (List.mem_append_left _ h)))) hown hK hP 2 rfl rfl 14 (by decide) (hts (.fieldLink RX9 154 "SagMemory$Valley" "frosts" "I") (wl_mem 1 rfl)) (fun _ h9 => h9) rfl dX9_parseFrost_65 ?_
        refine lv_iconst (v := 1) hx hb dX9_parseFrost_68 (by decide) ?_
        refine lv_iadd hx hb dX9_parseFrost_69 ?_
        refine lv_topi (fun xz30 exz30 => ?_)
        have fxz30 : xz30.toInt = (vB 4).toInt + (1 : Int) := by rw [exz30]; exact fb_addI (x := (vB 4)) (y := (1 : Int32)) (by show -2147483648 ≤ (vB 4).toInt + (1 : Int); omega) (by show (vB 4).toInt + (1 : Int) < 2147483648; omega)
        refine va_put (D := (dC, dI)) (ci := 10) (v := .int xz30) (ty := .int) (C := RX10) (T := TX10) (N := 16) hx hb hts (fun w h => List.mem_cons_of_mem _ (List.mem_append_right _ (List.mem_append_right _ (List.mem_append_left _ h)))) tyX10 tyX10_ok nmX10 hown hK hP hD hS 2 rfl rfl 14 (by decide) (hts (.fieldLink RX9 154 "SagMemory$Valley" "frosts" "I") (wl_mem 1 rfl)) (fun _ h9 => h9) rfl (by decide +kernel) rfl rfl (Nat.le_of_ble_eq_true rfl) dX9_parseFrost_70 (fun H locs hP hD hS => ?_)
        have hP : va_P (dC, dI) vwCl (List.flatten [(wTape qT k (qB 0) vz21 tz22 az23), (wValley qB k (va_up (va_up vB 5 xz29) 4 xz30) bB cB wB aB eB)] ++ List.flatten ([] : List va_W)) H := hP
        have hD : va_D A (List.flatten [(wTape qT k (qB 0) vz21 tz22 az23), (wValley qB k (va_up (va_up vB 5 xz29) 4 xz30) bB cB wB aB eB)] ++ List.flatten ([] : List va_W)) := hD
        refine lv_iconst (v := 1) hx hb dX9_parseFrost_73 (by decide) ?_
        rw [hQ]
        exact W.zret (v := (1 : Int32)) hx hb hr rfl (fun t ht hW => ⟨⟨(1 : Int32), (), rfl, (by show (1 : Int) = 0 ∨ (1 : Int) = 1; omega), vz21, tz22, az23, (va_up (va_up vB 5 xz29) 4 xz30), bB, cB, wB, aB, eB, htz22, hbB, hcB, hwB, heB, by rw [ht]; exact hP⟩, hS.F ht⟩) hS.2.2 dX9_parseFrost_74
      · skip
        have zz31 : rz20.toInt = (0 : Int) := zi_eq.mp cz26
        refine lv_iconst (v := 0) hx hb dX9_parseFrost_40 (by decide) ?_
        rw [hQ]
        exact W.zret (v := (0 : Int32)) hx hb hr rfl (fun t ht hW => ⟨⟨(0 : Int32), (), rfl, (by show (0 : Int) = 0 ∨ (0 : Int) = 1; omega), vz21, tz22, az23, vB, bB, cB, wB, aB, eB, htz22, hbB, hcB, hwB, heB, by rw [ht]; exact hP⟩, hS.F ht⟩) hS.2.2 dX9_parseFrost_41
  · skip
    have bz32 := fb_rng (vB 4)
    have zz33 : ¬ (vB 4).toInt < (4 : Int) := fun h9 => cz1 (zi_lt.mpr h9)
    refine lv_aload_n hx hb dX9_parseFrost_11 rfl (lv_at hl 0 rfl) ?_
    refine lv_iconst (v := 3) hx hb dX9_parseFrost_12 (by decide) ?_
    have hPc := hP.sub (ws' := (List.flatten [(wTape qT k (qB 0) vT tT aT)] ++ List.flatten ([] : List va_W))) [0, 1] rfl
    have hC : [0, 1].map (fun i => (List.flatten [(wTape qT k (qB 0) vT tT aT), (wValley qB k vB bB cB wB aB eB)] ++ List.flatten ([] : List va_W))[i]?) = (List.flatten [(wTape qT k (qB 0) vT tT aT)] ++ List.flatten ([] : List va_W)).map some := rfl
    have hDc := hD.sub [0, 1] (by decide) hC
    have hFc := va_free hD hS hA [0, 1] hC
    refine va_calli (va_runV (As := [.int 3]) (rest := []) ⟨hx, hb, hml, hown, hts⟩ (c_X9_fail l dC dI k s.heap.size qT (qB 0) vT tT aT (3 : Int32) htT) (cwV 1 hts (gk_V (wl_mem 14 rfl) (wl_mem 15 rfl) (wl_mem 16 rfl) (wl_mem 5 rfl) (fun w h => List.mem_cons_of_mem _ (List.mem_append_right _ (List.mem_append_right _ (List.mem_append_right _ (List.mem_append_right _ (List.mem_append_right _ (List.mem_append_right _ (List.mem_append_left _ h)))))))) wkg_c_X9_fail) rfl rfl rfl (by decide +kernel) ⟨Nat.le_of_ble_eq_true rfl, Nat.le_of_ble_eq_true rfl⟩) ⟨fun a U g mk q => by obtain ⟨q0, q1, qP, qK, qD⟩ := q; exact ⟨q0, q1, qP, va_K.moved (u := U) (U := U.calling g mk a) (Vm.Alike.refl U.vm) qK, qD⟩, va_recv hK hPc (ci := 9) (q0 := 0) rfl rfl, fun U hU hW => ⟨rfl, by rw [hU], by rw [hU]; exact hPc, va_K.moved hW.alike hK, hDc.weaken (fun _ _ _ _ => trivial)⟩⟩ rfl rfl hl.1 rfl (lv_room (Nat.le_of_ble_eq_true rfl)) dX9_parseFrost_13 ⟨Nat.le_of_ble_eq_true rfl, Nat.le_of_ble_eq_true rfl⟩) hS (fun q _ h => hFc q h) hFc (fun rz35 u t H1 locs ht hvm gz34 hB hz1 hk1 hS => ?_)
    obtain ⟨vz36, tz37, az38, htz37, hP1⟩ := hB
    rw [ht] at hP1
    obtain ⟨hP, hD⟩ := w_callR hP hD hk1 hP1 [0] rfl rfl (fun _ h => absurd h List.not_mem_nil) rfl [some 0, none] rfl rfl
    clear hPc hC hDc hFc hk1 hP1
    generalize H1 = H at hP hS ⊢
    have hP : va_P (dC, dI) vwCl (List.flatten [(wTape qT k (qB 0) vz36 tz37 az38), (wValley qB k vB bB cB wB aB eB)] ++ List.flatten ([] : List va_W)) H := hP
    have hD : va_D A (List.flatten [(wTape qT k (qB 0) vz36 tz37 az38), (wValley qB k vB bB cB wB aB eB)] ++ List.flatten ([] : List va_W)) := hD
    refine W.widen (k := 0) (n := 0) (Nat.le_refl 0) (Nat.le_refl 0) ?_
    obtain ⟨pz39, pz40⟩ := gz34
    have pz39 : rz35.toInt = 0 := pz39
    have pz40 : rz35.toInt = 0 ∨ rz35.toInt = 1 := pz40
    rw [hQ]
    exact W.zret (v := rz35) hx hb hr (zb_nar (by show rz35.toInt = 0 ∨ rz35.toInt = 1; omega)) (fun t ht hW => ⟨⟨rz35, (), rfl, (by show rz35.toInt = 0 ∨ rz35.toInt = 1; omega), vz36, tz37, az38, vB, bB, cB, wB, aB, eB, htz37, hbB, hcB, hwB, heB, by rw [ht]; exact hP⟩, hS.F ht⟩) hS.2.2 dX9_parseFrost_16
def wk_c_X9_parseLine : List Cond := .code yX9_parseLine cX9_parseLine 1 (some .boolean) :: ([.fieldLink RX9 18 "SagMemory$Tape" "read" "LSagMemory$Valley;", .fieldLink RX9 48 "SagMemory$Valley" "lines" "I", .methodLink RX9 65 yX9_isWord, .instanceMethod yX9_isWord, .selects RX9 yX9_isWord yX9_isWord, .initialized RX9, .methodLink RX9 86 yX9_fail, .instanceMethod yX9_fail, .selects RX9 yX9_fail yX9_fail, .methodLink RX9 83 yX9_parseFrost, .instanceMethod yX9_parseFrost, .selects RX9 yX9_parseFrost yX9_parseFrost, .methodLink RX9 60 yX9_expectSign, .instanceMethod yX9_expectSign, .selects RX9 yX9_expectSign yX9_expectSign, .methodLink RX9 78 yX9_parseWard, .instanceMethod yX9_parseWard, .selects RX9 yX9_parseWard yX9_parseWard, .methodLink RX9 73 yX9_parseCart, .instanceMethod yX9_parseCart, .selects RX9 yX9_parseCart yX9_parseCart, .methodLink RX9 68 yX9_parseBridge, .instanceMethod yX9_parseBridge, .selects RX9 yX9_parseBridge yX9_parseBridge, .methodLink RX9 53 yX9_expect, .instanceMethod yX9_expect, .selects RX9 yX9_expect yX9_expect, .methodLink RX9 57 yX9_parseValley, .instanceMethod yX9_parseValley, .selects RX9 yX9_parseValley yX9_parseValley] ++ (wsX90 ++ (wsX100 ++ (wk_c_X9_isWord ++ (wk_c_X9_fail ++ (wk_c_X9_parseFrost ++ (wk_c_X9_expectSign ++ (wk_c_X9_parseWard ++ (wk_c_X9_parseCart ++ (wk_c_X9_parseBridge ++ (wk_c_X9_expect ++ (wk_c_X9_parseValley ++ []))))))))))))
theorem wkg_c_X9_parseLine : wk_c_X9_parseLine.all goodWord = true := by decide +kernel
set_option maxHeartbeats 4000000 in
set_option maxRecDepth 100000 in
theorem c_X9_parseLine (l : Launch) (dC : Nat → ClassId) (dI : Nat → Nat → Nat) (k : Nat → ClassId) (sz : Nat) (adK adV ln : Nat → Nat) (by9 : Nat → Nat → Int32) (qT : Nat → Nat) (vT : Nat → Int32) (tT : Nat → Int32) (aT : Nat → Nat → Int32) (qB : Nat → Nat) (vB : Nat → Int32) (bB : Nat → Int32) (cB : Nat → Int32) (wB : Nat → Int32) (aB : Nat → Nat → Int32) (eB : Nat → Nat → Int32) (htT : Rg 0 700 tT) (hbB : Rg 0 3 bB) (hcB : Rg 0 7 cB) (hwB : Rg 0 5 wB) (heB : RgA 0 99 eB) : Met l yX9_parseLine wk_c_X9_parseLine ({ frames := 7, cells := 0, slots := 0, locals := 149 }) (va_Pc [.ref (qT 0)] (fun U => U.heap.size = sz ∧ va_P (dC, dI) vwCl (List.flatten [(wTape qT k (qB 0) vT tT aT), (wValley qB k vB bB cB wB aB eB)] ++ List.flatten ([] : List va_W)) U.heap ∧ va_K (dC, dI) vwCl (tK k) U ∧ va_D (fun _ => True) (List.flatten [(wTape qT k (qB 0) vT tT aT), (wValley qB k vB bB cB wB aB eB)] ++ List.flatten ([] : List va_W)) ∧ Zt adK adV ln by9 (va_A (List.flatten [(wTape qT k (qB 0) vT tT aT), (wValley qB k vB bB cB wB aB eB)] ++ List.flatten ([] : List va_W)) sz) U U.heap)) (va_Qi (fun (r : Int32) (_ : Unit) => (r.toInt = 0 ∨ r.toInt = 1)) (fun (_ : Unit) (t : State) => ∃ (vT' : Nat → Int32) (tT' : Nat → Int32) (aT' : Nat → Nat → Int32) (vB' : Nat → Int32) (bB' : Nat → Int32) (cB' : Nat → Int32) (wB' : Nat → Int32) (aB' : Nat → Nat → Int32) (eB' : Nat → Nat → Int32), Rg 0 700 tT' ∧ Rg 0 3 bB' ∧ Rg 0 7 cB' ∧ Rg 0 5 wB' ∧ RgA 0 99 eB' ∧ va_P (dC, dI) vwCl (List.flatten [(wTape qT k (qB 0) vT' tT' aT'), (wValley qB k vB' bB' cB' wB' aB' eB')] ++ List.flatten ([] : List va_W)) t.heap) (va_A (List.flatten [(wTape qT k (qB 0) vT tT aT), (wValley qB k vB bB cB wB aB eB)] ++ List.flatten ([] : List va_W)) sz)) 0 0 (va_A (List.flatten [(wTape qT k (qB 0) vT tT aT), (wValley qB k vB bB cB wB aB eB)] ++ List.flatten ([] : List va_W)) sz) := by
  refine Met.ofW (cc := cX9_parseLine) (maxL := 1) (ret := (some .boolean)) (by decide) rfl ?_
  intro p e s m args below meth c s₁ B hml hv
  obtain ⟨rfl, hsz, hP, hK, hD0, hZ⟩ := hv
  have hx := B.exec
  have hb := B.bytes
  have hr := B.returns
  have hts := atoms_spec (ws := wk_c_X9_parseLine) B.pre
  have hown : s.vm.findClass RX9 = some m.cls := findClass_of_methodNamed B.named
  have hlocks := B.notSynchronized
  subst hsz
  have hD := hD0.self (sz := s.heap.size)
  generalize hAe : va_A (List.flatten [(wTape qT k (qB 0) vT tT aT), (wValley qB k vB bB cB wB aB eB)] ++ List.flatten ([] : List va_W)) s.heap.size = A at hD hZ ⊢
  have hA : ∀ q : Nat, s.heap.size ≤ q → A q := fun q h => by rw [← hAe]; exact Or.inr h
  have hS : va_S A s.heap s.heap [] := va_S.rf
  have hP : va_P (dC, dI) vwCl (List.flatten [(wTape qT k (qB 0) vT tT aT), (wValley qB k vB bB cB wB aB eB)] ++ List.flatten ([] : List va_W)) s.heap := hP
  have hl := lv_entry ([.ref (qT 0)]) (n := 1) (Nat.le_of_ble_eq_true rfl)
  rw [lg_entry_eq]
  generalize (lg_sl ([.ref (qT 0)]) ++ List.replicate (1 - (lg_sl ([.ref (qT 0)])).length) Slot.unset).toArray = ls at hl ⊢
  have hl : lv_has ls 1 [(0, .ref (qT 0))] := hl
  refine w_gen (fun Q hQ => ?_)
  refine lv_aload_n hx hb dX9_parseLine_0 rfl (lv_at hl 0 rfl) ?_
  refine va_get (D := (dC, dI)) (ci := 9) (v := .ref (qB 0)) (C := RX9) (T := TX9) (N := 10) hx hb hts (fun w h => List.mem_cons_of_mem _ (List.mem_append_right _ (List.mem_append_left _ h))) hown hK hP 0 rfl rfl 1 (by decide) (hts (.fieldLink RX9 18 "SagMemory$Tape" "read" "LSagMemory$Valley;") (wl_mem 0 rfl)) (fun _ h9 => h9) rfl dX9_parseLine_1 ?_
  refine va_get (D := (dC, dI)) (ci := 10) (v := .int (vB 0)) (C := RX10) (T := TX10) (N := 16) hx hb hts (fun w h => List.mem_cons_of_mem _ (List.mem_append_right _ (List.mem_append_right _ (List.mem_append_left _ h)))) hown hK hP 2 rfl rfl 7 (by decide) (hts (.fieldLink RX9 48 "SagMemory$Valley" "lines" "I") (wl_mem 1 rfl)) (fun _ h9 => h9) rfl dX9_parseLine_4 ?_
  refine lv_if_ne (tgt := 39) hx hb dX9_parseLine_7 (by decide) (fun cz1 => ?_) (fun cz1 => ?_)
  · skip
    have zz2 : ¬ (vB 0).toInt = (0 : Int) := fun h9 => cz1 (zi_eq.mpr h9)
    refine lv_aload_n hx hb dX9_parseLine_39 rfl (lv_at hl 0 rfl) ?_
    refine va_ldcS (own := RX9) (index := 63) (tx := "bridge") (q := adK 4) hx hb hown (hZ.2.2.2 4 (by decide)) dX9_parseLine_40 ?_
    have hPc := hP.sub (ws' := (List.flatten [(wTape qT k (qB 0) vT tT aT)])) [0, 1] rfl
    refine vp_callSi (va_Run.run (va_runV (As := [.ref (adK 4)]) (rest := []) ⟨hx, hb, hml, hown, hts⟩ (c_X9_isWord l dC dI k adK adV ln by9 qT (qB 0) vT tT aT 4 (by decide) htT) (cwV 1 hts (gk_V (wl_mem 2 rfl) (wl_mem 3 rfl) (wl_mem 4 rfl) (wl_mem 5 rfl) (fun w h => List.mem_cons_of_mem _ (List.mem_append_right _ (List.mem_append_right _ (List.mem_append_right _ (List.mem_append_left _ h))))) wkg_c_X9_isWord) rfl rfl rfl (by decide +kernel) ⟨Nat.le_of_ble_eq_true rfl, Nat.le_of_ble_eq_true rfl⟩) ⟨fun a U g mk q => by obtain ⟨q0, qP, qK, qZ⟩ := q; exact ⟨q0, qP, va_K.moved (u := U) (U := U.calling g mk a) (Vm.Alike.refl U.vm) qK, qZ.calling⟩, va_recv hK hPc (ci := 9) (q0 := 0) rfl rfl, fun U hU hW => ⟨rfl, by rw [hU]; exact hPc, va_K.moved hW.alike hK, hZ.pass hS hU hW (fun _ h => h.elim)⟩⟩ rfl rfl hl.1 rfl (lv_room (Nat.le_of_ble_eq_true rfl)) dX9_parseLine_42 ⟨Nat.le_of_ble_eq_true rfl, Nat.le_of_ble_eq_true rfl⟩)) (fun rz4 gz3 => ?_)
    clear hPc
    have pz5 := gz3
    have pz5 : rz4.toInt = 0 ∨ rz4.toInt = 1 := pz5
    refine lv_if_eq (tgt := 68) hx hb dX9_parseLine_45 (by decide) (fun cz6 => ?_) (fun cz6 => ?_)
    · skip
      have zz7 : rz4.toInt = (0 : Int) := zi_eq.mp cz6
      refine lv_aload_n hx hb dX9_parseLine_68 rfl (lv_at hl 0 rfl) ?_
      refine va_ldcS (own := RX9) (index := 71) (tx := "cart") (q := adK 7) hx hb hown (hZ.2.2.2 7 (by decide)) dX9_parseLine_69 ?_
      have hPc := hP.sub (ws' := (List.flatten [(wTape qT k (qB 0) vT tT aT)])) [0, 1] rfl
      refine vp_callSi (va_Run.run (va_runV (As := [.ref (adK 7)]) (rest := []) ⟨hx, hb, hml, hown, hts⟩ (c_X9_isWord l dC dI k adK adV ln by9 qT (qB 0) vT tT aT 7 (by decide) htT) (cwV 1 hts (gk_V (wl_mem 2 rfl) (wl_mem 3 rfl) (wl_mem 4 rfl) (wl_mem 5 rfl) (fun w h => List.mem_cons_of_mem _ (List.mem_append_right _ (List.mem_append_right _ (List.mem_append_right _ (List.mem_append_left _ h))))) wkg_c_X9_isWord) rfl rfl rfl (by decide +kernel) ⟨Nat.le_of_ble_eq_true rfl, Nat.le_of_ble_eq_true rfl⟩) ⟨fun a U g mk q => by obtain ⟨q0, qP, qK, qZ⟩ := q; exact ⟨q0, qP, va_K.moved (u := U) (U := U.calling g mk a) (Vm.Alike.refl U.vm) qK, qZ.calling⟩, va_recv hK hPc (ci := 9) (q0 := 0) rfl rfl, fun U hU hW => ⟨rfl, by rw [hU]; exact hPc, va_K.moved hW.alike hK, hZ.pass hS hU hW (fun _ h => h.elim)⟩⟩ rfl rfl hl.1 rfl (lv_room (Nat.le_of_ble_eq_true rfl)) dX9_parseLine_71 ⟨Nat.le_of_ble_eq_true rfl, Nat.le_of_ble_eq_true rfl⟩)) (fun rz9 gz8 => ?_)
      clear hPc
      have pz10 := gz8
      have pz10 : rz9.toInt = 0 ∨ rz9.toInt = 1 := pz10
      refine lv_if_eq (tgt := 97) hx hb dX9_parseLine_74 (by decide) (fun cz11 => ?_) (fun cz11 => ?_)
      · skip
        have zz12 : rz9.toInt = (0 : Int) := zi_eq.mp cz11
        refine lv_aload_n hx hb dX9_parseLine_97 rfl (lv_at hl 0 rfl) ?_
        refine va_ldcS (own := RX9) (index := 76) (tx := "ward") (q := adK 9) hx hb hown (hZ.2.2.2 9 (by decide)) dX9_parseLine_98 ?_
        have hPc := hP.sub (ws' := (List.flatten [(wTape qT k (qB 0) vT tT aT)])) [0, 1] rfl
        refine vp_callSi (va_Run.run (va_runV (As := [.ref (adK 9)]) (rest := []) ⟨hx, hb, hml, hown, hts⟩ (c_X9_isWord l dC dI k adK adV ln by9 qT (qB 0) vT tT aT 9 (by decide) htT) (cwV 1 hts (gk_V (wl_mem 2 rfl) (wl_mem 3 rfl) (wl_mem 4 rfl) (wl_mem 5 rfl) (fun w h => List.mem_cons_of_mem _ (List.mem_append_right _ (List.mem_append_right _ (List.mem_append_right _ (List.mem_append_left _ h))))) wkg_c_X9_isWord) rfl rfl rfl (by decide +kernel) ⟨Nat.le_of_ble_eq_true rfl, Nat.le_of_ble_eq_true rfl⟩) ⟨fun a U g mk q => by obtain ⟨q0, qP, qK, qZ⟩ := q; exact ⟨q0, qP, va_K.moved (u := U) (U := U.calling g mk a) (Vm.Alike.refl U.vm) qK, qZ.calling⟩, va_recv hK hPc (ci := 9) (q0 := 0) rfl rfl, fun U hU hW => ⟨rfl, by rw [hU]; exact hPc, va_K.moved hW.alike hK, hZ.pass hS hU hW (fun _ h => h.elim)⟩⟩ rfl rfl hl.1 rfl (lv_room (Nat.le_of_ble_eq_true rfl)) dX9_parseLine_100 ⟨Nat.le_of_ble_eq_true rfl, Nat.le_of_ble_eq_true rfl⟩)) (fun rz14 gz13 => ?_)
        clear hPc
        have pz15 := gz13
        have pz15 : rz14.toInt = 0 ∨ rz14.toInt = 1 := pz15
        refine lv_if_eq (tgt := 126) hx hb dX9_parseLine_103 (by decide) (fun cz16 => ?_) (fun cz16 => ?_)
        · skip
          have zz17 : rz14.toInt = (0 : Int) := zi_eq.mp cz16
          refine lv_aload_n hx hb dX9_parseLine_126 rfl (lv_at hl 0 rfl) ?_
          refine va_ldcS (own := RX9) (index := 81) (tx := "frost") (q := adK 2) hx hb hown (hZ.2.2.2 2 (by decide)) dX9_parseLine_127 ?_
          have hPc := hP.sub (ws' := (List.flatten [(wTape qT k (qB 0) vT tT aT)])) [0, 1] rfl
          refine vp_callSi (va_Run.run (va_runV (As := [.ref (adK 2)]) (rest := []) ⟨hx, hb, hml, hown, hts⟩ (c_X9_isWord l dC dI k adK adV ln by9 qT (qB 0) vT tT aT 2 (by decide) htT) (cwV 1 hts (gk_V (wl_mem 2 rfl) (wl_mem 3 rfl) (wl_mem 4 rfl) (wl_mem 5 rfl) (fun w h => List.mem_cons_of_mem _ (List.mem_append_right _ (List.mem_append_right _ (List.mem_append_right _ (List.mem_append_left _ h))))) wkg_c_X9_isWord) rfl rfl rfl (by decide +kernel) ⟨Nat.le_of_ble_eq_true rfl, Nat.le_of_ble_eq_true rfl⟩) ⟨fun a U g mk q => by obtain ⟨q0, qP, qK, qZ⟩ := q; exact ⟨q0, qP, va_K.moved (u := U) (U := U.calling g mk a) (Vm.Alike.refl U.vm) qK, qZ.calling⟩, va_recv hK hPc (ci := 9) (q0 := 0) rfl rfl, fun U hU hW => ⟨rfl, by rw [hU]; exact hPc, va_K.moved hW.alike hK, hZ.pass hS hU hW (fun _ h => h.elim)⟩⟩ rfl rfl hl.1 rfl (lv_room (Nat.le_of_ble_eq_true rfl)) dX9_parseLine_129 ⟨Nat.le_of_ble_eq_true rfl, Nat.le_of_ble_eq_true rfl⟩)) (fun rz19 gz18 => ?_)
          clear hPc
          have pz20 := gz18
          have pz20 : rz19.toInt = 0 ∨ rz19.toInt = 1 := pz20
          refine lv_if_eq (tgt := 155) hx hb dX9_parseLine_132 (by decide) (fun cz21 => ?_) (fun cz21 => ?_)
          · skip
            have zz22 : rz19.toInt = (0 : Int) := zi_eq.mp cz21
            refine lv_aload_n hx hb dX9_parseLine_155 rfl (lv_at hl 0 rfl) ?_
            refine lv_iconst (v := 1) hx hb dX9_parseLine_156 (by decide) ?_
            have hPc := hP.sub (ws' := (List.flatten [(wTape qT k (qB 0) vT tT aT)] ++ List.flatten ([] : List va_W))) [0, 1] rfl
            have hC : [0, 1].map (fun i => (List.flatten [(wTape qT k (qB 0) vT tT aT), (wValley qB k vB bB cB wB aB eB)] ++ List.flatten ([] : List va_W))[i]?) = (List.flatten [(wTape qT k (qB 0) vT tT aT)] ++ List.flatten ([] : List va_W)).map some := rfl
            have hDc := hD.sub [0, 1] (by decide) hC
            have hFc := va_free hD hS hA [0, 1] hC
            refine va_calli (va_runV (As := [.int 1]) (rest := []) ⟨hx, hb, hml, hown, hts⟩ (c_X9_fail l dC dI k s.heap.size qT (qB 0) vT tT aT (1 : Int32) htT) (cwV 1 hts (gk_V (wl_mem 6 rfl) (wl_mem 7 rfl) (wl_mem 8 rfl) (wl_mem 5 rfl) (fun w h => List.mem_cons_of_mem _ (List.mem_append_right _ (List.mem_append_right _ (List.mem_append_right _ (List.mem_append_right _ (List.mem_append_left _ h)))))) wkg_c_X9_fail) rfl rfl rfl (by decide +kernel) ⟨Nat.le_of_ble_eq_true rfl, Nat.le_of_ble_eq_true rfl⟩) ⟨fun a U g mk q => by obtain ⟨q0, q1, qP, qK, qD⟩ := q; exact ⟨q0, q1, qP, va_K.moved (u := U) (U := U.calling g mk a) (Vm.Alike.refl U.vm) qK, qD⟩, va_recv hK hPc (ci := 9) (q0 := 0) rfl rfl, fun U hU hW => ⟨rfl, by rw [hU], by rw [hU]; exact hPc, va_K.moved hW.alike hK, hDc.weaken (fun _ _ _ _ => trivial)⟩⟩ rfl rfl hl.1 rfl (lv_room (Nat.le_of_ble_eq_true rfl)) dX9_parseLine_157 ⟨Nat.le_of_ble_eq_true rfl, Nat.le_of_ble_eq_true rfl⟩) hS (fun q _ h => hFc q h) hFc (fun rz24 u t H1 locs ht hvm gz23 hB hz1 hk1 hS => ?_)
            obtain ⟨vz25, tz26, az27, htz26, hP1⟩ := hB
            rw [ht] at hP1
            obtain ⟨hP, hD⟩ := w_callR hP hD hk1 hP1 [0] rfl rfl (fun _ h => absurd h List.not_mem_nil) rfl [some 0, none] rfl rfl
            clear hPc hC hDc hFc hk1 hP1
            generalize H1 = H at hP hS ⊢
            have hP : va_P (dC, dI) vwCl (List.flatten [(wTape qT k (qB 0) vz25 tz26 az27), (wValley qB k vB bB cB wB aB eB)] ++ List.flatten ([] : List va_W)) H := hP
            have hD : va_D A (List.flatten [(wTape qT k (qB 0) vz25 tz26 az27), (wValley qB k vB bB cB wB aB eB)] ++ List.flatten ([] : List va_W)) := hD
            refine W.widen (k := 0) (n := 0) (Nat.le_refl 0) (Nat.le_refl 0) ?_
            obtain ⟨pz28, pz29⟩ := gz23
            have pz28 : rz24.toInt = 0 := pz28
            have pz29 : rz24.toInt = 0 ∨ rz24.toInt = 1 := pz29
            rw [hQ]
            exact W.zret (v := rz24) hx hb hr (zb_nar (by show rz24.toInt = 0 ∨ rz24.toInt = 1; omega)) (fun t ht hW => ⟨⟨rz24, (), rfl, (by show rz24.toInt = 0 ∨ rz24.toInt = 1; omega), vz25, tz26, az27, vB, bB, cB, wB, aB, eB, htz26, hbB, hcB, hwB, heB, by rw [ht]; exact hP⟩, hS.F ht⟩) hS.2.2 dX9_parseLine_160
          · skip
            have zz30 : ¬ rz19.toInt = (0 : Int) := fun h9 => cz21 (zi_eq.mpr h9)
            refine lv_aload_n hx hb dX9_parseLine_135 rfl (lv_at hl 0 rfl) ?_
            have hPc := hP
            have hC : [0, 1, 2, 3, 4, 5, 6, 7, 8, 9].map (fun i => (List.flatten [(wTape qT k (qB 0) vT tT aT), (wValley qB k vB bB cB wB aB eB)] ++ List.flatten ([] : List va_W))[i]?) = (List.flatten [(wTape qT k (qB 0) vT tT aT), (wValley qB k vB bB cB wB aB eB)] ++ List.flatten ([] : List va_W)).map some := rfl
            have hDc := hD.sub [0, 1, 2, 3, 4, 5, 6, 7, 8, 9] (by decide) hC
            have hFc := va_free hD hS hA [0, 1, 2, 3, 4, 5, 6, 7, 8, 9] hC
            refine va_calli (va_runV (As := []) (rest := []) ⟨hx, hb, hml, hown, hts⟩ (c_X9_parseFrost l dC dI k s.heap.size adK adV ln by9 qT vT tT aT qB vB bB cB wB aB eB htT hbB hcB hwB heB) (cwV 0 hts (gk_V (wl_mem 9 rfl) (wl_mem 10 rfl) (wl_mem 11 rfl) (wl_mem 5 rfl) (fun w h => List.mem_cons_of_mem _ (List.mem_append_right _ (List.mem_append_right _ (List.mem_append_right _ (List.mem_append_right _ (List.mem_append_right _ (List.mem_append_left _ h))))))) wkg_c_X9_parseFrost) rfl rfl rfl (by decide +kernel) ⟨Nat.le_of_ble_eq_true rfl, Nat.le_of_ble_eq_true rfl⟩) ⟨fun a U g mk q => by obtain ⟨q0, q1, qP, qK, qD, qZ⟩ := q; exact ⟨q0, q1, qP, va_K.moved (u := U) (U := U.calling g mk a) (Vm.Alike.refl U.vm) qK, qD, qZ.calling⟩, va_recv hK hPc (ci := 9) (q0 := 0) rfl rfl, fun U hU hW => ⟨rfl, by rw [hU], by rw [hU]; exact hPc, va_K.moved hW.alike hK, hDc.weaken (fun _ _ _ _ => trivial), hZ.pass hS hU hW hFc⟩⟩ rfl rfl hl.1 rfl (lv_room (Nat.le_of_ble_eq_true rfl)) dX9_parseLine_136 ⟨Nat.le_of_ble_eq_true rfl, Nat.le_of_ble_eq_true rfl⟩) hS (fun q _ h => hFc q h) hFc (fun rz32 u t H1 locs ht hvm gz31 hB hz1 hk1 hS => ?_)
            obtain ⟨vz33, tz34, az35, vz36, bz37, cz38, wz39, az40, ez41, htz34, hbz37, hcz38, hwz39, hez41, hP1⟩ := hB
            rw [ht] at hP1
            obtain ⟨hP, hD⟩ := w_callR hP hD hk1 hP1 [0, 1] rfl rfl (fun _ h => absurd h List.not_mem_nil) rfl [some 0, some 1] rfl rfl
            clear hPc hC hDc hFc hk1 hP1
            generalize H1 = H at hP hS ⊢
            have hP : va_P (dC, dI) vwCl (List.flatten [(wTape qT k (qB 0) vz33 tz34 az35), (wValley qB k vz36 bz37 cz38 wz39 az40 ez41)] ++ List.flatten ([] : List va_W)) H := hP
            have hD : va_D A (List.flatten [(wTape qT k (qB 0) vz33 tz34 az35), (wValley qB k vz36 bz37 cz38 wz39 az40 ez41)] ++ List.flatten ([] : List va_W)) := hD
            refine W.widen (k := 0) (n := 0) (Nat.le_refl 0) (Nat.le_refl 0) ?_
            have pz42 := gz31
            have pz42 : rz32.toInt = 0 ∨ rz32.toInt = 1 := pz42
            refine lv_if_eq (tgt := 153) hx hb dX9_parseLine_139 (by decide) (fun cz43 => ?_) (fun cz43 => ?_)
            · skip
              have zz44 : rz32.toInt = (0 : Int) := zi_eq.mp cz43
              refine lv_iconst (v := 0) hx hb dX9_parseLine_153 (by decide) ?_
              rw [hQ]
              exact W.zret (v := (0 : Int32)) hx hb hr rfl (fun t ht hW => ⟨⟨(0 : Int32), (), rfl, (by show (0 : Int) = 0 ∨ (0 : Int) = 1; omega), vz33, tz34, az35, vz36, bz37, cz38, wz39, az40, ez41, htz34, hbz37, hcz38, hwz39, hez41, by rw [ht]; exact hP⟩, hS.F ht⟩) hS.2.2 dX9_parseLine_154
            · skip
              have zz45 : ¬ rz32.toInt = (0 : Int) := fun h9 => cz43 (zi_eq.mpr h9)
              refine lv_aload_n hx hb dX9_parseLine_142 rfl (lv_at hl 0 rfl) ?_
              have hPc := hP.sub (ws' := (List.flatten [(wTape qT k (qB 0) vz33 tz34 az35)] ++ List.flatten ([] : List va_W))) [0, 1] rfl
              have hC : [0, 1].map (fun i => (List.flatten [(wTape qT k (qB 0) vz33 tz34 az35), (wValley qB k vz36 bz37 cz38 wz39 az40 ez41)] ++ List.flatten ([] : List va_W))[i]?) = (List.flatten [(wTape qT k (qB 0) vz33 tz34 az35)] ++ List.flatten ([] : List va_W)).map some := rfl
              have hDc := hD.sub [0, 1] (by decide) hC
              have hFc := va_free hD hS hA [0, 1] hC
              refine va_calli (va_runV (As := []) (rest := []) ⟨hx, hb, hml, hown, hts⟩ (c_X9_expectSign l dC dI k H.size qT (qB 0) vz33 tz34 az35 htz34) (cwV 0 hts (gk_V (wl_mem 12 rfl) (wl_mem 13 rfl) (wl_mem 14 rfl) (wl_mem 5 rfl) (fun w h => List.mem_cons_of_mem _ (List.mem_append_right _ (List.mem_append_right _ (List.mem_append_right _ (List.mem_append_right _ (List.mem_append_right _ (List.mem_append_right _ (List.mem_append_left _ h)))))))) wkg_c_X9_expectSign) rfl rfl rfl (by decide +kernel) ⟨Nat.le_of_ble_eq_true rfl, Nat.le_of_ble_eq_true rfl⟩) ⟨fun a U g mk q => by obtain ⟨q0, q1, qP, qK, qD⟩ := q; exact ⟨q0, q1, qP, va_K.moved (u := U) (U := U.calling g mk a) (Vm.Alike.refl U.vm) qK, qD⟩, va_recv hK hPc (ci := 9) (q0 := 0) rfl rfl, fun U hU hW => ⟨rfl, by rw [hU], by rw [hU]; exact hPc, va_K.moved hW.alike hK, hDc.weaken (fun _ _ _ _ => trivial)⟩⟩ rfl rfl hl.1 rfl (lv_room (Nat.le_of_ble_eq_true rfl)) dX9_parseLine_143 ⟨Nat.le_of_ble_eq_true rfl, Nat.le_of_ble_eq_true rfl⟩) hS (fun q _ h => hFc q h) hFc (fun rz47 u t H1 locs ht hvm gz46 hB hz1 hk1 hS => ?_)
              obtain ⟨vz48, tz49, az50, htz49, hP1⟩ := hB
              rw [ht] at hP1
              obtain ⟨hP, hD⟩ := w_callR hP hD hk1 hP1 [0] rfl rfl (fun _ h => absurd h List.not_mem_nil) rfl [some 0, none] rfl rfl
              clear hPc hC hDc hFc hk1 hP1
              generalize H1 = H at hP hS ⊢
              have hP : va_P (dC, dI) vwCl (List.flatten [(wTape qT k (qB 0) vz48 tz49 az50), (wValley qB k vz36 bz37 cz38 wz39 az40 ez41)] ++ List.flatten ([] : List va_W)) H := hP
              have hD : va_D A (List.flatten [(wTape qT k (qB 0) vz48 tz49 az50), (wValley qB k vz36 bz37 cz38 wz39 az40 ez41)] ++ List.flatten ([] : List va_W)) := hD
              refine W.widen (k := 0) (n := 0) (Nat.le_refl 0) (Nat.le_refl 0) ?_
              have pz51 := gz46
              have pz51 : rz47.toInt = 0 ∨ rz47.toInt = 1 := pz51
              refine lv_if_eq (tgt := 153) hx hb dX9_parseLine_146 (by decide) (fun cz52 => ?_) (fun cz52 => ?_)
              · skip
                have zz53 : rz47.toInt = (0 : Int) := zi_eq.mp cz52
                refine lv_iconst (v := 0) hx hb dX9_parseLine_153 (by decide) ?_
                rw [hQ]
                exact W.zret (v := (0 : Int32)) hx hb hr rfl (fun t ht hW => ⟨⟨(0 : Int32), (), rfl, (by show (0 : Int) = 0 ∨ (0 : Int) = 1; omega), vz48, tz49, az50, vz36, bz37, cz38, wz39, az40, ez41, htz49, hbz37, hcz38, hwz39, hez41, by rw [ht]; exact hP⟩, hS.F ht⟩) hS.2.2 dX9_parseLine_154
              · skip
                have zz54 : ¬ rz47.toInt = (0 : Int) := fun h9 => cz52 (zi_eq.mpr h9)
                refine lv_iconst (v := 1) hx hb dX9_parseLine_149 (by decide) ?_
                refine lv_goto (tgt := 154) hx hb dX9_parseLine_150 (by decide) ?_
                rw [hQ]
                exact W.zret (v := (1 : Int32)) hx hb hr rfl (fun t ht hW => ⟨⟨(1 : Int32), (), rfl, (by show (1 : Int) = 0 ∨ (1 : Int) = 1; omega), vz48, tz49, az50, vz36, bz37, cz38, wz39, az40, ez41, htz49, hbz37, hcz38, hwz39, hez41, by rw [ht]; exact hP⟩, hS.F ht⟩) hS.2.2 dX9_parseLine_154
        · skip
          have zz55 : ¬ rz14.toInt = (0 : Int) := fun h9 => cz16 (zi_eq.mpr h9)
          refine lv_aload_n hx hb dX9_parseLine_106 rfl (lv_at hl 0 rfl) ?_
          have hPc := hP
          have hC : [0, 1, 2, 3, 4, 5, 6, 7, 8, 9].map (fun i => (List.flatten [(wTape qT k (qB 0) vT tT aT), (wValley qB k vB bB cB wB aB eB)] ++ List.flatten ([] : List va_W))[i]?) = (List.flatten [(wTape qT k (qB 0) vT tT aT), (wValley qB k vB bB cB wB aB eB)] ++ List.flatten ([] : List va_W)).map some := rfl
          have hDc := hD.sub [0, 1, 2, 3, 4, 5, 6, 7, 8, 9] (by decide) hC
          have hFc := va_free hD hS hA [0, 1, 2, 3, 4, 5, 6, 7, 8, 9] hC
          refine va_calli (va_runV (As := []) (rest := []) ⟨hx, hb, hml, hown, hts⟩ (c_X9_parseWard l dC dI k s.heap.size adK adV ln by9 qT vT tT aT qB vB bB cB wB aB eB htT hbB hcB hwB heB) (cwV 0 hts (gk_V (wl_mem 15 rfl) (wl_mem 16 rfl) (wl_mem 17 rfl) (wl_mem 5 rfl) (fun w h => List.mem_cons_of_mem _ (List.mem_append_right _ (List.mem_append_right _ (List.mem_append_right _ (List.mem_append_right _ (List.mem_append_right _ (List.mem_append_right _ (List.mem_append_right _ (List.mem_append_left _ h))))))))) wkg_c_X9_parseWard) rfl rfl rfl (by decide +kernel) ⟨Nat.le_of_ble_eq_true rfl, Nat.le_of_ble_eq_true rfl⟩) ⟨fun a U g mk q => by obtain ⟨q0, q1, qP, qK, qD, qZ⟩ := q; exact ⟨q0, q1, qP, va_K.moved (u := U) (U := U.calling g mk a) (Vm.Alike.refl U.vm) qK, qD, qZ.calling⟩, va_recv hK hPc (ci := 9) (q0 := 0) rfl rfl, fun U hU hW => ⟨rfl, by rw [hU], by rw [hU]; exact hPc, va_K.moved hW.alike hK, hDc.weaken (fun _ _ _ _ => trivial), hZ.pass hS hU hW hFc⟩⟩ rfl rfl hl.1 rfl (lv_room (Nat.le_of_ble_eq_true rfl)) dX9_parseLine_107 ⟨Nat.le_of_ble_eq_true rfl, Nat.le_of_ble_eq_true rfl⟩) hS (fun q _ h => hFc q h) hFc (fun rz57 u t H1 locs ht hvm gz56 hB hz1 hk1 hS => ?_)
          obtain ⟨vz58, tz59, az60, vz61, bz62, cz63, wz64, az65, ez66, htz59, hbz62, hcz63, hwz64, hez66, hP1⟩ := hB
          rw [ht] at hP1
          obtain ⟨hP, hD⟩ := w_callR hP hD hk1 hP1 [0, 1] rfl rfl (fun _ h => absurd h List.not_mem_nil) rfl [some 0, some 1] rfl rfl
          clear hPc hC hDc hFc hk1 hP1
          generalize H1 = H at hP hS ⊢
          have hP : va_P (dC, dI) vwCl (List.flatten [(wTape qT k (qB 0) vz58 tz59 az60), (wValley qB k vz61 bz62 cz63 wz64 az65 ez66)] ++ List.flatten ([] : List va_W)) H := hP
          have hD : va_D A (List.flatten [(wTape qT k (qB 0) vz58 tz59 az60), (wValley qB k vz61 bz62 cz63 wz64 az65 ez66)] ++ List.flatten ([] : List va_W)) := hD
          refine W.widen (k := 0) (n := 0) (Nat.le_refl 0) (Nat.le_refl 0) ?_
          have pz67 := gz56
          have pz67 : rz57.toInt = 0 ∨ rz57.toInt = 1 := pz67
          refine lv_if_eq (tgt := 124) hx hb dX9_parseLine_110 (by decide) (fun cz68 => ?_) (fun cz68 => ?_)
          · skip
            have zz69 : rz57.toInt = (0 : Int) := zi_eq.mp cz68
            refine lv_iconst (v := 0) hx hb dX9_parseLine_124 (by decide) ?_
            rw [hQ]
            exact W.zret (v := (0 : Int32)) hx hb hr rfl (fun t ht hW => ⟨⟨(0 : Int32), (), rfl, (by show (0 : Int) = 0 ∨ (0 : Int) = 1; omega), vz58, tz59, az60, vz61, bz62, cz63, wz64, az65, ez66, htz59, hbz62, hcz63, hwz64, hez66, by rw [ht]; exact hP⟩, hS.F ht⟩) hS.2.2 dX9_parseLine_125
          · skip
            have zz70 : ¬ rz57.toInt = (0 : Int) := fun h9 => cz68 (zi_eq.mpr h9)
            refine lv_aload_n hx hb dX9_parseLine_113 rfl (lv_at hl 0 rfl) ?_
            have hPc := hP.sub (ws' := (List.flatten [(wTape qT k (qB 0) vz58 tz59 az60)] ++ List.flatten ([] : List va_W))) [0, 1] rfl
            have hC : [0, 1].map (fun i => (List.flatten [(wTape qT k (qB 0) vz58 tz59 az60), (wValley qB k vz61 bz62 cz63 wz64 az65 ez66)] ++ List.flatten ([] : List va_W))[i]?) = (List.flatten [(wTape qT k (qB 0) vz58 tz59 az60)] ++ List.flatten ([] : List va_W)).map some := rfl
            have hDc := hD.sub [0, 1] (by decide) hC
            have hFc := va_free hD hS hA [0, 1] hC
            refine va_calli (va_runV (As := []) (rest := []) ⟨hx, hb, hml, hown, hts⟩ (c_X9_expectSign l dC dI k H.size qT (qB 0) vz58 tz59 az60 htz59) (cwV 0 hts (gk_V (wl_mem 12 rfl) (wl_mem 13 rfl) (wl_mem 14 rfl) (wl_mem 5 rfl) (fun w h => List.mem_cons_of_mem _ (List.mem_append_right _ (List.mem_append_right _ (List.mem_append_right _ (List.mem_append_right _ (List.mem_append_right _ (List.mem_append_right _ (List.mem_append_left _ h)))))))) wkg_c_X9_expectSign) rfl rfl rfl (by decide +kernel) ⟨Nat.le_of_ble_eq_true rfl, Nat.le_of_ble_eq_true rfl⟩) ⟨fun a U g mk q => by obtain ⟨q0, q1, qP, qK, qD⟩ := q; exact ⟨q0, q1, qP, va_K.moved (u := U) (U := U.calling g mk a) (Vm.Alike.refl U.vm) qK, qD⟩, va_recv hK hPc (ci := 9) (q0 := 0) rfl rfl, fun U hU hW => ⟨rfl, by rw [hU], by rw [hU]; exact hPc, va_K.moved hW.alike hK, hDc.weaken (fun _ _ _ _ => trivial)⟩⟩ rfl rfl hl.1 rfl (lv_room (Nat.le_of_ble_eq_true rfl)) dX9_parseLine_114 ⟨Nat.le_of_ble_eq_true rfl, Nat.le_of_ble_eq_true rfl⟩) hS (fun q _ h => hFc q h) hFc (fun rz72 u t H1 locs ht hvm gz71 hB hz1 hk1 hS => ?_)
            obtain ⟨vz73, tz74, az75, htz74, hP1⟩ := hB
            rw [ht] at hP1
            obtain ⟨hP, hD⟩ := w_callR hP hD hk1 hP1 [0] rfl rfl (fun _ h => absurd h List.not_mem_nil) rfl [some 0, none] rfl rfl
            clear hPc hC hDc hFc hk1 hP1
            generalize H1 = H at hP hS ⊢
            have hP : va_P (dC, dI) vwCl (List.flatten [(wTape qT k (qB 0) vz73 tz74 az75), (wValley qB k vz61 bz62 cz63 wz64 az65 ez66)] ++ List.flatten ([] : List va_W)) H := hP
            have hD : va_D A (List.flatten [(wTape qT k (qB 0) vz73 tz74 az75), (wValley qB k vz61 bz62 cz63 wz64 az65 ez66)] ++ List.flatten ([] : List va_W)) := hD
            refine W.widen (k := 0) (n := 0) (Nat.le_refl 0) (Nat.le_refl 0) ?_
            have pz76 := gz71
            have pz76 : rz72.toInt = 0 ∨ rz72.toInt = 1 := pz76
            refine lv_if_eq (tgt := 124) hx hb dX9_parseLine_117 (by decide) (fun cz77 => ?_) (fun cz77 => ?_)
            · skip
              have zz78 : rz72.toInt = (0 : Int) := zi_eq.mp cz77
              refine lv_iconst (v := 0) hx hb dX9_parseLine_124 (by decide) ?_
              rw [hQ]
              exact W.zret (v := (0 : Int32)) hx hb hr rfl (fun t ht hW => ⟨⟨(0 : Int32), (), rfl, (by show (0 : Int) = 0 ∨ (0 : Int) = 1; omega), vz73, tz74, az75, vz61, bz62, cz63, wz64, az65, ez66, htz74, hbz62, hcz63, hwz64, hez66, by rw [ht]; exact hP⟩, hS.F ht⟩) hS.2.2 dX9_parseLine_125
            · skip
              have zz79 : ¬ rz72.toInt = (0 : Int) := fun h9 => cz77 (zi_eq.mpr h9)
              refine lv_iconst (v := 1) hx hb dX9_parseLine_120 (by decide) ?_
              refine lv_goto (tgt := 125) hx hb dX9_parseLine_121 (by decide) ?_
              rw [hQ]
              exact W.zret (v := (1 : Int32)) hx hb hr rfl (fun t ht hW => ⟨⟨(1 : Int32), (), rfl, (by show (1 : Int) = 0 ∨ (1 : Int) = 1; omega), vz73, tz74, az75, vz61, bz62, cz63, wz64, az65, ez66, htz74, hbz62, hcz63, hwz64, hez66, by rw [ht]; exact hP⟩, hS.F ht⟩) hS.2.2 dX9_parseLine_125
      · skip
        have zz80 : ¬ rz9.toInt = (0 : Int) := fun h9 => cz11 (zi_eq.mpr h9)
        refine lv_aload_n hx hb dX9_parseLine_77 rfl (lv_at hl 0 rfl) ?_
        have hPc := hP
        have hC : [0, 1, 2, 3, 4, 5, 6, 7, 8, 9].map (fun i => (List.flatten [(wTape qT k (qB 0) vT tT aT), (wValley qB k vB bB cB wB aB eB)] ++ List.flatten ([] : List va_W))[i]?) = (List.flatten [(wTape qT k (qB 0) vT tT aT), (wValley qB k vB bB cB wB aB eB)] ++ List.flatten ([] : List va_W)).map some := rfl
        have hDc := hD.sub [0, 1, 2, 3, 4, 5, 6, 7, 8, 9] (by decide) hC
        have hFc := va_free hD hS hA [0, 1, 2, 3, 4, 5, 6, 7, 8, 9] hC
        refine va_calli (va_runV (As := []) (rest := []) ⟨hx, hb, hml, hown, hts⟩ (c_X9_parseCart l dC dI k s.heap.size adK adV ln by9 qT vT tT aT qB vB bB cB wB aB eB htT hbB hcB hwB heB) (cwV 0 hts (gk_V (wl_mem 18 rfl) (wl_mem 19 rfl) (wl_mem 20 rfl) (wl_mem 5 rfl) (fun w h => List.mem_cons_of_mem _ (List.mem_append_right _ (List.mem_append_right _ (List.mem_append_right _ (List.mem_append_right _ (List.mem_append_right _ (List.mem_append_right _ (List.mem_append_right _ (List.mem_append_right _ (List.mem_append_left _ h)))))))))) wkg_c_X9_parseCart) rfl rfl rfl (by decide +kernel) ⟨Nat.le_of_ble_eq_true rfl, Nat.le_of_ble_eq_true rfl⟩) ⟨fun a U g mk q => by obtain ⟨q0, q1, qP, qK, qD, qZ⟩ := q; exact ⟨q0, q1, qP, va_K.moved (u := U) (U := U.calling g mk a) (Vm.Alike.refl U.vm) qK, qD, qZ.calling⟩, va_recv hK hPc (ci := 9) (q0 := 0) rfl rfl, fun U hU hW => ⟨rfl, by rw [hU], by rw [hU]; exact hPc, va_K.moved hW.alike hK, hDc.weaken (fun _ _ _ _ => trivial), hZ.pass hS hU hW hFc⟩⟩ rfl rfl hl.1 rfl (lv_room (Nat.le_of_ble_eq_true rfl)) dX9_parseLine_78 ⟨Nat.le_of_ble_eq_true rfl, Nat.le_of_ble_eq_true rfl⟩) hS (fun q _ h => hFc q h) hFc (fun rz82 u t H1 locs ht hvm gz81 hB hz1 hk1 hS => ?_)
        obtain ⟨vz83, tz84, az85, vz86, bz87, cz88, wz89, az90, ez91, htz84, hbz87, hcz88, hwz89, hez91, hP1⟩ := hB
        rw [ht] at hP1
        obtain ⟨hP, hD⟩ := w_callR hP hD hk1 hP1 [0, 1] rfl rfl (fun _ h => absurd h List.not_mem_nil) rfl [some 0, some 1] rfl rfl
        clear hPc hC hDc hFc hk1 hP1
        generalize H1 = H at hP hS ⊢
        have hP : va_P (dC, dI) vwCl (List.flatten [(wTape qT k (qB 0) vz83 tz84 az85), (wValley qB k vz86 bz87 cz88 wz89 az90 ez91)] ++ List.flatten ([] : List va_W)) H := hP
        have hD : va_D A (List.flatten [(wTape qT k (qB 0) vz83 tz84 az85), (wValley qB k vz86 bz87 cz88 wz89 az90 ez91)] ++ List.flatten ([] : List va_W)) := hD
        refine W.widen (k := 0) (n := 0) (Nat.le_refl 0) (Nat.le_refl 0) ?_
        have pz92 := gz81
        have pz92 : rz82.toInt = 0 ∨ rz82.toInt = 1 := pz92
        refine lv_if_eq (tgt := 95) hx hb dX9_parseLine_81 (by decide) (fun cz93 => ?_) (fun cz93 => ?_)
        · skip
          have zz94 : rz82.toInt = (0 : Int) := zi_eq.mp cz93
          refine lv_iconst (v := 0) hx hb dX9_parseLine_95 (by decide) ?_
          rw [hQ]
          exact W.zret (v := (0 : Int32)) hx hb hr rfl (fun t ht hW => ⟨⟨(0 : Int32), (), rfl, (by show (0 : Int) = 0 ∨ (0 : Int) = 1; omega), vz83, tz84, az85, vz86, bz87, cz88, wz89, az90, ez91, htz84, hbz87, hcz88, hwz89, hez91, by rw [ht]; exact hP⟩, hS.F ht⟩) hS.2.2 dX9_parseLine_96
        · skip
          have zz95 : ¬ rz82.toInt = (0 : Int) := fun h9 => cz93 (zi_eq.mpr h9)
          refine lv_aload_n hx hb dX9_parseLine_84 rfl (lv_at hl 0 rfl) ?_
          have hPc := hP.sub (ws' := (List.flatten [(wTape qT k (qB 0) vz83 tz84 az85)] ++ List.flatten ([] : List va_W))) [0, 1] rfl
          have hC : [0, 1].map (fun i => (List.flatten [(wTape qT k (qB 0) vz83 tz84 az85), (wValley qB k vz86 bz87 cz88 wz89 az90 ez91)] ++ List.flatten ([] : List va_W))[i]?) = (List.flatten [(wTape qT k (qB 0) vz83 tz84 az85)] ++ List.flatten ([] : List va_W)).map some := rfl
          have hDc := hD.sub [0, 1] (by decide) hC
          have hFc := va_free hD hS hA [0, 1] hC
          refine va_calli (va_runV (As := []) (rest := []) ⟨hx, hb, hml, hown, hts⟩ (c_X9_expectSign l dC dI k H.size qT (qB 0) vz83 tz84 az85 htz84) (cwV 0 hts (gk_V (wl_mem 12 rfl) (wl_mem 13 rfl) (wl_mem 14 rfl) (wl_mem 5 rfl) (fun w h => List.mem_cons_of_mem _ (List.mem_append_right _ (List.mem_append_right _ (List.mem_append_right _ (List.mem_append_right _ (List.mem_append_right _ (List.mem_append_right _ (List.mem_append_left _ h)))))))) wkg_c_X9_expectSign) rfl rfl rfl (by decide +kernel) ⟨Nat.le_of_ble_eq_true rfl, Nat.le_of_ble_eq_true rfl⟩) ⟨fun a U g mk q => by obtain ⟨q0, q1, qP, qK, qD⟩ := q; exact ⟨q0, q1, qP, va_K.moved (u := U) (U := U.calling g mk a) (Vm.Alike.refl U.vm) qK, qD⟩, va_recv hK hPc (ci := 9) (q0 := 0) rfl rfl, fun U hU hW => ⟨rfl, by rw [hU], by rw [hU]; exact hPc, va_K.moved hW.alike hK, hDc.weaken (fun _ _ _ _ => trivial)⟩⟩ rfl rfl hl.1 rfl (lv_room (Nat.le_of_ble_eq_true rfl)) dX9_parseLine_85 ⟨Nat.le_of_ble_eq_true rfl, Nat.le_of_ble_eq_true rfl⟩) hS (fun q _ h => hFc q h) hFc (fun rz97 u t H1 locs ht hvm gz96 hB hz1 hk1 hS => ?_)
          obtain ⟨vz98, tz99, az100, htz99, hP1⟩ := hB
          rw [ht] at hP1
          obtain ⟨hP, hD⟩ := w_callR hP hD hk1 hP1 [0] rfl rfl (fun _ h => absurd h List.not_mem_nil) rfl [some 0, none] rfl rfl
          clear hPc hC hDc hFc hk1 hP1
          generalize H1 = H at hP hS ⊢
          have hP : va_P (dC, dI) vwCl (List.flatten [(wTape qT k (qB 0) vz98 tz99 az100), (wValley qB k vz86 bz87 cz88 wz89 az90 ez91)] ++ List.flatten ([] : List va_W)) H := hP
          have hD : va_D A (List.flatten [(wTape qT k (qB 0) vz98 tz99 az100), (wValley qB k vz86 bz87 cz88 wz89 az90 ez91)] ++ List.flatten ([] : List va_W)) := hD
          refine W.widen (k := 0) (n := 0) (Nat.le_refl 0) (Nat.le_refl 0) ?_
          have pz101 := gz96
          have pz101 : rz97.toInt = 0 ∨ rz97.toInt = 1 := pz101
          refine lv_if_eq (tgt := 95) hx hb dX9_parseLine_88 (by decide) (fun cz102 => ?_) (fun cz102 => ?_)
          · skip
            have zz103 : rz97.toInt = (0 : Int) := zi_eq.mp cz102
            refine lv_iconst (v := 0) hx hb dX9_parseLine_95 (by decide) ?_
            rw [hQ]
            exact W.zret (v := (0 : Int32)) hx hb hr rfl (fun t ht hW => ⟨⟨(0 : Int32), (), rfl, (by show (0 : Int) = 0 ∨ (0 : Int) = 1; omega), vz98, tz99, az100, vz86, bz87, cz88, wz89, az90, ez91, htz99, hbz87, hcz88, hwz89, hez91, by rw [ht]; exact hP⟩, hS.F ht⟩) hS.2.2 dX9_parseLine_96
          · skip
            have zz104 : ¬ rz97.toInt = (0 : Int) := fun h9 => cz102 (zi_eq.mpr h9)
            refine lv_iconst (v := 1) hx hb dX9_parseLine_91 (by decide) ?_
            refine lv_goto (tgt := 96) hx hb dX9_parseLine_92 (by decide) ?_
            rw [hQ]
            exact W.zret (v := (1 : Int32)) hx hb hr rfl (fun t ht hW => ⟨⟨(1 : Int32), (), rfl, (by show (1 : Int) = 0 ∨ (1 : Int) = 1; omega), vz98, tz99, az100, vz86, bz87, cz88, wz89, az90, ez91, htz99, hbz87, hcz88, hwz89, hez91, by rw [ht]; exact hP⟩, hS.F ht⟩) hS.2.2 dX9_parseLine_96
    · skip
      have zz105 : ¬ rz4.toInt = (0 : Int) := fun h9 => cz6 (zi_eq.mpr h9)
      refine lv_aload_n hx hb dX9_parseLine_48 rfl (lv_at hl 0 rfl) ?_
      have hPc := hP
      have hC : [0, 1, 2, 3, 4, 5, 6, 7, 8, 9].map (fun i => (List.flatten [(wTape qT k (qB 0) vT tT aT), (wValley qB k vB bB cB wB aB eB)] ++ List.flatten ([] : List va_W))[i]?) = (List.flatten [(wTape qT k (qB 0) vT tT aT), (wValley qB k vB bB cB wB aB eB)] ++ List.flatten ([] : List va_W)).map some := rfl
      have hDc := hD.sub [0, 1, 2, 3, 4, 5, 6, 7, 8, 9] (by decide) hC
      have hFc := va_free hD hS hA [0, 1, 2, 3, 4, 5, 6, 7, 8, 9] hC
      refine va_calli (va_runV (As := []) (rest := []) ⟨hx, hb, hml, hown, hts⟩ (c_X9_parseBridge l dC dI k s.heap.size adK adV ln by9 qT vT tT aT qB vB bB cB wB aB eB htT hbB hcB hwB heB) (cwV 0 hts (gk_V (wl_mem 21 rfl) (wl_mem 22 rfl) (wl_mem 23 rfl) (wl_mem 5 rfl) (fun w h => List.mem_cons_of_mem _ (List.mem_append_right _ (List.mem_append_right _ (List.mem_append_right _ (List.mem_append_right _ (List.mem_append_right _ (List.mem_append_right _ (List.mem_append_right _ (List.mem_append_right _ (List.mem_append_right _ (List.mem_append_left _ h))))))))))) wkg_c_X9_parseBridge) rfl rfl rfl (by decide +kernel) ⟨Nat.le_of_ble_eq_true rfl, Nat.le_of_ble_eq_true rfl⟩) ⟨fun a U g mk q => by obtain ⟨q0, q1, qP, qK, qD, qZ⟩ := q; exact ⟨q0, q1, qP, va_K.moved (u := U) (U := U.calling g mk a) (Vm.Alike.refl U.vm) qK, qD, qZ.calling⟩, va_recv hK hPc (ci := 9) (q0 := 0) rfl rfl, fun U hU hW => ⟨rfl, by rw [hU], by rw [hU]; exact hPc, va_K.moved hW.alike hK, hDc.weaken (fun _ _ _ _ => trivial), hZ.pass hS hU hW hFc⟩⟩ rfl rfl hl.1 rfl (lv_room (Nat.le_of_ble_eq_true rfl)) dX9_parseLine_49 ⟨Nat.le_of_ble_eq_true rfl, Nat.le_of_ble_eq_true rfl⟩) hS (fun q _ h => hFc q h) hFc (fun rz107 u t H1 locs ht hvm gz106 hB hz1 hk1 hS => ?_)
      obtain ⟨vz108, tz109, az110, vz111, bz112, cz113, wz114, az115, ez116, htz109, hbz112, hcz113, hwz114, hez116, hP1⟩ := hB
      rw [ht] at hP1
      obtain ⟨hP, hD⟩ := w_callR hP hD hk1 hP1 [0, 1] rfl rfl (fun _ h => absurd h List.not_mem_nil) rfl [some 0, some 1] rfl rfl
      clear hPc hC hDc hFc hk1 hP1
      generalize H1 = H at hP hS ⊢
      have hP : va_P (dC, dI) vwCl (List.flatten [(wTape qT k (qB 0) vz108 tz109 az110), (wValley qB k vz111 bz112 cz113 wz114 az115 ez116)] ++ List.flatten ([] : List va_W)) H := hP
      have hD : va_D A (List.flatten [(wTape qT k (qB 0) vz108 tz109 az110), (wValley qB k vz111 bz112 cz113 wz114 az115 ez116)] ++ List.flatten ([] : List va_W)) := hD
      refine W.widen (k := 0) (n := 0) (Nat.le_refl 0) (Nat.le_refl 0) ?_
      have pz117 := gz106
      have pz117 : rz107.toInt = 0 ∨ rz107.toInt = 1 := pz117
      refine lv_if_eq (tgt := 66) hx hb dX9_parseLine_52 (by decide) (fun cz118 => ?_) (fun cz118 => ?_)
      · skip
        have zz119 : rz107.toInt = (0 : Int) := zi_eq.mp cz118
        refine lv_iconst (v := 0) hx hb dX9_parseLine_66 (by decide) ?_
        rw [hQ]
        exact W.zret (v := (0 : Int32)) hx hb hr rfl (fun t ht hW => ⟨⟨(0 : Int32), (), rfl, (by show (0 : Int) = 0 ∨ (0 : Int) = 1; omega), vz108, tz109, az110, vz111, bz112, cz113, wz114, az115, ez116, htz109, hbz112, hcz113, hwz114, hez116, by rw [ht]; exact hP⟩, hS.F ht⟩) hS.2.2 dX9_parseLine_67
      · skip
        have zz120 : ¬ rz107.toInt = (0 : Int) := fun h9 => cz118 (zi_eq.mpr h9)
        refine lv_aload_n hx hb dX9_parseLine_55 rfl (lv_at hl 0 rfl) ?_
        have hPc := hP.sub (ws' := (List.flatten [(wTape qT k (qB 0) vz108 tz109 az110)] ++ List.flatten ([] : List va_W))) [0, 1] rfl
        have hC : [0, 1].map (fun i => (List.flatten [(wTape qT k (qB 0) vz108 tz109 az110), (wValley qB k vz111 bz112 cz113 wz114 az115 ez116)] ++ List.flatten ([] : List va_W))[i]?) = (List.flatten [(wTape qT k (qB 0) vz108 tz109 az110)] ++ List.flatten ([] : List va_W)).map some := rfl
        have hDc := hD.sub [0, 1] (by decide) hC
        have hFc := va_free hD hS hA [0, 1] hC
        refine va_calli (va_runV (As := []) (rest := []) ⟨hx, hb, hml, hown, hts⟩ (c_X9_expectSign l dC dI k H.size qT (qB 0) vz108 tz109 az110 htz109) (cwV 0 hts (gk_V (wl_mem 12 rfl) (wl_mem 13 rfl) (wl_mem 14 rfl) (wl_mem 5 rfl) (fun w h => List.mem_cons_of_mem _ (List.mem_append_right _ (List.mem_append_right _ (List.mem_append_right _ (List.mem_append_right _ (List.mem_append_right _ (List.mem_append_right _ (List.mem_append_left _ h)))))))) wkg_c_X9_expectSign) rfl rfl rfl (by decide +kernel) ⟨Nat.le_of_ble_eq_true rfl, Nat.le_of_ble_eq_true rfl⟩) ⟨fun a U g mk q => by obtain ⟨q0, q1, qP, qK, qD⟩ := q; exact ⟨q0, q1, qP, va_K.moved (u := U) (U := U.calling g mk a) (Vm.Alike.refl U.vm) qK, qD⟩, va_recv hK hPc (ci := 9) (q0 := 0) rfl rfl, fun U hU hW => ⟨rfl, by rw [hU], by rw [hU]; exact hPc, va_K.moved hW.alike hK, hDc.weaken (fun _ _ _ _ => trivial)⟩⟩ rfl rfl hl.1 rfl (lv_room (Nat.le_of_ble_eq_true rfl)) dX9_parseLine_56 ⟨Nat.le_of_ble_eq_true rfl, Nat.le_of_ble_eq_true rfl⟩) hS (fun q _ h => hFc q h) hFc (fun rz122 u t H1 locs ht hvm gz121 hB hz1 hk1 hS => ?_)
        obtain ⟨vz123, tz124, az125, htz124, hP1⟩ := hB
        rw [ht] at hP1
        obtain ⟨hP, hD⟩ := w_callR hP hD hk1 hP1 [0] rfl rfl (fun _ h => absurd h List.not_mem_nil) rfl [some 0, none] rfl rfl
        clear hPc hC hDc hFc hk1 hP1
        generalize H1 = H at hP hS ⊢
        have hP : va_P (dC, dI) vwCl (List.flatten [(wTape qT k (qB 0) vz123 tz124 az125), (wValley qB k vz111 bz112 cz113 wz114 az115 ez116)] ++ List.flatten ([] : List va_W)) H := hP
        have hD : va_D A (List.flatten [(wTape qT k (qB 0) vz123 tz124 az125), (wValley qB k vz111 bz112 cz113 wz114 az115 ez116)] ++ List.flatten ([] : List va_W)) := hD
        refine W.widen (k := 0) (n := 0) (Nat.le_refl 0) (Nat.le_refl 0) ?_
        have pz126 := gz121
        have pz126 : rz122.toInt = 0 ∨ rz122.toInt = 1 := pz126
        refine lv_if_eq (tgt := 66) hx hb dX9_parseLine_59 (by decide) (fun cz127 => ?_) (fun cz127 => ?_)
        · skip
          have zz128 : rz122.toInt = (0 : Int) := zi_eq.mp cz127
          refine lv_iconst (v := 0) hx hb dX9_parseLine_66 (by decide) ?_
          rw [hQ]
          exact W.zret (v := (0 : Int32)) hx hb hr rfl (fun t ht hW => ⟨⟨(0 : Int32), (), rfl, (by show (0 : Int) = 0 ∨ (0 : Int) = 1; omega), vz123, tz124, az125, vz111, bz112, cz113, wz114, az115, ez116, htz124, hbz112, hcz113, hwz114, hez116, by rw [ht]; exact hP⟩, hS.F ht⟩) hS.2.2 dX9_parseLine_67
        · skip
          have zz129 : ¬ rz122.toInt = (0 : Int) := fun h9 => cz127 (zi_eq.mpr h9)
          refine lv_iconst (v := 1) hx hb dX9_parseLine_62 (by decide) ?_
          refine lv_goto (tgt := 67) hx hb dX9_parseLine_63 (by decide) ?_
          rw [hQ]
          exact W.zret (v := (1 : Int32)) hx hb hr rfl (fun t ht hW => ⟨⟨(1 : Int32), (), rfl, (by show (1 : Int) = 0 ∨ (1 : Int) = 1; omega), vz123, tz124, az125, vz111, bz112, cz113, wz114, az115, ez116, htz124, hbz112, hcz113, hwz114, hez116, by rw [ht]; exact hP⟩, hS.F ht⟩) hS.2.2 dX9_parseLine_67
  · skip
    have zz130 : (vB 0).toInt = (0 : Int) := zi_eq.mp cz1
    refine lv_aload_n hx hb dX9_parseLine_10 rfl (lv_at hl 0 rfl) ?_
    refine va_ldcS (own := RX9) (index := 51) (tx := "valley") (q := adK 0) hx hb hown (hZ.2.2.2 0 (by decide)) dX9_parseLine_11 ?_
    have hPc := hP.sub (ws' := (List.flatten [(wTape qT k (qB 0) vT tT aT)] ++ List.flatten ([] : List va_W))) [0, 1] rfl
    have hC : [0, 1].map (fun i => (List.flatten [(wTape qT k (qB 0) vT tT aT), (wValley qB k vB bB cB wB aB eB)] ++ List.flatten ([] : List va_W))[i]?) = (List.flatten [(wTape qT k (qB 0) vT tT aT)] ++ List.flatten ([] : List va_W)).map some := rfl
    have hDc := hD.sub [0, 1] (by decide) hC
    have hFc := va_free hD hS hA [0, 1] hC
    refine va_calli (va_runV (As := [.ref (adK 0)]) (rest := []) ⟨hx, hb, hml, hown, hts⟩ (c_X9_expect l dC dI k s.heap.size adK adV ln by9 qT (qB 0) vT tT aT 0 (by decide) htT) (cwV 1 hts (gk_V (wl_mem 24 rfl) (wl_mem 25 rfl) (wl_mem 26 rfl) (wl_mem 5 rfl) (fun w h => List.mem_cons_of_mem _ (List.mem_append_right _ (List.mem_append_right _ (List.mem_append_right _ (List.mem_append_right _ (List.mem_append_right _ (List.mem_append_right _ (List.mem_append_right _ (List.mem_append_right _ (List.mem_append_right _ (List.mem_append_right _ (List.mem_append_left _ h)))))))))))) wkg_c_X9_expect) rfl rfl rfl (by decide +kernel) ⟨Nat.le_of_ble_eq_true rfl, Nat.le_of_ble_eq_true rfl⟩) ⟨fun a U g mk q => by obtain ⟨q0, q1, qP, qK, qD, qZ⟩ := q; exact ⟨q0, q1, qP, va_K.moved (u := U) (U := U.calling g mk a) (Vm.Alike.refl U.vm) qK, qD, qZ.calling⟩, va_recv hK hPc (ci := 9) (q0 := 0) rfl rfl, fun U hU hW => ⟨rfl, by rw [hU], by rw [hU]; exact hPc, va_K.moved hW.alike hK, hDc.weaken (fun _ _ _ _ => trivial), hZ.pass hS hU hW hFc⟩⟩ rfl rfl hl.1 rfl (lv_room (Nat.le_of_ble_eq_true rfl)) dX9_parseLine_13 ⟨Nat.le_of_ble_eq_true rfl, Nat.le_of_ble_eq_true rfl⟩) hS (fun q _ h => hFc q h) hFc (fun rz132 u t H1 locs ht hvm gz131 hB hz1 hk1 hS => ?_)
    obtain ⟨vz133, tz134, az135, htz134, hP1⟩ := hB
    rw [ht] at hP1
    obtain ⟨hP, hD⟩ := w_callR hP hD hk1 hP1 [0] rfl rfl (fun _ h => absurd h List.not_mem_nil) rfl [some 0, none] rfl rfl
    clear hPc hC hDc hFc hk1 hP1
    generalize H1 = H at hP hS ⊢
    have hP : va_P (dC, dI) vwCl (List.flatten [(wTape qT k (qB 0) vz133 tz134 az135), (wValley qB k vB bB cB wB aB eB)] ++ List.flatten ([] : List va_W)) H := hP
    have hD : va_D A (List.flatten [(wTape qT k (qB 0) vz133 tz134 az135), (wValley qB k vB bB cB wB aB eB)] ++ List.flatten ([] : List va_W)) := hD
    refine W.widen (k := 0) (n := 0) (Nat.le_refl 0) (Nat.le_refl 0) ?_
    have pz136 := gz131
    have pz136 : rz132.toInt = 0 ∨ rz132.toInt = 1 := pz136
    refine lv_if_eq (tgt := 37) hx hb dX9_parseLine_16 (by decide) (fun cz137 => ?_) (fun cz137 => ?_)
    · skip
      have zz138 : rz132.toInt = (0 : Int) := zi_eq.mp cz137
      refine lv_iconst (v := 0) hx hb dX9_parseLine_37 (by decide) ?_
      rw [hQ]
      exact W.zret (v := (0 : Int32)) hx hb hr rfl (fun t ht hW => ⟨⟨(0 : Int32), (), rfl, (by show (0 : Int) = 0 ∨ (0 : Int) = 1; omega), vz133, tz134, az135, vB, bB, cB, wB, aB, eB, htz134, hbB, hcB, hwB, heB, by rw [ht]; exact hP⟩, hS.F ht⟩) hS.2.2 dX9_parseLine_38
    · skip
      have zz139 : ¬ rz132.toInt = (0 : Int) := fun h9 => cz137 (zi_eq.mpr h9)
      refine lv_aload_n hx hb dX9_parseLine_19 rfl (lv_at hl 0 rfl) ?_
      have hPc := hP
      have hC : [0, 1, 2, 3, 4, 5, 6, 7, 8, 9].map (fun i => (List.flatten [(wTape qT k (qB 0) vz133 tz134 az135), (wValley qB k vB bB cB wB aB eB)] ++ List.flatten ([] : List va_W))[i]?) = (List.flatten [(wTape qT k (qB 0) vz133 tz134 az135), (wValley qB k vB bB cB wB aB eB)] ++ List.flatten ([] : List va_W)).map some := rfl
      have hDc := hD.sub [0, 1, 2, 3, 4, 5, 6, 7, 8, 9] (by decide) hC
      have hFc := va_free hD hS hA [0, 1, 2, 3, 4, 5, 6, 7, 8, 9] hC
      refine va_calli (va_runV (As := []) (rest := []) ⟨hx, hb, hml, hown, hts⟩ (c_X9_parseValley l dC dI k H.size adK adV ln by9 qT vz133 tz134 az135 qB vB bB cB wB aB eB htz134 hbB hcB hwB heB) (cwV 0 hts (gk_V (wl_mem 27 rfl) (wl_mem 28 rfl) (wl_mem 29 rfl) (wl_mem 5 rfl) (fun w h => List.mem_cons_of_mem _ (List.mem_append_right _ (List.mem_append_right _ (List.mem_append_right _ (List.mem_append_right _ (List.mem_append_right _ (List.mem_append_right _ (List.mem_append_right _ (List.mem_append_right _ (List.mem_append_right _ (List.mem_append_right _ (List.mem_append_right _ (List.mem_append_left _ h))))))))))))) wkg_c_X9_parseValley) rfl rfl rfl (by decide +kernel) ⟨Nat.le_of_ble_eq_true rfl, Nat.le_of_ble_eq_true rfl⟩) ⟨fun a U g mk q => by obtain ⟨q0, q1, qP, qK, qD, qZ⟩ := q; exact ⟨q0, q1, qP, va_K.moved (u := U) (U := U.calling g mk a) (Vm.Alike.refl U.vm) qK, qD, qZ.calling⟩, va_recv hK hPc (ci := 9) (q0 := 0) rfl rfl, fun U hU hW => ⟨rfl, by rw [hU], by rw [hU]; exact hPc, va_K.moved hW.alike hK, hDc.weaken (fun _ _ _ _ => trivial), hZ.pass hS hU hW hFc⟩⟩ rfl rfl hl.1 rfl (lv_room (Nat.le_of_ble_eq_true rfl)) dX9_parseLine_20 ⟨Nat.le_of_ble_eq_true rfl, Nat.le_of_ble_eq_true rfl⟩) hS (fun q _ h => hFc q h) hFc (fun rz141 u t H1 locs ht hvm gz140 hB hz1 hk1 hS => ?_)
      obtain ⟨vz142, tz143, az144, vz145, bz146, cz147, wz148, az149, ez150, htz143, hbz146, hcz147, hwz148, hez150, hP1⟩ := hB
      rw [ht] at hP1
      obtain ⟨hP, hD⟩ := w_callR hP hD hk1 hP1 [0, 1] rfl rfl (fun _ h => absurd h List.not_mem_nil) rfl [some 0, some 1] rfl rfl
      clear hPc hC hDc hFc hk1 hP1
      generalize H1 = H at hP hS ⊢
      have hP : va_P (dC, dI) vwCl (List.flatten [(wTape qT k (qB 0) vz142 tz143 az144), (wValley qB k vz145 bz146 cz147 wz148 az149 ez150)] ++ List.flatten ([] : List va_W)) H := hP
      have hD : va_D A (List.flatten [(wTape qT k (qB 0) vz142 tz143 az144), (wValley qB k vz145 bz146 cz147 wz148 az149 ez150)] ++ List.flatten ([] : List va_W)) := hD
      refine W.widen (k := 0) (n := 0) (Nat.le_refl 0) (Nat.le_refl 0) ?_
      have pz151 := gz140
      have pz151 : rz141.toInt = 0 ∨ rz141.toInt = 1 := pz151
      refine lv_if_eq (tgt := 37) hx hb dX9_parseLine_23 (by decide) (fun cz152 => ?_) (fun cz152 => ?_)
      · skip
        have zz153 : rz141.toInt = (0 : Int) := zi_eq.mp cz152
        refine lv_iconst (v := 0) hx hb dX9_parseLine_37 (by decide) ?_
        rw [hQ]
        exact W.zret (v := (0 : Int32)) hx hb hr rfl (fun t ht hW => ⟨⟨(0 : Int32), (), rfl, (by show (0 : Int) = 0 ∨ (0 : Int) = 1; omega), vz142, tz143, az144, vz145, bz146, cz147, wz148, az149, ez150, htz143, hbz146, hcz147, hwz148, hez150, by rw [ht]; exact hP⟩, hS.F ht⟩) hS.2.2 dX9_parseLine_38
      · skip
        have zz154 : ¬ rz141.toInt = (0 : Int) := fun h9 => cz152 (zi_eq.mpr h9)
        refine lv_aload_n hx hb dX9_parseLine_26 rfl (lv_at hl 0 rfl) ?_
        have hPc := hP.sub (ws' := (List.flatten [(wTape qT k (qB 0) vz142 tz143 az144)] ++ List.flatten ([] : List va_W))) [0, 1] rfl
        have hC : [0, 1].map (fun i => (List.flatten [(wTape qT k (qB 0) vz142 tz143 az144), (wValley qB k vz145 bz146 cz147 wz148 az149 ez150)] ++ List.flatten ([] : List va_W))[i]?) = (List.flatten [(wTape qT k (qB 0) vz142 tz143 az144)] ++ List.flatten ([] : List va_W)).map some := rfl
        have hDc := hD.sub [0, 1] (by decide) hC
        have hFc := va_free hD hS hA [0, 1] hC
        refine va_calli (va_runV (As := []) (rest := []) ⟨hx, hb, hml, hown, hts⟩ (c_X9_expectSign l dC dI k H.size qT (qB 0) vz142 tz143 az144 htz143) (cwV 0 hts (gk_V (wl_mem 12 rfl) (wl_mem 13 rfl) (wl_mem 14 rfl) (wl_mem 5 rfl) (fun w h => List.mem_cons_of_mem _ (List.mem_append_right _ (List.mem_append_right _ (List.mem_append_right _ (List.mem_append_right _ (List.mem_append_right _ (List.mem_append_right _ (List.mem_append_left _ h)))))))) wkg_c_X9_expectSign) rfl rfl rfl (by decide +kernel) ⟨Nat.le_of_ble_eq_true rfl, Nat.le_of_ble_eq_true rfl⟩) ⟨fun a U g mk q => by obtain ⟨q0, q1, qP, qK, qD⟩ := q; exact ⟨q0, q1, qP, va_K.moved (u := U) (U := U.calling g mk a) (Vm.Alike.refl U.vm) qK, qD⟩, va_recv hK hPc (ci := 9) (q0 := 0) rfl rfl, fun U hU hW => ⟨rfl, by rw [hU], by rw [hU]; exact hPc, va_K.moved hW.alike hK, hDc.weaken (fun _ _ _ _ => trivial)⟩⟩ rfl rfl hl.1 rfl (lv_room (Nat.le_of_ble_eq_true rfl)) dX9_parseLine_27 ⟨Nat.le_of_ble_eq_true rfl, Nat.le_of_ble_eq_true rfl⟩) hS (fun q _ h => hFc q h) hFc (fun rz156 u t H1 locs ht hvm gz155 hB hz1 hk1 hS => ?_)
        obtain ⟨vz157, tz158, az159, htz158, hP1⟩ := hB
        rw [ht] at hP1
        obtain ⟨hP, hD⟩ := w_callR hP hD hk1 hP1 [0] rfl rfl (fun _ h => absurd h List.not_mem_nil) rfl [some 0, none] rfl rfl
        clear hPc hC hDc hFc hk1 hP1
        generalize H1 = H at hP hS ⊢
        have hP : va_P (dC, dI) vwCl (List.flatten [(wTape qT k (qB 0) vz157 tz158 az159), (wValley qB k vz145 bz146 cz147 wz148 az149 ez150)] ++ List.flatten ([] : List va_W)) H := hP
        have hD : va_D A (List.flatten [(wTape qT k (qB 0) vz157 tz158 az159), (wValley qB k vz145 bz146 cz147 wz148 az149 ez150)] ++ List.flatten ([] : List va_W)) := hD
        refine W.widen (k := 0) (n := 0) (Nat.le_refl 0) (Nat.le_refl 0) ?_
        have pz160 := gz155
        have pz160 : rz156.toInt = 0 ∨ rz156.toInt = 1 := pz160
        refine lv_if_eq (tgt := 37) hx hb dX9_parseLine_30 (by decide) (fun cz161 => ?_) (fun cz161 => ?_)
        · skip
          have zz162 : rz156.toInt = (0 : Int) := zi_eq.mp cz161
          refine lv_iconst (v := 0) hx hb dX9_parseLine_37 (by decide) ?_
          rw [hQ]
          exact W.zret (v := (0 : Int32)) hx hb hr rfl (fun t ht hW => ⟨⟨(0 : Int32), (), rfl, (by show (0 : Int) = 0 ∨ (0 : Int) = 1; omega), vz157, tz158, az159, vz145, bz146, cz147, wz148, az149, ez150, htz158, hbz146, hcz147, hwz148, hez150, by rw [ht]; exact hP⟩, hS.F ht⟩) hS.2.2 dX9_parseLine_38
        · skip
          have zz163 : ¬ rz156.toInt = (0 : Int) := fun h9 => cz161 (zi_eq.mpr h9)
          refine lv_iconst (v := 1) hx hb dX9_parseLine_33 (by decide) ?_
          refine lv_goto (tgt := 38) hx hb dX9_parseLine_34 (by decide) ?_
          rw [hQ]
          exact W.zret (v := (1 : Int32)) hx hb hr rfl (fun t ht hW => ⟨⟨(1 : Int32), (), rfl, (by show (1 : Int) = 0 ∨ (1 : Int) = 1; omega), vz157, tz158, az159, vz145, bz146, cz147, wz148, az149, ez150, htz158, hbz146, hcz147, hwz148, hez150, by rw [ht]; exact hP⟩, hS.F ht⟩) hS.2.2 dX9_parseLine_38
