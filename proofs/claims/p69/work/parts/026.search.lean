def wk_c_X4_begin : List Cond := .code yX4_begin cX4_begin 1 none :: ([.fieldLink RX4 65 "SagMemory$Search" "known" "Z", .fieldLink RX4 69 "SagMemory$Search" "found" "I", .fieldLink RX4 72 "SagMemory$Search" "lowest" "I", .fieldLink RX4 75 "SagMemory$Search" "mostOver" "I"] ++ (wsX40 ++ []))
theorem wkg_c_X4_begin : wk_c_X4_begin.all goodWord = true := by decide +kernel
set_option maxHeartbeats 4000000 in
set_option maxRecDepth 100000 in
theorem c_X4_begin (l : Launch) (dC : Nat → ClassId) (dI : Nat → Nat → Nat) (k : Nat → ClassId) (sz : Nat) (qR : Nat → Nat) (vR : Nat → Int32) (aR : Nat → Nat → Int32) : Met l yX4_begin wk_c_X4_begin ({ frames := 0, cells := 0, slots := 0, locals := 0 }) (va_Pc [.ref (qR 0)] (fun U => U.heap.size = sz ∧ va_P (dC, dI) vwCl (List.flatten [(wSearch qR k vR aR)] ++ List.flatten ([] : List va_W)) U.heap ∧ va_K (dC, dI) vwCl (tK k) U ∧ va_D (fun _ => True) (List.flatten [(wSearch qR k vR aR)] ++ List.flatten ([] : List va_W)))) (va_Qv (fun _ : Unit => True) (fun (_ : Unit) (t : State) => ∃ (vR' : Nat → Int32) (aR' : Nat → Nat → Int32), va_P (dC, dI) vwCl (List.flatten [(wSearch qR k vR' aR')] ++ List.flatten ([] : List va_W)) t.heap) (va_A (List.flatten [(wSearch qR k vR aR)] ++ List.flatten ([] : List va_W)) sz)) 0 0 (va_A (List.flatten [(wSearch qR k vR aR)] ++ List.flatten ([] : List va_W)) sz) := by
  refine Met.ofW (cc := cX4_begin) (maxL := 1) (ret := none) (by decide) rfl ?_
  intro p e s m args below meth c s₁ B hml hv
  obtain ⟨rfl, hsz, hP, hK, hD0⟩ := hv
  have hx := B.exec
  have hb := B.bytes
  have hr := B.returns
  have hts := atoms_spec (ws := wk_c_X4_begin) B.pre
  have hown : s.vm.findClass RX4 = some m.cls := findClass_of_methodNamed B.named
  have hlocks := B.notSynchronized
  subst hsz
  have hD := hD0.self (sz := s.heap.size)
  generalize hAe : va_A (List.flatten [(wSearch qR k vR aR)] ++ List.flatten ([] : List va_W)) s.heap.size = A at hD ⊢
  have hA : ∀ q : Nat, s.heap.size ≤ q → A q := fun q h => by rw [← hAe]; exact Or.inr h
  have hS : va_S A s.heap s.heap [] := va_S.rf
  have hP : va_P (dC, dI) vwCl (List.flatten [(wSearch qR k vR aR)] ++ List.flatten ([] : List va_W)) s.heap := hP
  have hl := lv_entry ([.ref (qR 0)]) (n := 1) (Nat.le_of_ble_eq_true rfl)
  rw [lg_entry_eq]
  generalize (lg_sl ([.ref (qR 0)]) ++ List.replicate (1 - (lg_sl ([.ref (qR 0)])).length) Slot.unset).toArray = ls at hl ⊢
  have hl : lv_has ls 1 [(0, .ref (qR 0))] := hl
  refine w_gen (fun Q hQ => ?_)
  refine lv_aload_n hx hb dX4_begin_0 rfl (lv_at hl 0 rfl) ?_
  refine lv_iconst (v := 1) hx hb dX4_begin_1 (by decide) ?_
  refine va_put (D := (dC, dI)) (ci := 4) (v := .int 1) (ty := .boolean) (C := RX4) (T := TX4) (N := 6) hx hb hts (fun w h => List.mem_cons_of_mem _ (List.mem_append_right _ (List.mem_append_left _ h))) tyX4 tyX4_ok nmX4 hown hK hP hD hS 0 rfl rfl 2 (by decide) (hts (.fieldLink RX4 65 "SagMemory$Search" "known" "Z") (wl_mem 0 rfl)) (fun _ h9 => h9) rfl (by decide +kernel) rfl rfl (Nat.le_of_ble_eq_true rfl) dX4_begin_2 (fun H locs hP hD hS => ?_)
  have hP : va_P (dC, dI) vwCl (List.flatten [(wSearch qR k (va_up vR 0 (1 : Int32)) aR)] ++ List.flatten ([] : List va_W)) H := hP
  have hD : va_D A (List.flatten [(wSearch qR k (va_up vR 0 (1 : Int32)) aR)] ++ List.flatten ([] : List va_W)) := hD
  refine lv_aload_n hx hb dX4_begin_5 rfl (lv_at hl 0 rfl) ?_
  refine lv_iconst (v := 0) hx hb dX4_begin_6 (by decide) ?_
  refine va_put (D := (dC, dI)) (ci := 4) (v := .int 0) (ty := .int) (C := RX4) (T := TX4) (N := 6) hx hb hts (fun w h => List.mem_cons_of_mem _ (List.mem_append_right _ (List.mem_append_left _ h))) tyX4 tyX4_ok nmX4 hown hK hP hD hS 0 rfl rfl 4 (by decide) (hts (.fieldLink RX4 69 "SagMemory$Search" "found" "I") (wl_mem 1 rfl)) (fun _ h9 => h9) rfl (by decide +kernel) rfl rfl (Nat.le_of_ble_eq_true rfl) dX4_begin_7 (fun H locs hP hD hS => ?_)
  have hP : va_P (dC, dI) vwCl (List.flatten [(wSearch qR k (va_up (va_up vR 0 (1 : Int32)) 2 (0 : Int32)) aR)] ++ List.flatten ([] : List va_W)) H := hP
  have hD : va_D A (List.flatten [(wSearch qR k (va_up (va_up vR 0 (1 : Int32)) 2 (0 : Int32)) aR)] ++ List.flatten ([] : List va_W)) := hD
  refine lv_aload_n hx hb dX4_begin_10 rfl (lv_at hl 0 rfl) ?_
  refine lv_iconst (v := 0) hx hb dX4_begin_11 (by decide) ?_
  refine va_put (D := (dC, dI)) (ci := 4) (v := .int 0) (ty := .int) (C := RX4) (T := TX4) (N := 6) hx hb hts (fun w h => List.mem_cons_of_mem _ (List.mem_append_right _ (List.mem_append_left _ h))) tyX4 tyX4_ok nmX4 hown hK hP hD hS 0 rfl rfl 3 (by decide) (hts (.fieldLink RX4 72 "SagMemory$Search" "lowest" "I") (wl_mem 2 rfl)) (fun _ h9 => h9) rfl (by decide +kernel) rfl rfl (Nat.le_of_ble_eq_true rfl) dX4_begin_12 (fun H locs hP hD hS => ?_)
  have hP : va_P (dC, dI) vwCl (List.flatten [(wSearch qR k (va_up (va_up (va_up vR 0 (1 : Int32)) 2 (0 : Int32)) 1 (0 : Int32)) aR)] ++ List.flatten ([] : List va_W)) H := hP
  have hD : va_D A (List.flatten [(wSearch qR k (va_up (va_up (va_up vR 0 (1 : Int32)) 2 (0 : Int32)) 1 (0 : Int32)) aR)] ++ List.flatten ([] : List va_W)) := hD
  refine lv_aload_n hx hb dX4_begin_15 rfl (lv_at hl 0 rfl) ?_
  refine lv_iconst (v := 0) hx hb dX4_begin_16 (by decide) ?_
  refine va_put (D := (dC, dI)) (ci := 4) (v := .int 0) (ty := .int) (C := RX4) (T := TX4) (N := 6) hx hb hts (fun w h => List.mem_cons_of_mem _ (List.mem_append_right _ (List.mem_append_left _ h))) tyX4 tyX4_ok nmX4 hown hK hP hD hS 0 rfl rfl 5 (by decide) (hts (.fieldLink RX4 75 "SagMemory$Search" "mostOver" "I") (wl_mem 3 rfl)) (fun _ h9 => h9) rfl (by decide +kernel) rfl rfl (Nat.le_of_ble_eq_true rfl) dX4_begin_17 (fun H locs hP hD hS => ?_)
  have hP : va_P (dC, dI) vwCl (List.flatten [(wSearch qR k (va_up (va_up (va_up (va_up vR 0 (1 : Int32)) 2 (0 : Int32)) 1 (0 : Int32)) 3 (0 : Int32)) aR)] ++ List.flatten ([] : List va_W)) H := hP
  have hD : va_D A (List.flatten [(wSearch qR k (va_up (va_up (va_up (va_up vR 0 (1 : Int32)) 2 (0 : Int32)) 1 (0 : Int32)) 3 (0 : Int32)) aR)] ++ List.flatten ([] : List va_W)) := hD
  rw [hQ]
  exact W.vret hx hb hr (fun t ht hW => ⟨⟨(), rfl, trivial, (va_up (va_up (va_up (va_up vR 0 (1 : Int32)) 2 (0 : Int32)) 1 (0 : Int32)) 3 (0 : Int32)), aR, by rw [ht]; exact hP⟩, hS.F ht⟩) hS.2.2 dX4_begin_20
def wk_c_X4_weigh : List Cond := .code yX4_weigh cX4_weigh 3 none :: ([.methodLink RX4 78 yX7_together, .instanceMethod yX7_together, .selects RX7 yX7_together yX7_together, .initialized RX7, .fieldLink RX4 69 "SagMemory$Search" "found" "I", .fieldLink RX4 72 "SagMemory$Search" "lowest" "I", .fieldLink RX4 9 "SagMemory$Search" "tried" "[I", .fieldLink RX4 15 "SagMemory$Search" "first" "[I", .methodLink RX4 84 arraycopyName, .native arraycopyName, .static arraycopyName, .initialized "java/lang/System", .fieldLink RX4 75 "SagMemory$Search" "mostOver" "I", .fieldLink RX4 90 "SagMemory$State" "crossed" "I", .methodLink RX4 93 yJ6_bitCount_0f7a4, .static yJ6_bitCount_0f7a4, .initialized RJ6, .methodLink RX4 98 Lib.Math.max.name, .static Lib.Math.max.name, .initialized "java/lang/Math", .code Lib.Math.max.name Lib.Math.max.code 2 (some .int)] ++ (wk_c_X7_together ++ (wsX40 ++ (wsX70 ++ (wk_c_J6_bitCount_0f7a4 ++ [])))))
theorem wkg_c_X4_weigh : wk_c_X4_weigh.all goodWord = true := by decide +kernel
set_option maxHeartbeats 4000000 in
set_option maxRecDepth 100000 in
theorem c_X4_weigh (l : Launch) (dC : Nat → ClassId) (dI : Nat → Nat → Nat) (k : Nat → ClassId) (sz : Nat) (qR : Nat → Nat) (vR : Nat → Int32) (aR : Nat → Nat → Int32) (qS : Nat → Nat) (vS : Nat → Int32) (nS : Nat → Int32) (aS : Nat → Nat → Int32) (hnS : Rg 0 8 nS) : Met l yX4_weigh wk_c_X4_weigh ({ frames := 2, cells := 0, slots := 0, locals := 80 }) (va_Pc [.ref (qR 0), .ref (qS 0)] (fun U => U.heap.size = sz ∧ va_P (dC, dI) vwCl (List.flatten [(wSearch qR k vR aR)] ++ List.flatten [(wState qS k vS nS aS)]) U.heap ∧ va_K (dC, dI) vwCl (tK k) U ∧ va_D (fun _ => True) (List.flatten [(wSearch qR k vR aR)] ++ List.flatten [(wState qS k vS nS aS)]))) (va_Qv (fun _ : Unit => True) (fun (_ : Unit) (t : State) => ∃ (vR' : Nat → Int32) (aR' : Nat → Nat → Int32), va_P (dC, dI) vwCl (List.flatten [(wSearch qR k vR' aR')] ++ List.flatten [(wState qS k vS nS aS)]) t.heap) (va_A (List.flatten [(wSearch qR k vR aR)] ++ List.flatten [(wState qS k vS nS aS)]) sz)) 0 0 (va_A (List.flatten [(wSearch qR k vR aR)] ++ List.flatten [(wState qS k vS nS aS)]) sz) := by
  refine Met.ofW (cc := cX4_weigh) (maxL := 3) (ret := none) (by decide) rfl ?_
  intro p e s m args below meth c s₁ B hml hv
  obtain ⟨rfl, hsz, hP, hK, hD0⟩ := hv
  have hx := B.exec
  have hb := B.bytes
  have hr := B.returns
  have hts := atoms_spec (ws := wk_c_X4_weigh) B.pre
  have hown : s.vm.findClass RX4 = some m.cls := findClass_of_methodNamed B.named
  have hlocks := B.notSynchronized
  subst hsz
  have hD := hD0.self (sz := s.heap.size)
  generalize hAe : va_A (List.flatten [(wSearch qR k vR aR)] ++ List.flatten [(wState qS k vS nS aS)]) s.heap.size = A at hD ⊢
  have hA : ∀ q : Nat, s.heap.size ≤ q → A q := fun q h => by rw [← hAe]; exact Or.inr h
  have hS : va_S A s.heap s.heap [] := va_S.rf
  have hP : va_P (dC, dI) vwCl (List.flatten [(wSearch qR k vR aR)] ++ List.flatten [(wState qS k vS nS aS)]) s.heap := hP
  have hl := lv_entry ([.ref (qR 0), .ref (qS 0)]) (n := 3) (Nat.le_of_ble_eq_true rfl)
  rw [lg_entry_eq]
  generalize (lg_sl ([.ref (qR 0), .ref (qS 0)]) ++ List.replicate (3 - (lg_sl ([.ref (qR 0), .ref (qS 0)])).length) Slot.unset).toArray = ls at hl ⊢
  have hl : lv_has ls 3 [(0, .ref (qR 0)), (1, .ref (qS 0))] := hl
  refine w_gen (fun Q hQ => ?_)
  refine lv_aload_n hx hb dX4_weigh_0 rfl (lv_at hl 1 rfl) ?_
  have hPc := hP.sub (ws' := (List.flatten [(wState qS k vS nS aS)])) [3, 4, 5, 6, 7, 8, 9, 10, 11, 12, 13] rfl
  refine vp_callSi (va_Run.run (va_runV (As := []) (rest := []) ⟨hx, hb, hml, hown, hts⟩ (c_X7_together l dC dI k qS vS nS aS hnS) (cwV 0 hts (gk_V (wl_mem 0 rfl) (wl_mem 1 rfl) (wl_mem 2 rfl) (wl_mem 3 rfl) (fun w h => List.mem_cons_of_mem _ (List.mem_append_right _ (List.mem_append_left _ h))) wkg_c_X7_together) rfl rfl rfl (by decide +kernel) ⟨Nat.le_of_ble_eq_true rfl, Nat.le_of_ble_eq_true rfl⟩) ⟨fun a U g mk q => by obtain ⟨q0, qP, qK⟩ := q; exact ⟨q0, qP, va_K.moved (u := U) (U := U.calling g mk a) (Vm.Alike.refl U.vm) qK⟩, va_recv hK hPc (ci := 7) (q0 := 0) rfl rfl, fun U hU hW => ⟨rfl, by rw [hU]; exact hPc, va_K.moved hW.alike hK⟩⟩ rfl rfl hl.1 rfl (lv_room (Nat.le_of_ble_eq_true rfl)) dX4_weigh_1 ⟨Nat.le_of_ble_eq_true rfl, Nat.le_of_ble_eq_true rfl⟩)) (fun rz2 gz1 => ?_)
  clear hPc
  refine lv_istore_n (lv' := [(2, .int rz2), (0, .ref (qR 0)), (1, .ref (qS 0))]) hx hb dX4_weigh_4 rfl hl (by decide) rfl (fun ls hl => ?_)
  refine lv_aload_n hx hb dX4_weigh_5 rfl (lv_at hl 1 rfl) ?_
  refine va_get (D := (dC, dI)) (ci := 4) (v := .int (vR 2)) (C := RX4) (T := TX4) (N := 6) hx hb hts (fun w h => List.mem_cons_of_mem _ (List.mem_append_right _ (List.mem_append_right _ (List.mem_append_left _ h)))) hown hK hP 0 rfl rfl 4 (by decide) (hts (.fieldLink RX4 69 "SagMemory$Search" "found" "I") (wl_mem 4 rfl)) (fun _ h9 => h9) rfl dX4_weigh_6 ?_
  have ct45_kz17 : ∀ (H : Heap) (locs : List Loc) (ls : Array Slot) (az15 : Nat → Nat → Int32) (vz16 : Nat → Int32), va_P (dC, dI) vwCl (List.flatten [(wSearch qR k vz16 az15)] ++ List.flatten [(wState qS k vS nS aS)]) H → va_D A (List.flatten [(wSearch qR k vz16 az15)] ++ List.flatten [(wState qS k vS nS aS)]) → va_S A s.heap H locs → lv_has ls 3 [(0, .ref (qR 0)), (1, .ref (qS 0)), (2, .int rz2)] → W p l e (headSpec wk_c_X4_weigh ({ frames := 2, cells := 0, slots := 0, locals := 80 })).room s m ([.ref (qR 0), .ref (qS 0)] : List Value).toArray below meth c H locs 0 0 Q (F0 m 45 ls []) := by
    intro H locs ls az15 vz16  hP hD hS hl
    refine lv_iload_n hx hb dX4_weigh_45 rfl (lv_at hl 2 rfl) ?_
    refine lv_aload_n hx hb dX4_weigh_46 rfl (lv_at hl 0 rfl) ?_
    refine va_get (D := (dC, dI)) (ci := 4) (v := .int (vz16 1)) (C := RX4) (T := TX4) (N := 6) hx hb hts (fun w h => List.mem_cons_of_mem _ (List.mem_append_right _ (List.mem_append_right _ (List.mem_append_left _ h)))) hown hK hP 0 rfl rfl 3 (by decide) (hts (.fieldLink RX4 72 "SagMemory$Search" "lowest" "I") (wl_mem 5 rfl)) (fun _ h9 => h9) rfl dX4_weigh_47 ?_
    have ct63_kz23 : ∀ (H : Heap) (locs : List Loc) (ls : Array Slot) (vz22 : Nat → Int32), va_P (dC, dI) vwCl (List.flatten [(wSearch qR k vz22 az15)] ++ List.flatten [(wState qS k vS nS aS)]) H → va_D A (List.flatten [(wSearch qR k vz22 az15)] ++ List.flatten [(wState qS k vS nS aS)]) → va_S A s.heap H locs → lv_has ls 3 [(0, .ref (qR 0)), (1, .ref (qS 0))] → W p l e (headSpec wk_c_X4_weigh ({ frames := 2, cells := 0, slots := 0, locals := 80 })).room s m ([.ref (qR 0), .ref (qS 0)] : List Value).toArray below meth c H locs 0 0 Q (F0 m 63 ls []) := by
      intro H locs ls vz22  hP hD hS hl
      refine lv_aload_n hx hb dX4_weigh_63 rfl (lv_at hl 0 rfl) ?_
      refine lv_aload_n hx hb dX4_weigh_64 rfl (lv_at hl 0 rfl) ?_
      refine va_get (D := (dC, dI)) (ci := 4) (v := .int (vz22 3)) (C := RX4) (T := TX4) (N := 6) hx hb hts (fun w h => List.mem_cons_of_mem _ (List.mem_append_right _ (List.mem_append_right _ (List.mem_append_left _ h)))) hown hK hP 0 rfl rfl 5 (by decide) (hts (.fieldLink RX4 75 "SagMemory$Search" "mostOver" "I") (wl_mem 12 rfl)) (fun _ h9 => h9) rfl dX4_weigh_65 ?_
      refine lv_aload_n hx hb dX4_weigh_68 rfl (lv_at hl 1 rfl) ?_
      refine va_get (D := (dC, dI)) (ci := 7) (v := .int (vS 1)) (C := RX7) (T := TX7) (N := 9) hx hb hts (fun w h => List.mem_cons_of_mem _ (List.mem_append_right _ (List.mem_append_right _ (List.mem_append_right _ (List.mem_append_left _ h))))) hown hK hP 3 rfl rfl 2 (by decide) (hts (.fieldLink RX4 90 "SagMemory$State" "crossed" "I") (wl_mem 13 rfl)) (fun _ h9 => h9) rfl dX4_weigh_69 ?_
      have hPc : va_P (dC, dI) vwCl (List.flatten ([] : List va_W)) H := fun k q h => by simp at h
      refine vp_callSi (va_Run.run (va_runS (As := [.int (vS 1)]) (rest := [.int (vz22 3), .ref (qR 0)]) ⟨hx, hb, hml, hown, hts⟩ (c_J6_bitCount_0f7a4 l dC dI k (vS 1)) (va_cwS 1 hts (gk_S (wl_mem 14 rfl) (wl_mem 15 rfl) (wl_mem 16 rfl) (fun w h => List.mem_cons_of_mem _ (List.mem_append_right _ (List.mem_append_right _ (List.mem_append_right _ (List.mem_append_right _ (List.mem_append_left _ h)))))) wkg_c_J6_bitCount_0f7a4) rfl rfl rfl (by decide +kernel) ⟨Nat.le_of_ble_eq_true rfl, Nat.le_of_ble_eq_true rfl⟩) ⟨fun a U g mk q => by obtain ⟨q0, qP, qK⟩ := q; exact ⟨q0, qP, va_K.moved (u := U) (U := U.calling g mk a) (Vm.Alike.refl U.vm) qK⟩, fun U hU hW => ⟨rfl, by rw [hU]; exact hPc, va_K.moved hW.alike hK⟩⟩ rfl rfl hl.1 rfl (lv_room (Nat.le_of_ble_eq_true rfl)) dX4_weigh_72 ⟨Nat.le_of_ble_eq_true rfl, Nat.le_of_ble_eq_true rfl⟩)) (fun rz25 gz24 => ?_)
      clear hPc
      have pz26 := gz24
      have pz26 : 0 ≤ rz25.toInt ∧ rz25.toInt ≤ 63 := pz26
      refine va_mmax hx hb (by rw [hml]; exact hl.1.symm) hown (hts (.methodLink RX4 98 Lib.Math.max.name) (wl_mem 17 rfl)) (hts (.static Lib.Math.max.name) (wl_mem 18 rfl)) (hts (.initialized "java/lang/Math") (wl_mem 19 rfl)) (hts (.code Lib.Math.max.name Lib.Math.max.code 2 (some .int)) (wl_mem 20 rfl)) (Nat.le_of_ble_eq_true rfl) (Nat.le_of_ble_eq_true rfl) (Nat.zero_le _) (Nat.zero_le _) dX4_weigh_75 ?_
      refine lv_topi (fun xz27 exz27 => ?_)
      refine va_put (D := (dC, dI)) (ci := 4) (v := .int xz27) (ty := .int) (C := RX4) (T := TX4) (N := 6) hx hb hts (fun w h => List.mem_cons_of_mem _ (List.mem_append_right _ (List.mem_append_right _ (List.mem_append_left _ h)))) tyX4 tyX4_ok nmX4 hown hK hP hD hS 0 rfl rfl 5 (by decide) (hts (.fieldLink RX4 75 "SagMemory$Search" "mostOver" "I") (wl_mem 12 rfl)) (fun _ h9 => h9) rfl (by decide +kernel) rfl rfl (Nat.le_of_ble_eq_true rfl) dX4_weigh_78 (fun H locs hP hD hS => ?_)
      have hP : va_P (dC, dI) vwCl (List.flatten [(wSearch qR k (va_up vz22 3 xz27) az15)] ++ List.flatten [(wState qS k vS nS aS)]) H := hP
      have hD : va_D A (List.flatten [(wSearch qR k (va_up vz22 3 xz27) az15)] ++ List.flatten [(wState qS k vS nS aS)]) := hD
      rw [hQ]
      exact W.vret hx hb hr (fun t ht hW => ⟨⟨(), rfl, trivial, (va_up vz22 3 xz27), az15, by rw [ht]; exact hP⟩, hS.F ht⟩) hS.2.2 dX4_weigh_81
    refine lv_icmp_ne (tgt := 63) hx hb dX4_weigh_50 (by decide) (fun cz28 => ?_) (fun cz28 => ?_)
    · skip
      have zz29 : ¬ rz2.toInt = (vz16 1).toInt := fun h9 => cz28 (zi_eq.mpr h9)
      exact ct63_kz23 H locs ls vz16   hP hD hS (lv_sub hl [0, 1] rfl)
    · skip
      have zz30 : rz2.toInt = (vz16 1).toInt := zi_eq.mp cz28
      refine lv_aload_n hx hb dX4_weigh_53 rfl (lv_at hl 0 rfl) ?_
      refine lv_dup hx hb dX4_weigh_54 rfl ?_
      refine va_get (D := (dC, dI)) (ci := 4) (v := .int (vz16 2)) (C := RX4) (T := TX4) (N := 6) hx hb hts (fun w h => List.mem_cons_of_mem _ (List.mem_append_right _ (List.mem_append_right _ (List.mem_append_left _ h)))) hown hK hP 0 rfl rfl 4 (by decide) (hts (.fieldLink RX4 69 "SagMemory$Search" "found" "I") (wl_mem 4 rfl)) (fun _ h9 => h9) rfl dX4_weigh_55 ?_
      refine lv_iconst (v := 1) hx hb dX4_weigh_58 (by decide) ?_
      refine lv_iadd hx hb dX4_weigh_59 ?_
      refine lv_topi (fun xz31 exz31 => ?_)
      refine va_put (D := (dC, dI)) (ci := 4) (v := .int xz31) (ty := .int) (C := RX4) (T := TX4) (N := 6) hx hb hts (fun w h => List.mem_cons_of_mem _ (List.mem_append_right _ (List.mem_append_right _ (List.mem_append_left _ h)))) tyX4 tyX4_ok nmX4 hown hK hP hD hS 0 rfl rfl 4 (by decide) (hts (.fieldLink RX4 69 "SagMemory$Search" "found" "I") (wl_mem 4 rfl)) (fun _ h9 => h9) rfl (by decide +kernel) rfl rfl (Nat.le_of_ble_eq_true rfl) dX4_weigh_60 (fun H locs hP hD hS => ?_)
      have hP : va_P (dC, dI) vwCl (List.flatten [(wSearch qR k (va_up vz16 2 xz31) az15)] ++ List.flatten [(wState qS k vS nS aS)]) H := hP
      have hD : va_D A (List.flatten [(wSearch qR k (va_up vz16 2 xz31) az15)] ++ List.flatten [(wState qS k vS nS aS)]) := hD
      exact ct63_kz23 H locs ls (va_up vz16 2 xz31)   hP hD hS (lv_sub hl [0, 1] rfl)
  have ct20_kz42 : ∀ (H : Heap) (locs : List Loc) (ls : Array Slot), va_P (dC, dI) vwCl (List.flatten [(wSearch qR k vR aR)] ++ List.flatten [(wState qS k vS nS aS)]) H → va_D A (List.flatten [(wSearch qR k vR aR)] ++ List.flatten [(wState qS k vS nS aS)]) → va_S A s.heap H locs → lv_has ls 3 [(0, .ref (qR 0)), (1, .ref (qS 0)), (2, .int rz2)] → W p l e (headSpec wk_c_X4_weigh ({ frames := 2, cells := 0, slots := 0, locals := 80 })).room s m ([.ref (qR 0), .ref (qS 0)] : List Value).toArray below meth c H locs 0 0 Q (F0 m 20 ls []) := by
    intro H locs ls  hP hD hS hl
    refine lv_aload_n hx hb dX4_weigh_20 rfl (lv_at hl 0 rfl) ?_
    refine lv_iload_n hx hb dX4_weigh_21 rfl (lv_at hl 2 rfl) ?_
    refine va_put (D := (dC, dI)) (ci := 4) (v := .int rz2) (ty := .int) (C := RX4) (T := TX4) (N := 6) hx hb hts (fun w h => List.mem_cons_of_mem _ (List.mem_append_right _ (List.mem_append_right _ (List.mem_append_left _ h)))) tyX4 tyX4_ok nmX4 hown hK hP hD hS 0 rfl rfl 3 (by decide) (hts (.fieldLink RX4 72 "SagMemory$Search" "lowest" "I") (wl_mem 5 rfl)) (fun _ h9 => h9) rfl (by decide +kernel) rfl rfl (Nat.le_of_ble_eq_true rfl) dX4_weigh_22 (fun H locs hP hD hS => ?_)
    have hP : va_P (dC, dI) vwCl (List.flatten [(wSearch qR k (va_up vR 1 rz2) aR)] ++ List.flatten [(wState qS k vS nS aS)]) H := hP
    have hD : va_D A (List.flatten [(wSearch qR k (va_up vR 1 rz2) aR)] ++ List.flatten [(wState qS k vS nS aS)]) := hD
    refine lv_aload_n hx hb dX4_weigh_25 rfl (lv_at hl 0 rfl) ?_
    refine lv_iconst (v := 0) hx hb dX4_weigh_26 (by decide) ?_
    refine va_put (D := (dC, dI)) (ci := 4) (v := .int 0) (ty := .int) (C := RX4) (T := TX4) (N := 6) hx hb hts (fun w h => List.mem_cons_of_mem _ (List.mem_append_right _ (List.mem_append_right _ (List.mem_append_left _ h)))) tyX4 tyX4_ok nmX4 hown hK hP hD hS 0 rfl rfl 4 (by decide) (hts (.fieldLink RX4 69 "SagMemory$Search" "found" "I") (wl_mem 4 rfl)) (fun _ h9 => h9) rfl (by decide +kernel) rfl rfl (Nat.le_of_ble_eq_true rfl) dX4_weigh_27 (fun H locs hP hD hS => ?_)
    have hP : va_P (dC, dI) vwCl (List.flatten [(wSearch qR k (va_up (va_up vR 1 rz2) 2 (0 : Int32)) aR)] ++ List.flatten [(wState qS k vS nS aS)]) H := hP
    have hD : va_D A (List.flatten [(wSearch qR k (va_up (va_up vR 1 rz2) 2 (0 : Int32)) aR)] ++ List.flatten [(wState qS k vS nS aS)]) := hD
    refine lv_aload_n hx hb dX4_weigh_30 rfl (lv_at hl 0 rfl) ?_
    refine va_get (D := (dC, dI)) (ci := 4) (v := .ref (qR 1)) (C := RX4) (T := TX4) (N := 6) hx hb hts (fun w h => List.mem_cons_of_mem _ (List.mem_append_right _ (List.mem_append_right _ (List.mem_append_left _ h)))) hown hK hP 0 rfl rfl 0 (by decide) (hts (.fieldLink RX4 9 "SagMemory$Search" "tried" "[I") (wl_mem 6 rfl)) (fun _ h9 => h9) rfl dX4_weigh_31 ?_
    refine lv_iconst (v := 0) hx hb dX4_weigh_34 (by decide) ?_
    refine lv_aload_n hx hb dX4_weigh_35 rfl (lv_at hl 0 rfl) ?_
    refine va_get (D := (dC, dI)) (ci := 4) (v := .ref (qR 2)) (C := RX4) (T := TX4) (N := 6) hx hb hts (fun w h => List.mem_cons_of_mem _ (List.mem_append_right _ (List.mem_append_right _ (List.mem_append_left _ h)))) hown hK hP 0 rfl rfl 1 (by decide) (hts (.fieldLink RX4 15 "SagMemory$Search" "first" "[I") (wl_mem 7 rfl)) (fun _ h9 => h9) rfl dX4_weigh_36 ?_
    refine lv_iconst (v := 0) hx hb dX4_weigh_39 (by decide) ?_
    refine lv_bipush (v := 7) hx hb dX4_weigh_40 (by decide) ?_
    refine va_copyi (ty := .int) hx hb (by rw [hml]; exact hl.1.symm) hown (hts (.methodLink RX4 84 arraycopyName) (wl_mem 8 rfl)) (hts (.native arraycopyName) (wl_mem 9 rfl)) (hts (.static arraycopyName) (wl_mem 10 rfl)) (hts (.initialized "java/lang/System") (wl_mem 11 rfl)) hK hP hD hS 1 2 0 0 rfl rfl rfl rfl rfl (by decide) (by decide) (by decide) (by decide) (by decide) (fun _ _ => rfl) (Nat.le_of_ble_eq_true rfl) (Nat.le_of_ble_eq_true rfl) dX4_weigh_42 (fun H locs hP hD hS => ?_)
    obtain ⟨fz43, efz43, hP, hD⟩ : ∃ fz43 : Nat → Int32, fz43 = va_cpy (aR 0) (aR 1) (0 : Int32).toNatClampNeg (0 : Int32).toNatClampNeg (7 : Int32).toNatClampNeg ∧ va_P (dC, dI) vwCl (List.flatten [(wSearch qR k (va_up (va_up vR 1 rz2) 2 (0 : Int32)) (va_up aR 1 fz43))] ++ List.flatten [(wState qS k vS nS aS)]) H ∧ va_D A (List.flatten [(wSearch qR k (va_up (va_up vR 1 rz2) 2 (0 : Int32)) (va_up aR 1 fz43))] ++ List.flatten [(wState qS k vS nS aS)]) := ⟨_, rfl, hP, hD⟩
    exact ct45_kz17 H locs ls (va_up aR 1 fz43) (va_up (va_up vR 1 rz2) 2 (0 : Int32))   hP hD hS (lv_sub hl [0, 1, 2] rfl)
  refine lv_if_eq (tgt := 20) hx hb dX4_weigh_9 (by decide) (fun cz44 => ?_) (fun cz44 => ?_)
  · skip
    have zz45 : (vR 2).toInt = (0 : Int) := zi_eq.mp cz44
    exact ct20_kz42 s.heap [] ls   hP hD hS (lv_sub hl [1, 2, 0] rfl)
  · skip
    have zz46 : ¬ (vR 2).toInt = (0 : Int) := fun h9 => cz44 (zi_eq.mpr h9)
    refine lv_iload_n hx hb dX4_weigh_12 rfl (lv_at hl 0 rfl) ?_
    refine lv_aload_n hx hb dX4_weigh_13 rfl (lv_at hl 1 rfl) ?_
    refine va_get (D := (dC, dI)) (ci := 4) (v := .int (vR 1)) (C := RX4) (T := TX4) (N := 6) hx hb hts (fun w h => List.mem_cons_of_mem _ (List.mem_append_right _ (List.mem_append_right _ (List.mem_append_left _ h)))) hown hK hP 0 rfl rfl 3 (by decide) (hts (.fieldLink RX4 72 "SagMemory$Search" "lowest" "I") (wl_mem 5 rfl)) (fun _ h9 => h9) rfl dX4_weigh_14 ?_
    refine lv_icmp_ge (tgt := 45) hx hb dX4_weigh_17 (by decide) (fun cz47 => ?_) (fun cz47 => ?_)
    · skip
      have bz48 := fb_rng (vR 1)
      have bz49 := fb_rng rz2
      have zz50 : (vR 1).toInt ≤ rz2.toInt := zi_le.mp cz47
      exact ct45_kz17 s.heap [] ls aR vR   hP hD hS (lv_sub hl [1, 2, 0] rfl)
    · skip
      have bz51 := fb_rng (vR 1)
      have bz52 := fb_rng rz2
      have zz53 : ¬ (vR 1).toInt ≤ rz2.toInt := fun h9 => cz47 (zi_le.mpr h9)
      exact ct20_kz42 s.heap [] ls   hP hD hS (lv_sub hl [1, 2, 0] rfl)
def wk_c_X4_swap : List Cond := .code yX4_swap cX4_swap 4 none :: ([.fieldLink RX4 9 "SagMemory$Search" "tried" "[I"] ++ (wsX40 ++ []))
theorem wkg_c_X4_swap : wk_c_X4_swap.all goodWord = true := by decide +kernel
set_option maxHeartbeats 4000000 in
set_option maxRecDepth 100000 in
theorem c_X4_swap (l : Launch) (dC : Nat → ClassId) (dI : Nat → Nat → Nat) (k : Nat → ClassId) (sz : Nat) (qR : Nat → Nat) (vR : Nat → Int32) (aR : Nat → Nat → Int32) (p1 : Int32) (p2 : Int32) (hp0 : 0 ≤ p1.toInt ∧ p1.toInt ≤ 6) (hp1 : 0 ≤ p2.toInt ∧ p2.toInt ≤ 6) : Met l yX4_swap wk_c_X4_swap ({ frames := 0, cells := 0, slots := 0, locals := 0 }) (va_Pc [.ref (qR 0), .int p1, .int p2] (fun U => U.heap.size = sz ∧ va_P (dC, dI) vwCl (List.flatten [(wSearch qR k vR aR)] ++ List.flatten ([] : List va_W)) U.heap ∧ va_K (dC, dI) vwCl (tK k) U ∧ va_D (fun _ => True) (List.flatten [(wSearch qR k vR aR)] ++ List.flatten ([] : List va_W)))) (va_Qv (fun _ : Unit => True) (fun (_ : Unit) (t : State) => ∃ (vR' : Nat → Int32) (aR' : Nat → Nat → Int32), va_P (dC, dI) vwCl (List.flatten [(wSearch qR k vR' aR')] ++ List.flatten ([] : List va_W)) t.heap) (va_A (List.flatten [(wSearch qR k vR aR)] ++ List.flatten ([] : List va_W)) sz)) 0 0 (va_A (List.flatten [(wSearch qR k vR aR)] ++ List.flatten ([] : List va_W)) sz) := by
  refine Met.ofW (cc := cX4_swap) (maxL := 4) (ret := none) (by decide) rfl ?_
  intro p e s m args below meth c s₁ B hml hv
  obtain ⟨rfl, hsz, hP, hK, hD0⟩ := hv
  have hx := B.exec
  have hb := B.bytes
  have hr := B.returns
  have hts := atoms_spec (ws := wk_c_X4_swap) B.pre
  have hown : s.vm.findClass RX4 = some m.cls := findClass_of_methodNamed B.named
  have hlocks := B.notSynchronized
  subst hsz
  have hD := hD0.self (sz := s.heap.size)
  generalize hAe : va_A (List.flatten [(wSearch qR k vR aR)] ++ List.flatten ([] : List va_W)) s.heap.size = A at hD ⊢
  have hA : ∀ q : Nat, s.heap.size ≤ q → A q := fun q h => by rw [← hAe]; exact Or.inr h
  have hS : va_S A s.heap s.heap [] := va_S.rf
  have hP : va_P (dC, dI) vwCl (List.flatten [(wSearch qR k vR aR)] ++ List.flatten ([] : List va_W)) s.heap := hP
  have hl := lv_entry ([.ref (qR 0), .int p1, .int p2]) (n := 4) (Nat.le_of_ble_eq_true rfl)
  rw [lg_entry_eq]
  generalize (lg_sl ([.ref (qR 0), .int p1, .int p2]) ++ List.replicate (4 - (lg_sl ([.ref (qR 0), .int p1, .int p2])).length) Slot.unset).toArray = ls at hl ⊢
  have hl : lv_has ls 4 [(0, .ref (qR 0)), (1, .int p1), (2, .int p2)] := hl
  refine w_gen (fun Q hQ => ?_)
  refine lv_aload_n hx hb dX4_swap_0 rfl (lv_at hl 0 rfl) ?_
  refine va_get (D := (dC, dI)) (ci := 4) (v := .ref (qR 1)) (C := RX4) (T := TX4) (N := 6) hx hb hts (fun w h => List.mem_cons_of_mem _ (List.mem_append_right _ (List.mem_append_left _ h))) hown hK hP 0 rfl rfl 0 (by decide) (hts (.fieldLink RX4 9 "SagMemory$Search" "tried" "[I") (wl_mem 0 rfl)) (fun _ h9 => h9) rfl dX4_swap_1 ?_
  refine lv_iload_n hx hb dX4_swap_4 rfl (lv_at hl 1 rfl) ?_
  refine va_iald hx hb hK hP 1 0 rfl rfl (vp_in_iff.mpr ⟨by omega, by omega⟩) dX4_swap_5 ?_
  refine lv_topi (fun xz1 exz1 => ?_)
  refine lv_istore_n (lv' := [(3, .int xz1), (0, .ref (qR 0)), (1, .int p1), (2, .int p2)]) hx hb dX4_swap_6 rfl hl (by decide) rfl (fun ls hl => ?_)
  refine lv_aload_n hx hb dX4_swap_7 rfl (lv_at hl 1 rfl) ?_
  refine va_get (D := (dC, dI)) (ci := 4) (v := .ref (qR 1)) (C := RX4) (T := TX4) (N := 6) hx hb hts (fun w h => List.mem_cons_of_mem _ (List.mem_append_right _ (List.mem_append_left _ h))) hown hK hP 0 rfl rfl 0 (by decide) (hts (.fieldLink RX4 9 "SagMemory$Search" "tried" "[I") (wl_mem 0 rfl)) (fun _ h9 => h9) rfl dX4_swap_8 ?_
  refine lv_iload_n hx hb dX4_swap_11 rfl (lv_at hl 2 rfl) ?_
  refine lv_aload_n hx hb dX4_swap_12 rfl (lv_at hl 1 rfl) ?_
  refine va_get (D := (dC, dI)) (ci := 4) (v := .ref (qR 1)) (C := RX4) (T := TX4) (N := 6) hx hb hts (fun w h => List.mem_cons_of_mem _ (List.mem_append_right _ (List.mem_append_left _ h))) hown hK hP 0 rfl rfl 0 (by decide) (hts (.fieldLink RX4 9 "SagMemory$Search" "tried" "[I") (wl_mem 0 rfl)) (fun _ h9 => h9) rfl dX4_swap_13 ?_
  refine lv_iload_n hx hb dX4_swap_16 rfl (lv_at hl 3 rfl) ?_
  refine va_iald hx hb hK hP 1 0 rfl rfl (vp_in_iff.mpr ⟨by omega, by omega⟩) dX4_swap_17 ?_
  refine lv_topi (fun xz2 exz2 => ?_)
  refine va_iast hx hb hK hP hD hS 1 0 rfl rfl (vp_in_iff.mpr ⟨by omega, by omega⟩) dX4_swap_18 (fun H locs hP hD hS => ?_)
  obtain ⟨fz3, efz3, hP, hD⟩ : ∃ fz3 : Nat → Int32, fz3 = upd (aR 0) p1.toNatClampNeg xz2 ∧ va_P (dC, dI) vwCl (List.flatten [(wSearch qR k vR (va_up aR 0 fz3))] ++ List.flatten ([] : List va_W)) H ∧ va_D A (List.flatten [(wSearch qR k vR (va_up aR 0 fz3))] ++ List.flatten ([] : List va_W)) := ⟨_, rfl, hP, hD⟩
  have kfz3 : fz3 p1.toNatClampNeg = xz2 := by rw [efz3]; exact pk_us
  refine lv_aload_n hx hb dX4_swap_19 rfl (lv_at hl 1 rfl) ?_
  refine va_get (D := (dC, dI)) (ci := 4) (v := .ref (qR 1)) (C := RX4) (T := TX4) (N := 6) hx hb hts (fun w h => List.mem_cons_of_mem _ (List.mem_append_right _ (List.mem_append_left _ h))) hown hK hP 0 rfl rfl 0 (by decide) (hts (.fieldLink RX4 9 "SagMemory$Search" "tried" "[I") (wl_mem 0 rfl)) (fun _ h9 => h9) rfl dX4_swap_20 ?_
  refine lv_iload_n hx hb dX4_swap_23 rfl (lv_at hl 3 rfl) ?_
  refine lv_iload_n hx hb dX4_swap_24 rfl (lv_at hl 0 rfl) ?_
  refine va_iast hx hb hK hP hD hS 1 0 rfl rfl (vp_in_iff.mpr ⟨by omega, by omega⟩) dX4_swap_25 (fun H locs hP hD hS => ?_)
  obtain ⟨fz4, efz4, hP, hD⟩ : ∃ fz4 : Nat → Int32, fz4 = upd fz3 p2.toNatClampNeg xz1 ∧ va_P (dC, dI) vwCl (List.flatten [(wSearch qR k vR (va_up aR 0 fz4))] ++ List.flatten ([] : List va_W)) H ∧ va_D A (List.flatten [(wSearch qR k vR (va_up aR 0 fz4))] ++ List.flatten ([] : List va_W)) := ⟨_, rfl, hP, hD⟩
  have kfz4 : fz4 p2.toNatClampNeg = xz1 := by rw [efz4]; exact pk_us
  rw [hQ]
  exact W.vret hx hb hr (fun t ht hW => ⟨⟨(), rfl, trivial, vR, (va_up aR 0 fz4), by rw [ht]; exact hP⟩, hS.F ht⟩) hS.2.2 dX4_swap_26
def wk_c_X4_nextOrder : List Cond := .code yX4_nextOrder cX4_nextOrder 6 (some .int) :: ([.fieldLink RX4 9 "SagMemory$Search" "tried" "[I", .methodLink RX4 103 yX4_swap, .instanceMethod yX4_swap, .selects RX4 yX4_swap yX4_swap, .initialized RX4] ++ (wsX40 ++ (wk_c_X4_swap ++ [])))
theorem wkg_c_X4_nextOrder : wk_c_X4_nextOrder.all goodWord = true := by decide +kernel
set_option maxHeartbeats 4000000 in
set_option maxRecDepth 100000 in
theorem c_X4_nextOrder (l : Launch) (dC : Nat → ClassId) (dI : Nat → Nat → Nat) (k : Nat → ClassId) (sz : Nat) (qR : Nat → Nat) (vR : Nat → Int32) (aR : Nat → Nat → Int32) (p1 : Int32) (hp0 : 0 ≤ p1.toInt ∧ p1.toInt ≤ 7) : Met l yX4_nextOrder wk_c_X4_nextOrder ({ frames := 1, cells := 0, slots := 0, locals := 23 }) (va_Pc [.ref (qR 0), .int p1] (fun U => U.heap.size = sz ∧ va_P (dC, dI) vwCl (List.flatten [(wSearch qR k vR aR)] ++ List.flatten ([] : List va_W)) U.heap ∧ va_K (dC, dI) vwCl (tK k) U ∧ va_D (fun _ => True) (List.flatten [(wSearch qR k vR aR)] ++ List.flatten ([] : List va_W)))) (va_Qi (fun (r : Int32) (_ : Unit) => ((-1) ≤ r.toInt ∧ r.toInt ≤ 6)) (fun (_ : Unit) (t : State) => ∃ (vR' : Nat → Int32) (aR' : Nat → Nat → Int32), va_P (dC, dI) vwCl (List.flatten [(wSearch qR k vR' aR')] ++ List.flatten ([] : List va_W)) t.heap) (va_A (List.flatten [(wSearch qR k vR aR)] ++ List.flatten ([] : List va_W)) sz)) 0 0 (va_A (List.flatten [(wSearch qR k vR aR)] ++ List.flatten ([] : List va_W)) sz) := by
  refine Met.ofW (cc := cX4_nextOrder) (maxL := 6) (ret := (some .int)) (by decide) rfl ?_
  intro p e s m args below meth c s₁ B hml hv
  obtain ⟨rfl, hsz, hP, hK, hD0⟩ := hv
  have hx := B.exec
  have hb := B.bytes
  have hr := B.returns
  have hts := atoms_spec (ws := wk_c_X4_nextOrder) B.pre
  have hown : s.vm.findClass RX4 = some m.cls := findClass_of_methodNamed B.named
  have hlocks := B.notSynchronized
  subst hsz
  have hD := hD0.self (sz := s.heap.size)
  generalize hAe : va_A (List.flatten [(wSearch qR k vR aR)] ++ List.flatten ([] : List va_W)) s.heap.size = A at hD ⊢
  have hA : ∀ q : Nat, s.heap.size ≤ q → A q := fun q h => by rw [← hAe]; exact Or.inr h
  have hS : va_S A s.heap s.heap [] := va_S.rf
  have hP : va_P (dC, dI) vwCl (List.flatten [(wSearch qR k vR aR)] ++ List.flatten ([] : List va_W)) s.heap := hP
  have hl := lv_entry ([.ref (qR 0), .int p1]) (n := 6) (Nat.le_of_ble_eq_true rfl)
  rw [lg_entry_eq]
  generalize (lg_sl ([.ref (qR 0), .int p1]) ++ List.replicate (6 - (lg_sl ([.ref (qR 0), .int p1])).length) Slot.unset).toArray = ls at hl ⊢
  have hl : lv_has ls 6 [(0, .ref (qR 0)), (1, .int p1)] := hl
  refine w_gen (fun Q hQ => ?_)
  refine lv_iload_n hx hb dX4_nextOrder_0 rfl (lv_at hl 1 rfl) ?_
  refine lv_iconst (v := 2) hx hb dX4_nextOrder_1 (by decide) ?_
  refine lv_isub hx hb dX4_nextOrder_2 ?_
  refine lv_topi (fun xz1 exz1 => ?_)
  have fxz1 : xz1.toInt = p1.toInt - (2 : Int) := by rw [exz1]; exact fb_subI (x := p1) (y := (2 : Int32)) (by show -2147483648 ≤ p1.toInt - (2 : Int); omega) (by show p1.toInt - (2 : Int) < 2147483648; omega)
  refine lv_istore_n (lv' := [(2, .int xz1), (0, .ref (qR 0)), (1, .int p1)]) hx hb dX4_nextOrder_3 rfl hl (by decide) rfl (fun ls hl => ?_)
  have lp4_kz39 : ∀ (n9_4 : Nat) (H : Heap) (locs : List Loc) (ls : Array Slot) (xz38 : Int32), (xz38.toInt + 2147483648).toNat < n9_4 → xz38.toInt ≤ 5 → xz38.toInt ≤ p1.toInt - 2 → va_P (dC, dI) vwCl (List.flatten [(wSearch qR k vR aR)] ++ List.flatten ([] : List va_W)) H → va_D A (List.flatten [(wSearch qR k vR aR)] ++ List.flatten ([] : List va_W)) → va_S A s.heap H locs → lv_has ls 6 [(0, .ref (qR 0)), (1, .int p1), (2, .int xz38)] → W p l e (headSpec wk_c_X4_nextOrder ({ frames := 1, cells := 0, slots := 0, locals := 23 })).room s m ([.ref (qR 0), .int p1] : List Value).toArray below meth c H locs 0 0 Q (F0 m 4 ls []) := by
    intro n9_4
    induction n9_4 with
    | zero => intro H locs ls xz38 hm; exact absurd hm (Nat.not_lt_zero _)
    | succ n9_4 ih4 =>
      intro H locs ls xz38 hm4 jz40 jz41 hP hD hS hl
      refine lv_iload_n hx hb dX4_nextOrder_4 rfl (lv_at hl 2 rfl) ?_
      have ct31_kz58 : ∀ (H : Heap) (locs : List Loc) (ls : Array Slot), va_P (dC, dI) vwCl (List.flatten [(wSearch qR k vR aR)] ++ List.flatten ([] : List va_W)) H → va_D A (List.flatten [(wSearch qR k vR aR)] ++ List.flatten ([] : List va_W)) → va_S A s.heap H locs → lv_has ls 6 [(0, .ref (qR 0)), (1, .int p1), (2, .int xz38)] → W p l e (headSpec wk_c_X4_nextOrder ({ frames := 1, cells := 0, slots := 0, locals := 23 })).room s m ([.ref (qR 0), .int p1] : List Value).toArray below meth c H locs 0 0 Q (F0 m 31 ls []) := by
        intro H locs ls  hP hD hS hl
        refine lv_iload_n hx hb dX4_nextOrder_31 rfl (lv_at hl 2 rfl) ?_
        refine lv_if_ge (tgt := 37) hx hb dX4_nextOrder_32 (by decide) (fun cz59 => ?_) (fun cz59 => ?_)
        · skip
          have bz60 := fb_rng xz38
          have zz61 : (0 : Int) ≤ xz38.toInt := zi_le.mp cz59
          refine lv_iload_n hx hb dX4_nextOrder_37 rfl (lv_at hl 1 rfl) ?_
          refine lv_iconst (v := 1) hx hb dX4_nextOrder_38 (by decide) ?_
          refine lv_isub hx hb dX4_nextOrder_39 ?_
          refine lv_topi (fun xz62 exz62 => ?_)
          have fxz62 : xz62.toInt = p1.toInt - (1 : Int) := by rw [exz62]; exact fb_subI (x := p1) (y := (1 : Int32)) (by show -2147483648 ≤ p1.toInt - (1 : Int); omega) (by show p1.toInt - (1 : Int) < 2147483648; omega)
          refine lv_istore_n (lv' := [(3, .int xz62), (0, .ref (qR 0)), (1, .int p1), (2, .int xz38)]) hx hb dX4_nextOrder_40 rfl hl (by decide) rfl (fun ls hl => ?_)
          have lp41_kz98 : ∀ (n9_41 : Nat) (H : Heap) (locs : List Loc) (ls : Array Slot) (xz97 : Int32), (xz97.toInt + 2147483648).toNat < n9_41 → xz97.toInt ≤ 6 → xz38.toInt ≤ xz97.toInt → va_P (dC, dI) vwCl (List.flatten [(wSearch qR k vR aR)] ++ List.flatten ([] : List va_W)) H → va_D A (List.flatten [(wSearch qR k vR aR)] ++ List.flatten ([] : List va_W)) → va_S A s.heap H locs → lv_has ls 6 [(0, .ref (qR 0)), (1, .int p1), (2, .int xz38), (3, .int xz97)] → W p l e (headSpec wk_c_X4_nextOrder ({ frames := 1, cells := 0, slots := 0, locals := 23 })).room s m ([.ref (qR 0), .int p1] : List Value).toArray below meth c H locs 0 0 Q (F0 m 41 ls []) := by
            intro n9_41
            induction n9_41 with
            | zero => intro H locs ls xz97 hm; exact absurd hm (Nat.not_lt_zero _)
            | succ n9_41 ih41 =>
              intro H locs ls xz97 hm41 jz99 jz100 hP hD hS hl
              refine lv_iload_n hx hb dX4_nextOrder_41 rfl (lv_at hl 3 rfl) ?_
              refine lv_iload_n hx hb dX4_nextOrder_42 rfl (lv_at hl 2 rfl) ?_
              have ct67_kz116 : ∀ (H : Heap) (locs : List Loc) (ls : Array Slot), va_P (dC, dI) vwCl (List.flatten [(wSearch qR k vR aR)] ++ List.flatten ([] : List va_W)) H → va_D A (List.flatten [(wSearch qR k vR aR)] ++ List.flatten ([] : List va_W)) → va_S A s.heap H locs → lv_has ls 6 [(0, .ref (qR 0)), (1, .int p1), (2, .int xz38), (3, .int xz97)] → W p l e (headSpec wk_c_X4_nextOrder ({ frames := 1, cells := 0, slots := 0, locals := 23 })).room s m ([.ref (qR 0), .int p1] : List Value).toArray below meth c H locs 0 0 Q (F0 m 67 ls []) := by
                intro H locs ls  hP hD hS hl
                refine lv_aload_n hx hb dX4_nextOrder_67 rfl (lv_at hl 0 rfl) ?_
                refine lv_iload_n hx hb dX4_nextOrder_68 rfl (lv_at hl 2 rfl) ?_
                refine lv_iload_n hx hb dX4_nextOrder_69 rfl (lv_at hl 3 rfl) ?_
                have hPc := hP
                have hC : [0, 1, 2].map (fun i => (List.flatten [(wSearch qR k vR aR)] ++ List.flatten ([] : List va_W))[i]?) = (List.flatten [(wSearch qR k vR aR)] ++ List.flatten ([] : List va_W)).map some := rfl
                have hDc := hD.sub [0, 1, 2] (by decide) hC
                have hFc := va_free hD hS hA [0, 1, 2] hC
                refine va_callv (va_runV (As := [.int xz38, .int xz97]) (rest := []) ⟨hx, hb, hml, hown, hts⟩ (c_X4_swap l dC dI k H.size qR vR aR xz38 xz97 (by show 0 ≤ xz38.toInt ∧ xz38.toInt ≤ 6; omega) (by show 0 ≤ xz97.toInt ∧ xz97.toInt ≤ 6; omega)) (cwV 2 hts (gk_V (wl_mem 1 rfl) (wl_mem 2 rfl) (wl_mem 3 rfl) (wl_mem 4 rfl) (fun w h => List.mem_cons_of_mem _ (List.mem_append_right _ (List.mem_append_right _ (List.mem_append_left _ h)))) wkg_c_X4_swap) rfl rfl rfl (by decide +kernel) ⟨Nat.le_of_ble_eq_true rfl, Nat.le_of_ble_eq_true rfl⟩) ⟨fun a U g mk q => by obtain ⟨q0, q1, qP, qK, qD⟩ := q; exact ⟨q0, q1, qP, va_K.moved (u := U) (U := U.calling g mk a) (Vm.Alike.refl U.vm) qK, qD⟩, va_recv hK hPc (ci := 4) (q0 := 0) rfl rfl, fun U hU hW => ⟨rfl, by rw [hU], by rw [hU]; exact hPc, va_K.moved hW.alike hK, hDc.weaken (fun _ _ _ _ => trivial)⟩⟩ rfl rfl hl.1 rfl (lv_room (Nat.le_of_ble_eq_true rfl)) dX4_nextOrder_70 ⟨Nat.le_of_ble_eq_true rfl, Nat.le_of_ble_eq_true rfl⟩) hS (fun q _ h => hFc q h) hFc (fun u t H1 locs ht hvm gz117 hB hz1 hk1 hS => ?_)
                obtain ⟨vz119, az120, hP1⟩ := hB
                rw [ht] at hP1
                obtain ⟨hP, hD⟩ := w_callC hP hD hk1 hP1 [0] rfl rfl (fun _ h => absurd h List.not_mem_nil) rfl
                clear hPc hC hDc hFc hk1 hP1
                generalize H1 = H at hP hS ⊢
                have hP : va_P (dC, dI) vwCl (List.flatten [(wSearch qR k vz119 az120)] ++ List.flatten ([] : List va_W)) H := hP
                have hD : va_D A (List.flatten [(wSearch qR k vz119 az120)] ++ List.flatten ([] : List va_W)) := hD
                refine W.widen (k := 0) (n := 0) (Nat.le_refl 0) (Nat.le_refl 0) ?_
                refine lv_iload_n hx hb dX4_nextOrder_73 rfl (lv_at hl 2 rfl) ?_
                refine lv_iconst (v := 1) hx hb dX4_nextOrder_74 (by decide) ?_
                refine lv_iadd hx hb dX4_nextOrder_75 ?_
                refine lv_topi (fun xz121 exz121 => ?_)
                have fxz121 : xz121.toInt = xz38.toInt + (1 : Int) := by rw [exz121]; exact fb_addI (x := xz38) (y := (1 : Int32)) (by show -2147483648 ≤ xz38.toInt + (1 : Int); omega) (by show xz38.toInt + (1 : Int) < 2147483648; omega)
                refine lv_istore (lv' := [(4, .int xz121), (0, .ref (qR 0)), (1, .int p1), (2, .int xz38), (3, .int xz97)]) hx hb dX4_nextOrder_76 hl (by decide) rfl (fun ls hl => ?_)
                refine lv_iload_n hx hb dX4_nextOrder_78 rfl (lv_at hl 2 rfl) ?_
                refine lv_iconst (v := 1) hx hb dX4_nextOrder_79 (by decide) ?_
                refine lv_isub hx hb dX4_nextOrder_80 ?_
                refine lv_topi (fun xz122 exz122 => ?_)
                have fxz122 : xz122.toInt = p1.toInt - (1 : Int) := by rw [exz122]; exact fb_subI (x := p1) (y := (1 : Int32)) (by show -2147483648 ≤ p1.toInt - (1 : Int); omega) (by show p1.toInt - (1 : Int) < 2147483648; omega)
                refine lv_istore (lv' := [(5, .int xz122), (4, .int xz121), (0, .ref (qR 0)), (1, .int p1), (2, .int xz38), (3, .int xz97)]) hx hb dX4_nextOrder_81 hl (by decide) rfl (fun ls hl => ?_)
                have lp83_kz142 : ∀ (n9_83 : Nat) (H : Heap) (locs : List Loc) (ls : Array Slot) (az138 : Nat → Nat → Int32) (vz139 : Nat → Int32) (xz140 : Int32) (xz141 : Int32), (xz141.toInt + 2147483648).toNat < n9_83 → xz141.toInt ≤ 6 → 0 ≤ xz140.toInt ∧ xz140.toInt ≤ 7 → va_P (dC, dI) vwCl (List.flatten [(wSearch qR k vz139 az138)] ++ List.flatten ([] : List va_W)) H → va_D A (List.flatten [(wSearch qR k vz139 az138)] ++ List.flatten ([] : List va_W)) → va_S A s.heap H locs → lv_has ls 6 [(0, .ref (qR 0)), (2, .int xz38), (4, .int xz140), (5, .int xz141)] → W p l e (headSpec wk_c_X4_nextOrder ({ frames := 1, cells := 0, slots := 0, locals := 23 })).room s m ([.ref (qR 0), .int p1] : List Value).toArray below meth c H locs 0 0 Q (F0 m 83 ls []) := by
                  intro n9_83
                  induction n9_83 with
                  | zero => intro H locs ls az138 vz139 xz140 xz141 hm; exact absurd hm (Nat.not_lt_zero _)
                  | succ n9_83 ih83 =>
                    intro H locs ls az138 vz139 xz140 xz141 hm83 jz143 jz144 hP hD hS hl
                    refine lv_iload hx hb dX4_nextOrder_83 (lv_at hl 2 rfl) ?_
                    refine lv_iload hx hb dX4_nextOrder_85 (lv_at hl 3 rfl) ?_
                    refine lv_icmp_ge (tgt := 107) hx hb dX4_nextOrder_87 (by decide) (fun cz145 => ?_) (fun cz145 => ?_)
                    · skip
                      have bz146 := fb_rng xz141
                      have zz147 : xz141.toInt ≤ xz140.toInt := zi_le.mp cz145
                      refine lv_iload_n hx hb dX4_nextOrder_107 rfl (lv_at hl 1 rfl) ?_
                      rw [hQ]
                      exact W.iret (v := xz38) hx hb hr (fun t ht hW => ⟨⟨xz38, (), rfl, (by show (-1) ≤ xz38.toInt ∧ xz38.toInt ≤ 6; omega), vz139, az138, by rw [ht]; exact hP⟩, hS.F ht⟩) hS.2.2 dX4_nextOrder_108
                    · skip
                      have bz148 := fb_rng xz141
                      have zz149 : ¬ xz141.toInt ≤ xz140.toInt := fun h9 => cz145 (zi_le.mpr h9)
                      refine lv_aload_n hx hb dX4_nextOrder_90 rfl (lv_at hl 0 rfl) ?_
                      refine lv_iload hx hb dX4_nextOrder_91 (lv_at hl 2 rfl) ?_
                      refine lv_iload hx hb dX4_nextOrder_93 (lv_at hl 3 rfl) ?_
                      have hPc := hP
                      have hC : [0, 1, 2].map (fun i => (List.flatten [(wSearch qR k vz139 az138)] ++ List.flatten ([] : List va_W))[i]?) = (List.flatten [(wSearch qR k vz139 az138)] ++ List.flatten ([] : List va_W)).map some := rfl
                      have hDc := hD.sub [0, 1, 2] (by decide) hC
                      have hFc := va_free hD hS hA [0, 1, 2] hC
                      refine va_callv (va_runV (As := [.int xz140, .int xz141]) (rest := []) ⟨hx, hb, hml, hown, hts⟩ (c_X4_swap l dC dI k H.size qR vz139 az138 xz140 xz141 (by show 0 ≤ xz140.toInt ∧ xz140.toInt ≤ 6; omega) (by show 0 ≤ xz141.toInt ∧ xz141.toInt ≤ 6; omega)) (cwV 2 hts (gk_V (wl_mem 1 rfl) (wl_mem 2 rfl) (wl_mem 3 rfl) (wl_mem 4 rfl) (fun w h => List.mem_cons_of_mem _ (List.mem_append_right _ (List.mem_append_right _ (List.mem_append_left _ h)))) wkg_c_X4_swap) rfl rfl rfl (by decide +kernel) ⟨Nat.le_of_ble_eq_true rfl, Nat.le_of_ble_eq_true rfl⟩) ⟨fun a U g mk q => by obtain ⟨q0, q1, qP, qK, qD⟩ := q; exact ⟨q0, q1, qP, va_K.moved (u := U) (U := U.calling g mk a) (Vm.Alike.refl U.vm) qK, qD⟩, va_recv hK hPc (ci := 4) (q0 := 0) rfl rfl, fun U hU hW => ⟨rfl, by rw [hU], by rw [hU]; exact hPc, va_K.moved hW.alike hK, hDc.weaken (fun _ _ _ _ => trivial)⟩⟩ rfl rfl hl.1 rfl (lv_room (Nat.le_of_ble_eq_true rfl)) dX4_nextOrder_95 ⟨Nat.le_of_ble_eq_true rfl, Nat.le_of_ble_eq_true rfl⟩) hS (fun q _ h => hFc q h) hFc (fun u t H1 locs ht hvm gz150 hB hz1 hk1 hS => ?_)
                      obtain ⟨vz152, az153, hP1⟩ := hB
                      rw [ht] at hP1
                      obtain ⟨hP, hD⟩ := w_callC hP hD hk1 hP1 [0] rfl rfl (fun _ h => absurd h List.not_mem_nil) rfl
                      clear hPc hC hDc hFc hk1 hP1
                      generalize H1 = H at hP hS ⊢
                      have hP : va_P (dC, dI) vwCl (List.flatten [(wSearch qR k vz152 az153)] ++ List.flatten ([] : List va_W)) H := hP
                      have hD : va_D A (List.flatten [(wSearch qR k vz152 az153)] ++ List.flatten ([] : List va_W)) := hD
                      refine W.widen (k := 0) (n := 0) (Nat.le_refl 0) (Nat.le_refl 0) ?_
                      obtain ⟨xz154, exz154⟩ : ∃ y : Int32, y = xz140 + Int32.ofInt (1) := ⟨_, rfl⟩
                      have fxz154 : xz154.toInt = xz140.toInt + (1) := by rw [exz154]; exact fb_addI (y := Int32.ofInt (1)) (by show -2147483648 ≤ xz140.toInt + (1); omega) (by show xz140.toInt + (1) < 2147483648; omega)
                      refine lv_iinc (v := xz154) (lv' := [(4, .int xz154), (0, .ref (qR 0)), (2, .int xz38), (5, .int xz141)]) hx hb dX4_nextOrder_98 hl (k := 2) rfl exz154.symm (by decide) rfl (fun ls hl => ?_)
                      obtain ⟨xz155, exz155⟩ : ∃ y : Int32, y = xz141 + Int32.ofInt (-1) := ⟨_, rfl⟩
                      have fxz155 : xz155.toInt = xz141.toInt + (-1) := by rw [exz155]; exact fb_addI (y := Int32.ofInt (-1)) (by show -2147483648 ≤ xz141.toInt + (-1); omega) (by show xz141.toInt + (-1) < 2147483648; omega)
                      refine lv_iinc (v := xz155) (lv' := [(5, .int xz155), (4, .int xz154), (0, .ref (qR 0)), (2, .int xz38)]) hx hb dX4_nextOrder_101 hl (k := 3) rfl exz155.symm (by decide) rfl (fun ls hl => ?_)
                      refine lv_goto (tgt := 83) hx hb dX4_nextOrder_104 (by decide) ?_
                      exact ih83 H locs ls az153 vz152 xz154 xz155 (by show (xz155.toInt + 2147483648).toNat < n9_83; omega) (by show xz155.toInt ≤ 6; omega) (by show 0 ≤ xz154.toInt ∧ xz154.toInt ≤ 7; omega) hP hD hS (lv_sub hl [2, 3, 1, 0] rfl)
                exact lp83_kz142 _ H locs ls az120 vz119 xz121 xz122 (Nat.lt_succ_self _) (by show xz122.toInt ≤ 6; omega) (by show 0 ≤ xz121.toInt ∧ xz121.toInt ≤ 7; omega) hP hD hS (lv_sub hl [2, 4, 1, 0] rfl)
              refine lv_icmp_le (tgt := 67) hx hb dX4_nextOrder_43 (by decide) (fun cz156 => ?_) (fun cz156 => ?_)
              · skip
                have bz157 := fb_rng xz97
                have zz158 : xz97.toInt ≤ xz38.toInt := zi_le.mp cz156
                exact ct67_kz116 H locs ls   hP hD hS (lv_sub hl [0, 1, 2, 3] rfl)
              · skip
                have bz159 := fb_rng xz97
                have zz160 : ¬ xz97.toInt ≤ xz38.toInt := fun h9 => cz156 (zi_le.mpr h9)
                refine lv_aload_n hx hb dX4_nextOrder_46 rfl (lv_at hl 0 rfl) ?_
                refine va_get (D := (dC, dI)) (ci := 4) (v := .ref (qR 1)) (C := RX4) (T := TX4) (N := 6) hx hb hts (fun w h => List.mem_cons_of_mem _ (List.mem_append_right _ (List.mem_append_left _ h))) hown hK hP 0 rfl rfl 0 (by decide) (hts (.fieldLink RX4 9 "SagMemory$Search" "tried" "[I") (wl_mem 0 rfl)) (fun _ h9 => h9) rfl dX4_nextOrder_47 ?_
                refine lv_iload_n hx hb dX4_nextOrder_50 rfl (lv_at hl 3 rfl) ?_
                refine va_iald hx hb hK hP 1 0 rfl rfl (vp_in_iff.mpr ⟨by omega, by omega⟩) dX4_nextOrder_51 ?_
                refine lv_topi (fun xz161 exz161 => ?_)
                refine lv_aload_n hx hb dX4_nextOrder_52 rfl (lv_at hl 0 rfl) ?_
                refine va_get (D := (dC, dI)) (ci := 4) (v := .ref (qR 1)) (C := RX4) (T := TX4) (N := 6) hx hb hts (fun w h => List.mem_cons_of_mem _ (List.mem_append_right _ (List.mem_append_left _ h))) hown hK hP 0 rfl rfl 0 (by decide) (hts (.fieldLink RX4 9 "SagMemory$Search" "tried" "[I") (wl_mem 0 rfl)) (fun _ h9 => h9) rfl dX4_nextOrder_53 ?_
                refine lv_iload_n hx hb dX4_nextOrder_56 rfl (lv_at hl 2 rfl) ?_
                refine va_iald hx hb hK hP 1 0 rfl rfl (vp_in_iff.mpr ⟨by omega, by omega⟩) dX4_nextOrder_57 ?_
                refine lv_topi (fun xz162 exz162 => ?_)
                refine lv_icmp_ge (tgt := 67) hx hb dX4_nextOrder_58 (by decide) (fun cz163 => ?_) (fun cz163 => ?_)
                · skip
                  have bz164 := fb_rng xz162
                  have bz165 := fb_rng xz161
                  have zz166 : xz162.toInt ≤ xz161.toInt := zi_le.mp cz163
                  exact ct67_kz116 H locs ls   hP hD hS (lv_sub hl [0, 1, 2, 3] rfl)
                · skip
                  have bz167 := fb_rng xz162
                  have bz168 := fb_rng xz161
                  have zz169 : ¬ xz162.toInt ≤ xz161.toInt := fun h9 => cz163 (zi_le.mpr h9)
                  obtain ⟨xz170, exz170⟩ : ∃ y : Int32, y = xz97 + Int32.ofInt (-1) := ⟨_, rfl⟩
                  have fxz170 : xz170.toInt = xz97.toInt + (-1) := by rw [exz170]; exact fb_addI (y := Int32.ofInt (-1)) (by show -2147483648 ≤ xz97.toInt + (-1); omega) (by show xz97.toInt + (-1) < 2147483648; omega)
                  refine lv_iinc (v := xz170) (lv' := [(3, .int xz170), (0, .ref (qR 0)), (1, .int p1), (2, .int xz38)]) hx hb dX4_nextOrder_61 hl (k := 3) rfl exz170.symm (by decide) rfl (fun ls hl => ?_)
                  refine lv_goto (tgt := 41) hx hb dX4_nextOrder_64 (by decide) ?_
                  exact ih41 H locs ls xz170 (by show (xz170.toInt + 2147483648).toNat < n9_41; omega) (by show xz170.toInt ≤ 6; omega) (by show xz38.toInt ≤ xz170.toInt; omega) hP hD hS (lv_sub hl [1, 2, 3, 0] rfl)
          exact lp41_kz98 _ H locs ls xz62 (Nat.lt_succ_self _) (by show xz62.toInt ≤ 6; omega) (by show xz38.toInt ≤ xz62.toInt; omega) hP hD hS (lv_sub hl [1, 2, 3, 0] rfl)
        · skip
          have bz171 := fb_rng xz38
          have zz172 : ¬ (0 : Int) ≤ xz38.toInt := fun h9 => cz59 (zi_le.mpr h9)
          refine lv_iconst (v := (-1)) hx hb dX4_nextOrder_35 (by decide) ?_
          rw [hQ]
          exact W.iret (v := (-1 : Int32)) hx hb hr (fun t ht hW => ⟨⟨(-1 : Int32), (), rfl, (by show (-1) ≤ (-1 : Int) ∧ (-1 : Int) ≤ 6; omega), vR, aR, by rw [ht]; exact hP⟩, hS.F ht⟩) hS.2.2 dX4_nextOrder_36
      refine lv_if_lt (tgt := 31) hx hb dX4_nextOrder_5 (by decide) (fun cz173 => ?_) (fun cz173 => ?_)
      · skip
        have bz174 := fb_rng xz38
        have zz175 : xz38.toInt < (0 : Int) := zi_lt.mp cz173
        exact ct31_kz58 H locs ls   hP hD hS (lv_sub hl [0, 1, 2] rfl)
      · skip
        have bz176 := fb_rng xz38
        have zz177 : ¬ xz38.toInt < (0 : Int) := fun h9 => cz173 (zi_lt.mpr h9)
        refine lv_aload_n hx hb dX4_nextOrder_8 rfl (lv_at hl 0 rfl) ?_
        refine va_get (D := (dC, dI)) (ci := 4) (v := .ref (qR 1)) (C := RX4) (T := TX4) (N := 6) hx hb hts (fun w h => List.mem_cons_of_mem _ (List.mem_append_right _ (List.mem_append_left _ h))) hown hK hP 0 rfl rfl 0 (by decide) (hts (.fieldLink RX4 9 "SagMemory$Search" "tried" "[I") (wl_mem 0 rfl)) (fun _ h9 => h9) rfl dX4_nextOrder_9 ?_
        refine lv_iload_n hx hb dX4_nextOrder_12 rfl (lv_at hl 2 rfl) ?_
        refine va_iald hx hb hK hP 1 0 rfl rfl (vp_in_iff.mpr ⟨by omega, by omega⟩) dX4_nextOrder_13 ?_
        refine lv_topi (fun xz178 exz178 => ?_)
        refine lv_aload_n hx hb dX4_nextOrder_14 rfl (lv_at hl 0 rfl) ?_
        refine va_get (D := (dC, dI)) (ci := 4) (v := .ref (qR 1)) (C := RX4) (T := TX4) (N := 6) hx hb hts (fun w h => List.mem_cons_of_mem _ (List.mem_append_right _ (List.mem_append_left _ h))) hown hK hP 0 rfl rfl 0 (by decide) (hts (.fieldLink RX4 9 "SagMemory$Search" "tried" "[I") (wl_mem 0 rfl)) (fun _ h9 => h9) rfl dX4_nextOrder_15 ?_
        refine lv_iload_n hx hb dX4_nextOrder_18 rfl (lv_at hl 2 rfl) ?_
        refine lv_iconst (v := 1) hx hb dX4_nextOrder_19 (by decide) ?_
        refine lv_iadd hx hb dX4_nextOrder_20 ?_
        refine lv_topi (fun xz179 exz179 => ?_)
        have fxz179 : xz179.toInt = xz38.toInt + (1 : Int) := by rw [exz179]; exact fb_addI (x := xz38) (y := (1 : Int32)) (by show -2147483648 ≤ xz38.toInt + (1 : Int); omega) (by show xz38.toInt + (1 : Int) < 2147483648; omega)
        refine va_iald hx hb hK hP 1 0 rfl rfl (vp_in_iff.mpr ⟨by omega, by omega⟩) dX4_nextOrder_21 ?_
        refine lv_topi (fun xz180 exz180 => ?_)
        refine lv_icmp_le (tgt := 31) hx hb dX4_nextOrder_22 (by decide) (fun cz181 => ?_) (fun cz181 => ?_)
        · skip
          have bz182 := fb_rng xz178
          have bz183 := fb_rng xz180
          have zz184 : xz178.toInt ≤ xz180.toInt := zi_le.mp cz181
          exact ct31_kz58 H locs ls   hP hD hS (lv_sub hl [0, 1, 2] rfl)
        · skip
          have bz185 := fb_rng xz178
          have bz186 := fb_rng xz180
          have zz187 : ¬ xz178.toInt ≤ xz180.toInt := fun h9 => cz181 (zi_le.mpr h9)
          obtain ⟨xz188, exz188⟩ : ∃ y : Int32, y = xz38 + Int32.ofInt (-1) := ⟨_, rfl⟩
          have fxz188 : xz188.toInt = xz38.toInt + (-1) := by rw [exz188]; exact fb_addI (y := Int32.ofInt (-1)) (by show -2147483648 ≤ xz38.toInt + (-1); omega) (by show xz38.toInt + (-1) < 2147483648; omega)
          refine lv_iinc (v := xz188) (lv' := [(2, .int xz188), (0, .ref (qR 0)), (1, .int p1)]) hx hb dX4_nextOrder_25 hl (k := 2) rfl exz188.symm (by decide) rfl (fun ls hl => ?_)
          refine lv_goto (tgt := 4) hx hb dX4_nextOrder_28 (by decide) ?_
          exact ih4 H locs ls xz188 (by show (xz188.toInt + 2147483648).toNat < n9_4; omega) (by show xz188.toInt ≤ 5; omega) (by show xz188.toInt ≤ p1.toInt - 2; omega) hP hD hS (lv_sub hl [1, 2, 0] rfl)
  exact lp4_kz39 _ s.heap [] ls xz1 (Nat.lt_succ_self _) (by show xz1.toInt ≤ 5; omega) (by show xz1.toInt ≤ p1.toInt - 2; omega) hP hD hS (lv_sub hl [1, 2, 0] rfl)
def wk_c_X4_nextRoute : List Cond := .code yX4_nextRoute cX4_nextRoute 4 (some .int) :: ([.fieldLink RX4 9 "SagMemory$Search" "tried" "[I"] ++ (wsX40 ++ []))
theorem wkg_c_X4_nextRoute : wk_c_X4_nextRoute.all goodWord = true := by decide +kernel
set_option maxHeartbeats 4000000 in
set_option maxRecDepth 100000 in
theorem c_X4_nextRoute (l : Launch) (dC : Nat → ClassId) (dI : Nat → Nat → Nat) (k : Nat → ClassId) (sz : Nat) (qR : Nat → Nat) (vR : Nat → Int32) (aR : Nat → Nat → Int32) (p1 : Int32) (p2 : Int32) (hp0 : 0 ≤ p1.toInt ∧ p1.toInt ≤ 7) : Met l yX4_nextRoute wk_c_X4_nextRoute ({ frames := 0, cells := 0, slots := 0, locals := 0 }) (va_Pc [.ref (qR 0), .int p1, .int p2] (fun U => U.heap.size = sz ∧ va_P (dC, dI) vwCl (List.flatten [(wSearch qR k vR aR)] ++ List.flatten ([] : List va_W)) U.heap ∧ va_K (dC, dI) vwCl (tK k) U ∧ va_D (fun _ => True) (List.flatten [(wSearch qR k vR aR)] ++ List.flatten ([] : List va_W)))) (va_Qi (fun (r : Int32) (_ : Unit) => ((-1) ≤ r.toInt ∧ r.toInt ≤ 6)) (fun (_ : Unit) (t : State) => ∃ (vR' : Nat → Int32) (aR' : Nat → Nat → Int32), va_P (dC, dI) vwCl (List.flatten [(wSearch qR k vR' aR')] ++ List.flatten ([] : List va_W)) t.heap) (va_A (List.flatten [(wSearch qR k vR aR)] ++ List.flatten ([] : List va_W)) sz)) 0 0 (va_A (List.flatten [(wSearch qR k vR aR)] ++ List.flatten ([] : List va_W)) sz) := by
  refine Met.ofW (cc := cX4_nextRoute) (maxL := 4) (ret := (some .int)) (by decide) rfl ?_
  intro p e s m args below meth c s₁ B hml hv
  obtain ⟨rfl, hsz, hP, hK, hD0⟩ := hv
  have hx := B.exec
  have hb := B.bytes
  have hr := B.returns
  have hts := atoms_spec (ws := wk_c_X4_nextRoute) B.pre
  have hown : s.vm.findClass RX4 = some m.cls := findClass_of_methodNamed B.named
  have hlocks := B.notSynchronized
  subst hsz
  have hD := hD0.self (sz := s.heap.size)
  generalize hAe : va_A (List.flatten [(wSearch qR k vR aR)] ++ List.flatten ([] : List va_W)) s.heap.size = A at hD ⊢
  have hA : ∀ q : Nat, s.heap.size ≤ q → A q := fun q h => by rw [← hAe]; exact Or.inr h
  have hS : va_S A s.heap s.heap [] := va_S.rf
  have hP : va_P (dC, dI) vwCl (List.flatten [(wSearch qR k vR aR)] ++ List.flatten ([] : List va_W)) s.heap := hP
  have hl := lv_entry ([.ref (qR 0), .int p1, .int p2]) (n := 4) (Nat.le_of_ble_eq_true rfl)
  rw [lg_entry_eq]
  generalize (lg_sl ([.ref (qR 0), .int p1, .int p2]) ++ List.replicate (4 - (lg_sl ([.ref (qR 0), .int p1, .int p2])).length) Slot.unset).toArray = ls at hl ⊢
  have hl : lv_has ls 4 [(0, .ref (qR 0)), (1, .int p1), (2, .int p2)] := hl
  refine w_gen (fun Q hQ => ?_)
  refine lv_iload_n hx hb dX4_nextRoute_0 rfl (lv_at hl 1 rfl) ?_
  refine lv_iconst (v := 1) hx hb dX4_nextRoute_1 (by decide) ?_
  refine lv_isub hx hb dX4_nextRoute_2 ?_
  refine lv_topi (fun xz1 exz1 => ?_)
  have fxz1 : xz1.toInt = p1.toInt - (1 : Int) := by rw [exz1]; exact fb_subI (x := p1) (y := (1 : Int32)) (by show -2147483648 ≤ p1.toInt - (1 : Int); omega) (by show p1.toInt - (1 : Int) < 2147483648; omega)
  refine lv_istore_n (lv' := [(3, .int xz1), (0, .ref (qR 0)), (1, .int p1), (2, .int p2)]) hx hb dX4_nextRoute_3 rfl hl (by decide) rfl (fun ls hl => ?_)
  have lp4_kz40 : ∀ (n9_4 : Nat) (H : Heap) (locs : List Loc) (ls : Array Slot) (az38 : Nat → Nat → Int32) (xz39 : Int32), (xz39.toInt + 2147483648).toNat < n9_4 → xz39.toInt ≤ 6 → va_P (dC, dI) vwCl (List.flatten [(wSearch qR k vR az38)] ++ List.flatten ([] : List va_W)) H → va_D A (List.flatten [(wSearch qR k vR az38)] ++ List.flatten ([] : List va_W)) → va_S A s.heap H locs → lv_has ls 4 [(0, .ref (qR 0)), (2, .int p2), (3, .int xz39)] → W p l e (headSpec wk_c_X4_nextRoute ({ frames := 0, cells := 0, slots := 0, locals := 0 })).room s m ([.ref (qR 0), .int p1, .int p2] : List Value).toArray below meth c H locs 0 0 Q (F0 m 4 ls []) := by
    intro n9_4
    induction n9_4 with
    | zero => intro H locs ls az38 xz39 hm; exact absurd hm (Nat.not_lt_zero _)
    | succ n9_4 ih4 =>
      intro H locs ls az38 xz39 hm4 jz41 hP hD hS hl
      refine lv_iload_n hx hb dX4_nextRoute_4 rfl (lv_at hl 2 rfl) ?_
      have ct33_kz58 : ∀ (H : Heap) (locs : List Loc) (ls : Array Slot), va_P (dC, dI) vwCl (List.flatten [(wSearch qR k vR az38)] ++ List.flatten ([] : List va_W)) H → va_D A (List.flatten [(wSearch qR k vR az38)] ++ List.flatten ([] : List va_W)) → va_S A s.heap H locs → lv_has ls 4 [(0, .ref (qR 0)), (3, .int xz39)] → W p l e (headSpec wk_c_X4_nextRoute ({ frames := 0, cells := 0, slots := 0, locals := 0 })).room s m ([.ref (qR 0), .int p1, .int p2] : List Value).toArray below meth c H locs 0 0 Q (F0 m 33 ls []) := by
        intro H locs ls  hP hD hS hl
        refine lv_iload_n hx hb dX4_nextRoute_33 rfl (lv_at hl 1 rfl) ?_
        refine lv_if_ge (tgt := 39) hx hb dX4_nextRoute_34 (by decide) (fun cz59 => ?_) (fun cz59 => ?_)
        · skip
          have bz60 := fb_rng xz39
          have zz61 : (0 : Int) ≤ xz39.toInt := zi_le.mp cz59
          refine lv_aload_n hx hb dX4_nextRoute_39 rfl (lv_at hl 0 rfl) ?_
          refine va_get (D := (dC, dI)) (ci := 4) (v := .ref (qR 1)) (C := RX4) (T := TX4) (N := 6) hx hb hts (fun w h => List.mem_cons_of_mem _ (List.mem_append_right _ (List.mem_append_left _ h))) hown hK hP 0 rfl rfl 0 (by decide) (hts (.fieldLink RX4 9 "SagMemory$Search" "tried" "[I") (wl_mem 0 rfl)) (fun _ h9 => h9) rfl dX4_nextRoute_40 ?_
          refine lv_iload_n hx hb dX4_nextRoute_43 rfl (lv_at hl 1 rfl) ?_
          refine lv_dup2_11 hx hb dX4_nextRoute_44 rfl rfl ?_
          refine va_iald hx hb hK hP 1 0 rfl rfl (vp_in_iff.mpr ⟨by omega, by omega⟩) dX4_nextRoute_45 ?_
          refine lv_topi (fun xz62 exz62 => ?_)
          refine lv_iconst (v := 1) hx hb dX4_nextRoute_46 (by decide) ?_
          refine lv_iadd hx hb dX4_nextRoute_47 ?_
          refine lv_topi (fun xz63 exz63 => ?_)
          refine va_iast hx hb hK hP hD hS 1 0 rfl rfl (vp_in_iff.mpr ⟨by omega, by omega⟩) dX4_nextRoute_48 (fun H locs hP hD hS => ?_)
          obtain ⟨fz64, efz64, hP, hD⟩ : ∃ fz64 : Nat → Int32, fz64 = upd (az38 0) xz39.toNatClampNeg xz63 ∧ va_P (dC, dI) vwCl (List.flatten [(wSearch qR k vR (va_up az38 0 fz64))] ++ List.flatten ([] : List va_W)) H ∧ va_D A (List.flatten [(wSearch qR k vR (va_up az38 0 fz64))] ++ List.flatten ([] : List va_W)) := ⟨_, rfl, hP, hD⟩
          have kfz64 : fz64 xz39.toNatClampNeg = xz63 := by rw [efz64]; exact pk_us
          refine lv_iload_n hx hb dX4_nextRoute_49 rfl (lv_at hl 1 rfl) ?_
          rw [hQ]
          exact W.iret (v := xz39) hx hb hr (fun t ht hW => ⟨⟨xz39, (), rfl, (by show (-1) ≤ xz39.toInt ∧ xz39.toInt ≤ 6; omega), vR, (va_up az38 0 fz64), by rw [ht]; exact hP⟩, hS.F ht⟩) hS.2.2 dX4_nextRoute_50
        · skip
          have bz65 := fb_rng xz39
          have zz66 : ¬ (0 : Int) ≤ xz39.toInt := fun h9 => cz59 (zi_le.mpr h9)
          refine lv_iconst (v := (-1)) hx hb dX4_nextRoute_37 (by decide) ?_
          rw [hQ]
          exact W.iret (v := (-1 : Int32)) hx hb hr (fun t ht hW => ⟨⟨(-1 : Int32), (), rfl, (by show (-1) ≤ (-1 : Int) ∧ (-1 : Int) ≤ 6; omega), vR, az38, by rw [ht]; exact hP⟩, hS.F ht⟩) hS.2.2 dX4_nextRoute_38
      refine lv_if_lt (tgt := 33) hx hb dX4_nextRoute_5 (by decide) (fun cz67 => ?_) (fun cz67 => ?_)
      · skip
        have bz68 := fb_rng xz39
        have zz69 : xz39.toInt < (0 : Int) := zi_lt.mp cz67
        exact ct33_kz58 H locs ls   hP hD hS (lv_sub hl [0, 2] rfl)
      · skip
        have bz70 := fb_rng xz39
        have zz71 : ¬ xz39.toInt < (0 : Int) := fun h9 => cz67 (zi_lt.mpr h9)
        refine lv_aload_n hx hb dX4_nextRoute_8 rfl (lv_at hl 0 rfl) ?_
        refine va_get (D := (dC, dI)) (ci := 4) (v := .ref (qR 1)) (C := RX4) (T := TX4) (N := 6) hx hb hts (fun w h => List.mem_cons_of_mem _ (List.mem_append_right _ (List.mem_append_left _ h))) hown hK hP 0 rfl rfl 0 (by decide) (hts (.fieldLink RX4 9 "SagMemory$Search" "tried" "[I") (wl_mem 0 rfl)) (fun _ h9 => h9) rfl dX4_nextRoute_9 ?_
        refine lv_iload_n hx hb dX4_nextRoute_12 rfl (lv_at hl 2 rfl) ?_
        refine va_iald hx hb hK hP 1 0 rfl rfl (vp_in_iff.mpr ⟨by omega, by omega⟩) dX4_nextRoute_13 ?_
        refine lv_topi (fun xz72 exz72 => ?_)
        refine lv_iconst (v := 1) hx hb dX4_nextRoute_14 (by decide) ?_
        refine lv_iadd hx hb dX4_nextRoute_15 ?_
        refine lv_topi (fun xz73 exz73 => ?_)
        refine lv_iload_n hx hb dX4_nextRoute_16 rfl (lv_at hl 1 rfl) ?_
        refine lv_icmp_lt (tgt := 33) hx hb dX4_nextRoute_17 (by decide) (fun cz74 => ?_) (fun cz74 => ?_)
        · skip
          have bz75 := fb_rng xz73
          have bz76 := fb_rng p2
          have zz77 : xz73.toInt < p2.toInt := zi_lt.mp cz74
          exact ct33_kz58 H locs ls   hP hD hS (lv_sub hl [0, 2] rfl)
        · skip
          have bz78 := fb_rng xz73
          have bz79 := fb_rng p2
          have zz80 : ¬ xz73.toInt < p2.toInt := fun h9 => cz74 (zi_lt.mpr h9)
          refine lv_aload_n hx hb dX4_nextRoute_20 rfl (lv_at hl 0 rfl) ?_
          refine va_get (D := (dC, dI)) (ci := 4) (v := .ref (qR 1)) (C := RX4) (T := TX4) (N := 6) hx hb hts (fun w h => List.mem_cons_of_mem _ (List.mem_append_right _ (List.mem_append_left _ h))) hown hK hP 0 rfl rfl 0 (by decide) (hts (.fieldLink RX4 9 "SagMemory$Search" "tried" "[I") (wl_mem 0 rfl)) (fun _ h9 => h9) rfl dX4_nextRoute_21 ?_
          refine lv_iload_n hx hb dX4_nextRoute_24 rfl (lv_at hl 2 rfl) ?_
          refine lv_iconst (v := 0) hx hb dX4_nextRoute_25 (by decide) ?_
          refine va_iast hx hb hK hP hD hS 1 0 rfl rfl (vp_in_iff.mpr ⟨by omega, by omega⟩) dX4_nextRoute_26 (fun H locs hP hD hS => ?_)
          obtain ⟨fz81, efz81, hP, hD⟩ : ∃ fz81 : Nat → Int32, fz81 = upd (az38 0) xz39.toNatClampNeg (0 : Int32) ∧ va_P (dC, dI) vwCl (List.flatten [(wSearch qR k vR (va_up az38 0 fz81))] ++ List.flatten ([] : List va_W)) H ∧ va_D A (List.flatten [(wSearch qR k vR (va_up az38 0 fz81))] ++ List.flatten ([] : List va_W)) := ⟨_, rfl, hP, hD⟩
          have kfz81 : fz81 xz39.toNatClampNeg = (0 : Int32) := by rw [efz81]; exact pk_us
          obtain ⟨xz82, exz82⟩ : ∃ y : Int32, y = xz39 + Int32.ofInt (-1) := ⟨_, rfl⟩
          have fxz82 : xz82.toInt = xz39.toInt + (-1) := by rw [exz82]; exact fb_addI (y := Int32.ofInt (-1)) (by show -2147483648 ≤ xz39.toInt + (-1); omega) (by show xz39.toInt + (-1) < 2147483648; omega)
          refine lv_iinc (v := xz82) (lv' := [(3, .int xz82), (0, .ref (qR 0)), (2, .int p2)]) hx hb dX4_nextRoute_27 hl (k := 2) rfl exz82.symm (by decide) rfl (fun ls hl => ?_)
          refine lv_goto (tgt := 4) hx hb dX4_nextRoute_30 (by decide) ?_
          exact ih4 H locs ls (va_up az38 0 fz81) xz82 (by show (xz82.toInt + 2147483648).toNat < n9_4; omega) (by show xz82.toInt ≤ 6; omega) hP hD hS (lv_sub hl [1, 2, 0] rfl)
  exact lp4_kz40 _ s.heap [] ls aR xz1 (Nat.lt_succ_self _) (by show xz1.toInt ≤ 6; omega) hP hD hS (lv_sub hl [1, 3, 0] rfl)
def wk_c_X4_tryOrders : List Cond := .code yX4_tryOrders cX4_tryOrders 6 none :: ([.fieldLink RX4 18 "SagMemory$Story" "valley" "LSagMemory$Valley;", .fieldLink RX4 24 "SagMemory$Valley" "carts" "I", .methodLink RX4 30 yX4_begin, .instanceMethod yX4_begin, .selects RX4 yX4_begin yX4_begin, .initialized RX4, .fieldLink RX4 9 "SagMemory$Search" "tried" "[I", .methodLink RX4 33 yX8_step, .instanceMethod yX8_step, .selects RX8 yX8_step yX8_step, .initialized RX8, .methodLink RX4 37 yX8_atEnd, .instanceMethod yX8_atEnd, .selects RX8 yX8_atEnd yX8_atEnd, .methodLink RX4 41 yX4_weigh, .instanceMethod yX4_weigh, .selects RX4 yX4_weigh yX4_weigh, .methodLink RX4 45 yX4_nextOrder, .instanceMethod yX4_nextOrder, .selects RX4 yX4_nextOrder yX4_nextOrder] ++ (wsX80 ++ (wsX100 ++ (wk_c_X4_begin ++ (wsX40 ++ (wk_c_X8_step ++ (wk_c_X8_atEnd ++ (wk_c_X4_weigh ++ (wk_c_X4_nextOrder ++ [])))))))))
theorem wkg_c_X4_tryOrders : wk_c_X4_tryOrders.all goodWord = true := by decide +kernel
set_option maxHeartbeats 4000000 in
set_option maxRecDepth 100000 in
theorem c_X4_tryOrders (l : Launch) (dC : Nat → ClassId) (dI : Nat → Nat → Nat) (k : Nat → ClassId) (sz : Nat) (qR : Nat → Nat) (vR : Nat → Int32) (aR : Nat → Nat → Int32) (qY : Nat → Nat) (sY : Nat → Nat → Nat) (vY : Nat → Nat → Int32) (nY : Nat → Nat → Int32) (aY : Nat → Nat → Nat → Int32) (qV : Nat → Nat) (vV : Nat → Int32) (bV : Nat → Int32) (cV : Nat → Int32) (wV : Nat → Int32) (aV : Nat → Nat → Int32) (eV : Nat → Nat → Int32) (qP : Nat → Nat) (vP : Nat → Int32) (aP : Nat → Nat → Int32) (eP : Nat → Nat → Int32) (hnY : ∀ t9, Rg 0 8 (nY t9)) (hbV : Rg 0 3 bV) (hcV : Rg 0 7 cV) (hwV : Rg 0 5 wV) (heV : RgA 0 99 eV) (heP : RgA 0 99 eP) : Met l yX4_tryOrders wk_c_X4_tryOrders ({ frames := 3, cells := 0, slots := 0, locals := 131 }) (va_Pc [.ref (qR 0), .ref (qY 0)] (fun U => U.heap.size = sz ∧ va_P (dC, dI) vwCl (List.flatten [(wSearch qR k vR aR), (wState (sY 0) k (vY 0) (nY 0) (aY 0)), (wState (sY 1) k (vY 1) (nY 1) (aY 1)), (wState (sY 2) k (vY 2) (nY 2) (aY 2)), (wState (sY 3) k (vY 3) (nY 3) (aY 3)), (wState (sY 4) k (vY 4) (nY 4) (aY 4)), (wState (sY 5) k (vY 5) (nY 5) (aY 5)), (wState (sY 6) k (vY 6) (nY 6) (aY 6)), (wState (sY 7) k (vY 7) (nY 7) (aY 7))] ++ List.flatten [(wStoO qY k (qV 0) (qP 0) (sY 0 0) (sY 1 0) (sY 2 0) (sY 3 0) (sY 4 0) (sY 5 0) (sY 6 0) (sY 7 0)), (wValley qV k vV bV cV wV aV eV), (wPlan qP k vP aP eP)]) U.heap ∧ va_K (dC, dI) vwCl (tK k) U ∧ va_D (fun _ => True) (List.flatten [(wSearch qR k vR aR), (wState (sY 0) k (vY 0) (nY 0) (aY 0)), (wState (sY 1) k (vY 1) (nY 1) (aY 1)), (wState (sY 2) k (vY 2) (nY 2) (aY 2)), (wState (sY 3) k (vY 3) (nY 3) (aY 3)), (wState (sY 4) k (vY 4) (nY 4) (aY 4)), (wState (sY 5) k (vY 5) (nY 5) (aY 5)), (wState (sY 6) k (vY 6) (nY 6) (aY 6)), (wState (sY 7) k (vY 7) (nY 7) (aY 7))] ++ List.flatten [(wStoO qY k (qV 0) (qP 0) (sY 0 0) (sY 1 0) (sY 2 0) (sY 3 0) (sY 4 0) (sY 5 0) (sY 6 0) (sY 7 0)), (wValley qV k vV bV cV wV aV eV), (wPlan qP k vP aP eP)]))) (va_Qv (fun _ : Unit => True) (fun (_ : Unit) (t : State) => ∃ (vR' : Nat → Int32) (aR' : Nat → Nat → Int32) (vY' : Nat → Nat → Int32) (nY' : Nat → Nat → Int32) (aY' : Nat → Nat → Nat → Int32), (∀ t9, Rg 0 8 (nY' t9)) ∧ va_P (dC, dI) vwCl (List.flatten [(wSearch qR k vR' aR'), (wState (sY 0) k (vY' 0) (nY' 0) (aY' 0)), (wState (sY 1) k (vY' 1) (nY' 1) (aY' 1)), (wState (sY 2) k (vY' 2) (nY' 2) (aY' 2)), (wState (sY 3) k (vY' 3) (nY' 3) (aY' 3)), (wState (sY 4) k (vY' 4) (nY' 4) (aY' 4)), (wState (sY 5) k (vY' 5) (nY' 5) (aY' 5)), (wState (sY 6) k (vY' 6) (nY' 6) (aY' 6)), (wState (sY 7) k (vY' 7) (nY' 7) (aY' 7))] ++ List.flatten [(wStoO qY k (qV 0) (qP 0) (sY 0 0) (sY 1 0) (sY 2 0) (sY 3 0) (sY 4 0) (sY 5 0) (sY 6 0) (sY 7 0)), (wValley qV k vV bV cV wV aV eV), (wPlan qP k vP aP eP)]) t.heap) (va_A (List.flatten [(wSearch qR k vR aR), (wState (sY 0) k (vY 0) (nY 0) (aY 0)), (wState (sY 1) k (vY 1) (nY 1) (aY 1)), (wState (sY 2) k (vY 2) (nY 2) (aY 2)), (wState (sY 3) k (vY 3) (nY 3) (aY 3)), (wState (sY 4) k (vY 4) (nY 4) (aY 4)), (wState (sY 5) k (vY 5) (nY 5) (aY 5)), (wState (sY 6) k (vY 6) (nY 6) (aY 6)), (wState (sY 7) k (vY 7) (nY 7) (aY 7))] ++ List.flatten [(wStoO qY k (qV 0) (qP 0) (sY 0 0) (sY 1 0) (sY 2 0) (sY 3 0) (sY 4 0) (sY 5 0) (sY 6 0) (sY 7 0)), (wValley qV k vV bV cV wV aV eV), (wPlan qP k vP aP eP)]) sz)) 0 0 (va_A (List.flatten [(wSearch qR k vR aR), (wState (sY 0) k (vY 0) (nY 0) (aY 0)), (wState (sY 1) k (vY 1) (nY 1) (aY 1)), (wState (sY 2) k (vY 2) (nY 2) (aY 2)), (wState (sY 3) k (vY 3) (nY 3) (aY 3)), (wState (sY 4) k (vY 4) (nY 4) (aY 4)), (wState (sY 5) k (vY 5) (nY 5) (aY 5)), (wState (sY 6) k (vY 6) (nY 6) (aY 6)), (wState (sY 7) k (vY 7) (nY 7) (aY 7))] ++ List.flatten [(wStoO qY k (qV 0) (qP 0) (sY 0 0) (sY 1 0) (sY 2 0) (sY 3 0) (sY 4 0) (sY 5 0) (sY 6 0) (sY 7 0)), (wValley qV k vV bV cV wV aV eV), (wPlan qP k vP aP eP)]) sz) := by
  refine Met.ofW (cc := cX4_tryOrders) (maxL := 6) (ret := none) (by decide) rfl ?_
  intro p e s m args below meth c s₁ B hml hv
  obtain ⟨rfl, hsz, hP, hK, hD0⟩ := hv
  have hx := B.exec
  have hb := B.bytes
  have hr := B.returns
  have hts := atoms_spec (ws := wk_c_X4_tryOrders) B.pre
  have hown : s.vm.findClass RX4 = some m.cls := findClass_of_methodNamed B.named
  have hlocks := B.notSynchronized
  subst hsz
  have hD := hD0.self (sz := s.heap.size)
  generalize hAe : va_A (List.flatten [(wSearch qR k vR aR), (wState (sY 0) k (vY 0) (nY 0) (aY 0)), (wState (sY 1) k (vY 1) (nY 1) (aY 1)), (wState (sY 2) k (vY 2) (nY 2) (aY 2)), (wState (sY 3) k (vY 3) (nY 3) (aY 3)), (wState (sY 4) k (vY 4) (nY 4) (aY 4)), (wState (sY 5) k (vY 5) (nY 5) (aY 5)), (wState (sY 6) k (vY 6) (nY 6) (aY 6)), (wState (sY 7) k (vY 7) (nY 7) (aY 7))] ++ List.flatten [(wStoO qY k (qV 0) (qP 0) (sY 0 0) (sY 1 0) (sY 2 0) (sY 3 0) (sY 4 0) (sY 5 0) (sY 6 0) (sY 7 0)), (wValley qV k vV bV cV wV aV eV), (wPlan qP k vP aP eP)]) s.heap.size = A at hD ⊢
  have hA : ∀ q : Nat, s.heap.size ≤ q → A q := fun q h => by rw [← hAe]; exact Or.inr h
  have hS : va_S A s.heap s.heap [] := va_S.rf
  have hP : va_P (dC, dI) vwCl (List.flatten [(wSearch qR k vR aR), (wState (sY 0) k (vY 0) (nY 0) (aY 0)), (wState (sY 1) k (vY 1) (nY 1) (aY 1)), (wState (sY 2) k (vY 2) (nY 2) (aY 2)), (wState (sY 3) k (vY 3) (nY 3) (aY 3)), (wState (sY 4) k (vY 4) (nY 4) (aY 4)), (wState (sY 5) k (vY 5) (nY 5) (aY 5)), (wState (sY 6) k (vY 6) (nY 6) (aY 6)), (wState (sY 7) k (vY 7) (nY 7) (aY 7))] ++ List.flatten [(wStoO qY k (qV 0) (qP 0) (sY 0 0) (sY 1 0) (sY 2 0) (sY 3 0) (sY 4 0) (sY 5 0) (sY 6 0) (sY 7 0)), (wValley qV k vV bV cV wV aV eV), (wPlan qP k vP aP eP)]) s.heap := hP
  have hl := lv_entry ([.ref (qR 0), .ref (qY 0)]) (n := 6) (Nat.le_of_ble_eq_true rfl)
  rw [lg_entry_eq]
  generalize (lg_sl ([.ref (qR 0), .ref (qY 0)]) ++ List.replicate (6 - (lg_sl ([.ref (qR 0), .ref (qY 0)])).length) Slot.unset).toArray = ls at hl ⊢
  have hl : lv_has ls 6 [(0, .ref (qR 0)), (1, .ref (qY 0))] := hl
  refine w_gen (fun Q hQ => ?_)
  refine lv_aload_n hx hb dX4_tryOrders_0 rfl (lv_at hl 1 rfl) ?_
  refine va_get (D := (dC, dI)) (ci := 8) (v := .ref (qV 0)) (C := RX8) (T := TX8) (N := 4) hx hb hts (fun w h => List.mem_cons_of_mem _ (List.mem_append_right _ (List.mem_append_left _ h))) hown hK hP 91 rfl rfl 0 (by decide) (hts (.fieldLink RX4 18 "SagMemory$Story" "valley" "LSagMemory$Valley;") (wl_mem 0 rfl)) (fun _ h9 => h9) rfl dX4_tryOrders_1 ?_
  refine va_get (D := (dC, dI)) (ci := 10) (v := .int (cV 0)) (C := RX10) (T := TX10) (N := 16) hx hb hts (fun w h => List.mem_cons_of_mem _ (List.mem_append_right _ (List.mem_append_right _ (List.mem_append_left _ h)))) hown hK hP 93 rfl rfl 12 (by decide) (hts (.fieldLink RX4 24 "SagMemory$Valley" "carts" "I") (wl_mem 1 rfl)) (fun _ h9 => h9) rfl dX4_tryOrders_4 ?_
  have bz1 := hcV 0
  refine lv_istore_n (lv' := [(2, .int (cV 0)), (0, .ref (qR 0)), (1, .ref (qY 0))]) hx hb dX4_tryOrders_7 rfl hl (by decide) rfl (fun ls hl => ?_)
  refine lv_aload_n hx hb dX4_tryOrders_8 rfl (lv_at hl 1 rfl) ?_
  have hPc := hP.sub (ws' := (List.flatten [(wSearch qR k vR aR)] ++ List.flatten ([] : List va_W))) [0, 1, 2] rfl
  have hC : [0, 1, 2].map (fun i => (List.flatten [(wSearch qR k vR aR), (wState (sY 0) k (vY 0) (nY 0) (aY 0)), (wState (sY 1) k (vY 1) (nY 1) (aY 1)), (wState (sY 2) k (vY 2) (nY 2) (aY 2)), (wState (sY 3) k (vY 3) (nY 3) (aY 3)), (wState (sY 4) k (vY 4) (nY 4) (aY 4)), (wState (sY 5) k (vY 5) (nY 5) (aY 5)), (wState (sY 6) k (vY 6) (nY 6) (aY 6)), (wState (sY 7) k (vY 7) (nY 7) (aY 7))] ++ List.flatten [(wStoO qY k (qV 0) (qP 0) (sY 0 0) (sY 1 0) (sY 2 0) (sY 3 0) (sY 4 0) (sY 5 0) (sY 6 0) (sY 7 0)), (wValley qV k vV bV cV wV aV eV), (wPlan qP k vP aP eP)])[i]?) = (List.flatten [(wSearch qR k vR aR)] ++ List.flatten ([] : List va_W)).map some := rfl
  have hDc := hD.sub [0, 1, 2] (by decide) hC
  have hFc := va_free hD hS hA [0, 1, 2] hC
  refine va_callv (va_runV (As := []) (rest := []) ⟨hx, hb, hml, hown, hts⟩ (c_X4_begin l dC dI k s.heap.size qR vR aR) (cwV 0 hts (gk_V (wl_mem 2 rfl) (wl_mem 3 rfl) (wl_mem 4 rfl) (wl_mem 5 rfl) (fun w h => List.mem_cons_of_mem _ (List.mem_append_right _ (List.mem_append_right _ (List.mem_append_right _ (List.mem_append_left _ h))))) wkg_c_X4_begin) rfl rfl rfl (by decide +kernel) ⟨Nat.le_of_ble_eq_true rfl, Nat.le_of_ble_eq_true rfl⟩) ⟨fun a U g mk q => by obtain ⟨q0, q1, qP, qK, qD⟩ := q; exact ⟨q0, q1, qP, va_K.moved (u := U) (U := U.calling g mk a) (Vm.Alike.refl U.vm) qK, qD⟩, va_recv hK hPc (ci := 4) (q0 := 0) rfl rfl, fun U hU hW => ⟨rfl, by rw [hU], by rw [hU]; exact hPc, va_K.moved hW.alike hK, hDc.weaken (fun _ _ _ _ => trivial)⟩⟩ rfl rfl hl.1 rfl (lv_room (Nat.le_of_ble_eq_true rfl)) dX4_tryOrders_9 ⟨Nat.le_of_ble_eq_true rfl, Nat.le_of_ble_eq_true rfl⟩) hS (fun q _ h => hFc q h) hFc (fun u t H1 locs ht hvm gz2 hB hz1 hk1 hS => ?_)
  obtain ⟨vz4, az5, hP1⟩ := hB
  rw [ht] at hP1
  obtain ⟨hP, hD⟩ := w_callC hP hD hk1 hP1 [0] rfl rfl (fun _ h => absurd h List.not_mem_nil) rfl
  clear hPc hC hDc hFc hk1 hP1
  generalize H1 = H at hP hS ⊢
  have hP : va_P (dC, dI) vwCl (List.flatten [(wSearch qR k vz4 az5), (wState (sY 0) k (vY 0) (nY 0) (aY 0)), (wState (sY 1) k (vY 1) (nY 1) (aY 1)), (wState (sY 2) k (vY 2) (nY 2) (aY 2)), (wState (sY 3) k (vY 3) (nY 3) (aY 3)), (wState (sY 4) k (vY 4) (nY 4) (aY 4)), (wState (sY 5) k (vY 5) (nY 5) (aY 5)), (wState (sY 6) k (vY 6) (nY 6) (aY 6)), (wState (sY 7) k (vY 7) (nY 7) (aY 7))] ++ List.flatten [(wStoO qY k (qV 0) (qP 0) (sY 0 0) (sY 1 0) (sY 2 0) (sY 3 0) (sY 4 0) (sY 5 0) (sY 6 0) (sY 7 0)), (wValley qV k vV bV cV wV aV eV), (wPlan qP k vP aP eP)]) H := hP
  have hD : va_D A (List.flatten [(wSearch qR k vz4 az5), (wState (sY 0) k (vY 0) (nY 0) (aY 0)), (wState (sY 1) k (vY 1) (nY 1) (aY 1)), (wState (sY 2) k (vY 2) (nY 2) (aY 2)), (wState (sY 3) k (vY 3) (nY 3) (aY 3)), (wState (sY 4) k (vY 4) (nY 4) (aY 4)), (wState (sY 5) k (vY 5) (nY 5) (aY 5)), (wState (sY 6) k (vY 6) (nY 6) (aY 6)), (wState (sY 7) k (vY 7) (nY 7) (aY 7))] ++ List.flatten [(wStoO qY k (qV 0) (qP 0) (sY 0 0) (sY 1 0) (sY 2 0) (sY 3 0) (sY 4 0) (sY 5 0) (sY 6 0) (sY 7 0)), (wValley qV k vV bV cV wV aV eV), (wPlan qP k vP aP eP)]) := hD
  refine W.widen (k := 0) (n := 0) (Nat.le_refl 0) (Nat.le_refl 0) ?_
  refine lv_iconst (v := 0) hx hb dX4_tryOrders_12 (by decide) ?_
  refine lv_istore_n (lv' := [(3, .int 0), (2, .int (cV 0)), (0, .ref (qR 0)), (1, .ref (qY 0))]) hx hb dX4_tryOrders_13 rfl hl (by decide) rfl (fun ls hl => ?_)
  have lp14_kz21 : ∀ (n9_14 : Nat) (H : Heap) (locs : List Loc) (ls : Array Slot) (az19 : Nat → Nat → Int32) (xz20 : Int32), (2147483647 - xz20.toInt).toNat < n9_14 → 0 ≤ xz20.toInt → va_P (dC, dI) vwCl (List.flatten [(wSearch qR k vz4 az19), (wState (sY 0) k (vY 0) (nY 0) (aY 0)), (wState (sY 1) k (vY 1) (nY 1) (aY 1)), (wState (sY 2) k (vY 2) (nY 2) (aY 2)), (wState (sY 3) k (vY 3) (nY 3) (aY 3)), (wState (sY 4) k (vY 4) (nY 4) (aY 4)), (wState (sY 5) k (vY 5) (nY 5) (aY 5)), (wState (sY 6) k (vY 6) (nY 6) (aY 6)), (wState (sY 7) k (vY 7) (nY 7) (aY 7))] ++ List.flatten [(wStoO qY k (qV 0) (qP 0) (sY 0 0) (sY 1 0) (sY 2 0) (sY 3 0) (sY 4 0) (sY 5 0) (sY 6 0) (sY 7 0)), (wValley qV k vV bV cV wV aV eV), (wPlan qP k vP aP eP)]) H → va_D A (List.flatten [(wSearch qR k vz4 az19), (wState (sY 0) k (vY 0) (nY 0) (aY 0)), (wState (sY 1) k (vY 1) (nY 1) (aY 1)), (wState (sY 2) k (vY 2) (nY 2) (aY 2)), (wState (sY 3) k (vY 3) (nY 3) (aY 3)), (wState (sY 4) k (vY 4) (nY 4) (aY 4)), (wState (sY 5) k (vY 5) (nY 5) (aY 5)), (wState (sY 6) k (vY 6) (nY 6) (aY 6)), (wState (sY 7) k (vY 7) (nY 7) (aY 7))] ++ List.flatten [(wStoO qY k (qV 0) (qP 0) (sY 0 0) (sY 1 0) (sY 2 0) (sY 3 0) (sY 4 0) (sY 5 0) (sY 6 0) (sY 7 0)), (wValley qV k vV bV cV wV aV eV), (wPlan qP k vP aP eP)]) → va_S A s.heap H locs → lv_has ls 6 [(0, .ref (qR 0)), (1, .ref (qY 0)), (2, .int (cV 0)), (3, .int xz20)] → W p l e (headSpec wk_c_X4_tryOrders ({ frames := 3, cells := 0, slots := 0, locals := 131 })).room s m ([.ref (qR 0), .ref (qY 0)] : List Value).toArray below meth c H locs 0 0 Q (F0 m 14 ls []) := by
    intro n9_14
    induction n9_14 with
    | zero => intro H locs ls az19 xz20 hm; exact absurd hm (Nat.not_lt_zero _)
    | succ n9_14 ih14 =>
      intro H locs ls az19 xz20 hm14 jz22 hP hD hS hl
      refine lv_iload_n hx hb dX4_tryOrders_14 rfl (lv_at hl 3 rfl) ?_
      refine lv_iload_n hx hb dX4_tryOrders_15 rfl (lv_at hl 2 rfl) ?_
      refine lv_icmp_ge (tgt := 32) hx hb dX4_tryOrders_16 (by decide) (fun cz23 => ?_) (fun cz23 => ?_)
      · skip
        have bz24 := fb_rng xz20
        have zz25 : (cV 0).toInt ≤ xz20.toInt := zi_le.mp cz23
        refine lv_iconst (v := 0) hx hb dX4_tryOrders_32 (by decide) ?_
        refine lv_istore_n (lv' := [(3, .int 0), (0, .ref (qR 0)), (1, .ref (qY 0)), (2, .int (cV 0))]) hx hb dX4_tryOrders_33 rfl hl (by decide) rfl (fun ls hl => ?_)
        refine lv_iconst (v := 0) hx hb dX4_tryOrders_34 (by decide) ?_
        refine lv_istore (lv' := [(4, .int 0), (3, .int 0), (0, .ref (qR 0)), (1, .ref (qY 0)), (2, .int (cV 0))]) hx hb dX4_tryOrders_35 hl (by decide) rfl (fun ls hl => ?_)
        have lp37_kz168 : ∀ (n9_37 : Nat) (H : Heap) (locs : List Loc) (ls : Array Slot) (az161 : Nat → Nat → Int32) (vz162 : Nat → Int32) (az163 : Nat → Nat → Nat → Int32) (nz164 : Nat → Nat → Int32) (vz165 : Nat → Nat → Int32) (xz166 : Int32) (xz167 : Int32), (2147483647 - xz167.toInt).toNat < n9_37 → (∀ t9, Rg 0 8 (nz164 t9)) → 0 ≤ xz167.toInt → va_P (dC, dI) vwCl (List.flatten [(wSearch qR k vz162 az161), (wState (sY 0) k (vz165 0) (nz164 0) (az163 0)), (wState (sY 1) k (vz165 1) (nz164 1) (az163 1)), (wState (sY 2) k (vz165 2) (nz164 2) (az163 2)), (wState (sY 3) k (vz165 3) (nz164 3) (az163 3)), (wState (sY 4) k (vz165 4) (nz164 4) (az163 4)), (wState (sY 5) k (vz165 5) (nz164 5) (az163 5)), (wState (sY 6) k (vz165 6) (nz164 6) (az163 6)), (wState (sY 7) k (vz165 7) (nz164 7) (az163 7))] ++ List.flatten [(wStoO qY k (qV 0) (qP 0) (sY 0 0) (sY 1 0) (sY 2 0) (sY 3 0) (sY 4 0) (sY 5 0) (sY 6 0) (sY 7 0)), (wValley qV k vV bV cV wV aV eV), (wPlan qP k vP aP eP)]) H → va_D A (List.flatten [(wSearch qR k vz162 az161), (wState (sY 0) k (vz165 0) (nz164 0) (az163 0)), (wState (sY 1) k (vz165 1) (nz164 1) (az163 1)), (wState (sY 2) k (vz165 2) (nz164 2) (az163 2)), (wState (sY 3) k (vz165 3) (nz164 3) (az163 3)), (wState (sY 4) k (vz165 4) (nz164 4) (az163 4)), (wState (sY 5) k (vz165 5) (nz164 5) (az163 5)), (wState (sY 6) k (vz165 6) (nz164 6) (az163 6)), (wState (sY 7) k (vz165 7) (nz164 7) (az163 7))] ++ List.flatten [(wStoO qY k (qV 0) (qP 0) (sY 0 0) (sY 1 0) (sY 2 0) (sY 3 0) (sY 4 0) (sY 5 0) (sY 6 0) (sY 7 0)), (wValley qV k vV bV cV wV aV eV), (wPlan qP k vP aP eP)]) → va_S A s.heap H locs → lv_has ls 6 [(0, .ref (qR 0)), (1, .ref (qY 0)), (2, .int (cV 0)), (3, .int xz166), (4, .int xz167)] → W p l e (headSpec wk_c_X4_tryOrders ({ frames := 3, cells := 0, slots := 0, locals := 131 })).room s m ([.ref (qR 0), .ref (qY 0)] : List Value).toArray below meth c H locs 0 0 Q (F0 m 37 ls []) := by
          intro n9_37
          induction n9_37 with
          | zero => intro H locs ls az161 vz162 az163 nz164 vz165 xz166 xz167 hm; exact absurd hm (Nat.not_lt_zero _)
          | succ n9_37 ih37 =>
            intro H locs ls az161 vz162 az163 nz164 vz165 xz166 xz167 hm37 hnz164 jz169 hP hD hS hl
            refine lv_iload hx hb dX4_tryOrders_37 (lv_at hl 4 rfl) ?_
            refine lv_sipush (v := 5040) hx hb dX4_tryOrders_39 (by decide) ?_
            refine lv_icmp_ge (tgt := 97) hx hb dX4_tryOrders_42 (by decide) (fun cz170 => ?_) (fun cz170 => ?_)
            · skip
              have bz171 := fb_rng xz167
              have zz172 : (5040 : Int) ≤ xz167.toInt := zi_le.mp cz170
              rw [hQ]
              exact W.vret hx hb hr (fun t ht hW => ⟨⟨(), rfl, trivial, vz162, az161, vz165, nz164, az163, hnz164, by rw [ht]; exact hP⟩, hS.F ht⟩) hS.2.2 dX4_tryOrders_97
            · skip
              have bz173 := fb_rng xz167
              have zz174 : ¬ (5040 : Int) ≤ xz167.toInt := fun h9 => cz170 (zi_le.mpr h9)
              refine lv_iload_n hx hb dX4_tryOrders_45 rfl (lv_at hl 3 rfl) ?_
              refine lv_if_lt (tgt := 97) hx hb dX4_tryOrders_46 (by decide) (fun cz175 => ?_) (fun cz175 => ?_)
              · skip
                have bz176 := fb_rng xz166
                have zz177 : xz166.toInt < (0 : Int) := zi_lt.mp cz175
                rw [hQ]
                exact W.vret hx hb hr (fun t ht hW => ⟨⟨(), rfl, trivial, vz162, az161, vz165, nz164, az163, hnz164, by rw [ht]; exact hP⟩, hS.F ht⟩) hS.2.2 dX4_tryOrders_97
              · skip
                have bz178 := fb_rng xz166
                have zz179 : ¬ xz166.toInt < (0 : Int) := fun h9 => cz175 (zi_lt.mpr h9)
                refine lv_iload_n hx hb dX4_tryOrders_49 rfl (lv_at hl 3 rfl) ?_
                refine lv_istore (lv' := [(5, .int xz166), (0, .ref (qR 0)), (1, .ref (qY 0)), (2, .int (cV 0)), (3, .int xz166), (4, .int xz167)]) hx hb dX4_tryOrders_50 hl (by decide) rfl (fun ls hl => ?_)
                have lp52_kz202 : ∀ (n9_52 : Nat) (H : Heap) (locs : List Loc) (ls : Array Slot) (az198 : Nat → Nat → Nat → Int32) (nz199 : Nat → Nat → Int32) (vz200 : Nat → Nat → Int32) (xz201 : Int32), (2147483647 - xz201.toInt).toNat < n9_52 → (∀ t9, Rg 0 8 (nz199 t9)) → 0 ≤ xz201.toInt → va_P (dC, dI) vwCl (List.flatten [(wSearch qR k vz162 az161), (wState (sY 0) k (vz200 0) (nz199 0) (az198 0)), (wState (sY 1) k (vz200 1) (nz199 1) (az198 1)), (wState (sY 2) k (vz200 2) (nz199 2) (az198 2)), (wState (sY 3) k (vz200 3) (nz199 3) (az198 3)), (wState (sY 4) k (vz200 4) (nz199 4) (az198 4)), (wState (sY 5) k (vz200 5) (nz199 5) (az198 5)), (wState (sY 6) k (vz200 6) (nz199 6) (az198 6)), (wState (sY 7) k (vz200 7) (nz199 7) (az198 7))] ++ List.flatten [(wStoO qY k (qV 0) (qP 0) (sY 0 0) (sY 1 0) (sY 2 0) (sY 3 0) (sY 4 0) (sY 5 0) (sY 6 0) (sY 7 0)), (wValley qV k vV bV cV wV aV eV), (wPlan qP k vP aP eP)]) H → va_D A (List.flatten [(wSearch qR k vz162 az161), (wState (sY 0) k (vz200 0) (nz199 0) (az198 0)), (wState (sY 1) k (vz200 1) (nz199 1) (az198 1)), (wState (sY 2) k (vz200 2) (nz199 2) (az198 2)), (wState (sY 3) k (vz200 3) (nz199 3) (az198 3)), (wState (sY 4) k (vz200 4) (nz199 4) (az198 4)), (wState (sY 5) k (vz200 5) (nz199 5) (az198 5)), (wState (sY 6) k (vz200 6) (nz199 6) (az198 6)), (wState (sY 7) k (vz200 7) (nz199 7) (az198 7))] ++ List.flatten [(wStoO qY k (qV 0) (qP 0) (sY 0 0) (sY 1 0) (sY 2 0) (sY 3 0) (sY 4 0) (sY 5 0) (sY 6 0) (sY 7 0)), (wValley qV k vV bV cV wV aV eV), (wPlan qP k vP aP eP)]) → va_S A s.heap H locs → lv_has ls 6 [(0, .ref (qR 0)), (1, .ref (qY 0)), (2, .int (cV 0)), (4, .int xz167), (5, .int xz201)] → W p l e (headSpec wk_c_X4_tryOrders ({ frames := 3, cells := 0, slots := 0, locals := 131 })).room s m ([.ref (qR 0), .ref (qY 0)] : List Value).toArray below meth c H locs 0 0 Q (F0 m 52 ls []) := by
                  intro n9_52
                  induction n9_52 with
                  | zero => intro H locs ls az198 nz199 vz200 xz201 hm; exact absurd hm (Nat.not_lt_zero _)
                  | succ n9_52 ih52 =>
                    intro H locs ls az198 nz199 vz200 xz201 hm52 hnz199 jz203 hP hD hS hl
                    refine lv_iload hx hb dX4_tryOrders_52 (lv_at hl 4 rfl) ?_
                    refine lv_iload_n hx hb dX4_tryOrders_54 rfl (lv_at hl 2 rfl) ?_
                    refine lv_icmp_ge (tgt := 77) hx hb dX4_tryOrders_55 (by decide) (fun cz204 => ?_) (fun cz204 => ?_)
                    · skip
                      have bz205 := fb_rng xz201
                      have zz206 : (cV 0).toInt ≤ xz201.toInt := zi_le.mp cz204
                      refine lv_aload_n hx hb dX4_tryOrders_77 rfl (lv_at hl 0 rfl) ?_
                      refine lv_aload_n hx hb dX4_tryOrders_78 rfl (lv_at hl 1 rfl) ?_
                      have hPc : va_P (dC, dI) vwCl (List.flatten [(wStoO qY k (qV 0) (qP 0) (sY 0 0) (sY 1 0) (sY 2 0) (sY 3 0) (sY 4 0) (sY 5 0) (sY 6 0) (sY 7 0)), (wState (sY 0) k (vz200 0) (nz199 0) (az198 0)), (wState (sY 1) k (vz200 1) (nz199 1) (az198 1)), (wState (sY 2) k (vz200 2) (nz199 2) (az198 2)), (wState (sY 3) k (vz200 3) (nz199 3) (az198 3)), (wState (sY 4) k (vz200 4) (nz199 4) (az198 4)), (wState (sY 5) k (vz200 5) (nz199 5) (az198 5)), (wState (sY 6) k (vz200 6) (nz199 6) (az198 6)), (wState (sY 7) k (vz200 7) (nz199 7) (az198 7)), (wValley qV k vV bV cV wV aV eV)]) H := wc_subP1 hP [9, 1, 2, 3, 4, 5, 6, 7, 8, 10] rfl
                      refine va_csr (va_Run.run (va_runV (As := []) (rest := [.ref (qR 0)]) ⟨hx, hb, hml, hown, hts⟩ (c_X8_atEnd l dC dI k qY sY (qP 0) vz200 nz199 az198 qV vV bV cV wV aV eV hnz199 hbV hcV hwV heV) (cwV 0 hts (gk_V (wl_mem 11 rfl) (wl_mem 12 rfl) (wl_mem 13 rfl) (wl_mem 10 rfl) (fun w h => List.mem_cons_of_mem _ (List.mem_append_right _ (List.mem_append_right _ (List.mem_append_right _ (List.mem_append_right _ (List.mem_append_right _ (List.mem_append_right _ (List.mem_append_left _ h)))))))) wkg_c_X8_atEnd) rfl rfl rfl (by decide +kernel) ⟨Nat.le_of_ble_eq_true rfl, Nat.le_of_ble_eq_true rfl⟩) ⟨fun a U g mk q => by obtain ⟨q0, qP, qK⟩ := q; exact ⟨q0, qP, va_K.moved (u := U) (U := U.calling g mk a) (Vm.Alike.refl U.vm) qK⟩, va_recv hK hPc (ci := 8) (q0 := 0) rfl rfl, fun U hU hW => ⟨rfl, by rw [hU]; exact hPc, va_K.moved hW.alike hK⟩⟩ rfl rfl hl.1 rfl (lv_room (Nat.le_of_ble_eq_true rfl)) dX4_tryOrders_79 ⟨Nat.le_of_ble_eq_true rfl, Nat.le_of_ble_eq_true rfl⟩)) (fun rz208 gz207 => ?_)
                      clear hPc
                      rcases gz207 with rfl | rfl | rfl | rfl | rfl | rfl | rfl | rfl
                      · skip
                        refine W.eq (g2 := F0 m 82 ls [.ref (sY 0 0), .ref (qR 0)]) rfl ?_
                        have hPc := hP.sub (ws' := (List.flatten [(wSearch qR k vz162 az161)] ++ List.flatten [(wState (sY 0) k (vz200 0) (nz199 0) (az198 0))])) [0, 1, 2, 3, 4, 5, 6, 7, 8, 9, 10, 11, 12, 13] rfl
                        have hC : [0, 1, 2, 3, 4, 5, 6, 7, 8, 9, 10, 11, 12, 13].map (fun i => (List.flatten [(wSearch qR k vz162 az161), (wState (sY 0) k (vz200 0) (nz199 0) (az198 0)), (wState (sY 1) k (vz200 1) (nz199 1) (az198 1)), (wState (sY 2) k (vz200 2) (nz199 2) (az198 2)), (wState (sY 3) k (vz200 3) (nz199 3) (az198 3)), (wState (sY 4) k (vz200 4) (nz199 4) (az198 4)), (wState (sY 5) k (vz200 5) (nz199 5) (az198 5)), (wState (sY 6) k (vz200 6) (nz199 6) (az198 6)), (wState (sY 7) k (vz200 7) (nz199 7) (az198 7))] ++ List.flatten [(wStoO qY k (qV 0) (qP 0) (sY 0 0) (sY 1 0) (sY 2 0) (sY 3 0) (sY 4 0) (sY 5 0) (sY 6 0) (sY 7 0)), (wValley qV k vV bV cV wV aV eV), (wPlan qP k vP aP eP)])[i]?) = (List.flatten [(wSearch qR k vz162 az161)] ++ List.flatten [(wState (sY 0) k (vz200 0) (nz199 0) (az198 0))]).map some := rfl
                        have hDc := hD.sub [0, 1, 2, 3, 4, 5, 6, 7, 8, 9, 10, 11, 12, 13] (by decide) hC
                        have hFc := va_free hD hS hA [0, 1, 2, 3, 4, 5, 6, 7, 8, 9, 10, 11, 12, 13] hC
                        refine va_callv (va_runV (As := [.ref (sY 0 0)]) (rest := []) ⟨hx, hb, hml, hown, hts⟩ (c_X4_weigh l dC dI k H.size qR vz162 az161 (sY 0) (vz200 0) (nz199 0) (az198 0) (hnz199 0)) (cwV 1 hts (gk_V (wl_mem 14 rfl) (wl_mem 15 rfl) (wl_mem 16 rfl) (wl_mem 5 rfl) (fun w h => List.mem_cons_of_mem _ (List.mem_append_right _ (List.mem_append_right _ (List.mem_append_right _ (List.mem_append_right _ (List.mem_append_right _ (List.mem_append_right _ (List.mem_append_right _ (List.mem_append_left _ h))))))))) wkg_c_X4_weigh) rfl rfl rfl (by decide +kernel) ⟨Nat.le_of_ble_eq_true rfl, Nat.le_of_ble_eq_true rfl⟩) ⟨fun a U g mk q => by obtain ⟨q0, q1, qP, qK, qD⟩ := q; exact ⟨q0, q1, qP, va_K.moved (u := U) (U := U.calling g mk a) (Vm.Alike.refl U.vm) qK, qD⟩, va_recv hK hPc (ci := 4) (q0 := 0) rfl rfl, fun U hU hW => ⟨rfl, by rw [hU], by rw [hU]; exact hPc, va_K.moved hW.alike hK, hDc.weaken (fun _ _ _ _ => trivial)⟩⟩ rfl rfl hl.1 rfl (lv_room (Nat.le_of_ble_eq_true rfl)) dX4_tryOrders_82 ⟨Nat.le_of_ble_eq_true rfl, Nat.le_of_ble_eq_true rfl⟩) hS (fun q _ h => hFc q h) hFc (fun u t H1 locs ht hvm gz209 hB hz1 hk1 hS => ?_)
                        obtain ⟨vz211, az212, hP1⟩ := hB
                        rw [ht] at hP1
                        obtain ⟨hP, hD⟩ := w_callC hP hD hk1 hP1 [0] rfl rfl (wk_memC [1] rfl) rfl
                        clear hPc hC hDc hFc hk1 hP1
                        generalize H1 = H at hP hS ⊢
                        have hP : va_P (dC, dI) vwCl (List.flatten [(wSearch qR k vz211 az212), (wState (sY 0) k (vz200 0) (nz199 0) (az198 0)), (wState (sY 1) k (vz200 1) (nz199 1) (az198 1)), (wState (sY 2) k (vz200 2) (nz199 2) (az198 2)), (wState (sY 3) k (vz200 3) (nz199 3) (az198 3)), (wState (sY 4) k (vz200 4) (nz199 4) (az198 4)), (wState (sY 5) k (vz200 5) (nz199 5) (az198 5)), (wState (sY 6) k (vz200 6) (nz199 6) (az198 6)), (wState (sY 7) k (vz200 7) (nz199 7) (az198 7))] ++ List.flatten [(wStoO qY k (qV 0) (qP 0) (sY 0 0) (sY 1 0) (sY 2 0) (sY 3 0) (sY 4 0) (sY 5 0) (sY 6 0) (sY 7 0)), (wValley qV k vV bV cV wV aV eV), (wPlan qP k vP aP eP)]) H := hP
                        have hD : va_D A (List.flatten [(wSearch qR k vz211 az212), (wState (sY 0) k (vz200 0) (nz199 0) (az198 0)), (wState (sY 1) k (vz200 1) (nz199 1) (az198 1)), (wState (sY 2) k (vz200 2) (nz199 2) (az198 2)), (wState (sY 3) k (vz200 3) (nz199 3) (az198 3)), (wState (sY 4) k (vz200 4) (nz199 4) (az198 4)), (wState (sY 5) k (vz200 5) (nz199 5) (az198 5)), (wState (sY 6) k (vz200 6) (nz199 6) (az198 6)), (wState (sY 7) k (vz200 7) (nz199 7) (az198 7))] ++ List.flatten [(wStoO qY k (qV 0) (qP 0) (sY 0 0) (sY 1 0) (sY 2 0) (sY 3 0) (sY 4 0) (sY 5 0) (sY 6 0) (sY 7 0)), (wValley qV k vV bV cV wV aV eV), (wPlan qP k vP aP eP)]) := hD
                        refine W.widen (k := 0) (n := 0) (Nat.le_refl 0) (Nat.le_refl 0) ?_
                        refine lv_aload_n hx hb dX4_tryOrders_85 rfl (lv_at hl 0 rfl) ?_
                        refine lv_iload_n hx hb dX4_tryOrders_86 rfl (lv_at hl 2 rfl) ?_
                        have hPc := hP.sub (ws' := (List.flatten [(wSearch qR k vz211 az212)] ++ List.flatten ([] : List va_W))) [0, 1, 2] rfl
                        have hC : [0, 1, 2].map (fun i => (List.flatten [(wSearch qR k vz211 az212), (wState (sY 0) k (vz200 0) (nz199 0) (az198 0)), (wState (sY 1) k (vz200 1) (nz199 1) (az198 1)), (wState (sY 2) k (vz200 2) (nz199 2) (az198 2)), (wState (sY 3) k (vz200 3) (nz199 3) (az198 3)), (wState (sY 4) k (vz200 4) (nz199 4) (az198 4)), (wState (sY 5) k (vz200 5) (nz199 5) (az198 5)), (wState (sY 6) k (vz200 6) (nz199 6) (az198 6)), (wState (sY 7) k (vz200 7) (nz199 7) (az198 7))] ++ List.flatten [(wStoO qY k (qV 0) (qP 0) (sY 0 0) (sY 1 0) (sY 2 0) (sY 3 0) (sY 4 0) (sY 5 0) (sY 6 0) (sY 7 0)), (wValley qV k vV bV cV wV aV eV), (wPlan qP k vP aP eP)])[i]?) = (List.flatten [(wSearch qR k vz211 az212)] ++ List.flatten ([] : List va_W)).map some := rfl
                        have hDc := hD.sub [0, 1, 2] (by decide) hC
                        have hFc := va_free hD hS hA [0, 1, 2] hC
                        refine va_calli (va_runV (As := [.int (cV 0)]) (rest := []) ⟨hx, hb, hml, hown, hts⟩ (c_X4_nextOrder l dC dI k H.size qR vz211 az212 (cV 0) (by show 0 ≤ (cV 0).toInt ∧ (cV 0).toInt ≤ 7; omega)) (cwV 1 hts (gk_V (wl_mem 17 rfl) (wl_mem 18 rfl) (wl_mem 19 rfl) (wl_mem 5 rfl) (fun w h => List.mem_cons_of_mem _ (List.mem_append_right _ (List.mem_append_right _ (List.mem_append_right _ (List.mem_append_right _ (List.mem_append_right _ (List.mem_append_right _ (List.mem_append_right _ (List.mem_append_right _ (List.mem_append_left _ h)))))))))) wkg_c_X4_nextOrder) rfl rfl rfl (by decide +kernel) ⟨Nat.le_of_ble_eq_true rfl, Nat.le_of_ble_eq_true rfl⟩) ⟨fun a U g mk q => by obtain ⟨q0, q1, qP, qK, qD⟩ := q; exact ⟨q0, q1, qP, va_K.moved (u := U) (U := U.calling g mk a) (Vm.Alike.refl U.vm) qK, qD⟩, va_recv hK hPc (ci := 4) (q0 := 0) rfl rfl, fun U hU hW => ⟨rfl, by rw [hU], by rw [hU]; exact hPc, va_K.moved hW.alike hK, hDc.weaken (fun _ _ _ _ => trivial)⟩⟩ rfl rfl hl.1 rfl (lv_room (Nat.le_of_ble_eq_true rfl)) dX4_tryOrders_87 ⟨Nat.le_of_ble_eq_true rfl, Nat.le_of_ble_eq_true rfl⟩) hS (fun q _ h => hFc q h) hFc (fun rz214 u t H1 locs ht hvm gz213 hB hz1 hk1 hS => ?_)
                        obtain ⟨vz215, az216, hP1⟩ := hB
                        rw [ht] at hP1
                        obtain ⟨hP, hD⟩ := w_callC hP hD hk1 hP1 [0] rfl rfl (fun _ h => absurd h List.not_mem_nil) rfl
                        clear hPc hC hDc hFc hk1 hP1
                        generalize H1 = H at hP hS ⊢
                        have hP : va_P (dC, dI) vwCl (List.flatten [(wSearch qR k vz215 az216), (wState (sY 0) k (vz200 0) (nz199 0) (az198 0)), (wState (sY 1) k (vz200 1) (nz199 1) (az198 1)), (wState (sY 2) k (vz200 2) (nz199 2) (az198 2)), (wState (sY 3) k (vz200 3) (nz199 3) (az198 3)), (wState (sY 4) k (vz200 4) (nz199 4) (az198 4)), (wState (sY 5) k (vz200 5) (nz199 5) (az198 5)), (wState (sY 6) k (vz200 6) (nz199 6) (az198 6)), (wState (sY 7) k (vz200 7) (nz199 7) (az198 7))] ++ List.flatten [(wStoO qY k (qV 0) (qP 0) (sY 0 0) (sY 1 0) (sY 2 0) (sY 3 0) (sY 4 0) (sY 5 0) (sY 6 0) (sY 7 0)), (wValley qV k vV bV cV wV aV eV), (wPlan qP k vP aP eP)]) H := hP
                        have hD : va_D A (List.flatten [(wSearch qR k vz215 az216), (wState (sY 0) k (vz200 0) (nz199 0) (az198 0)), (wState (sY 1) k (vz200 1) (nz199 1) (az198 1)), (wState (sY 2) k (vz200 2) (nz199 2) (az198 2)), (wState (sY 3) k (vz200 3) (nz199 3) (az198 3)), (wState (sY 4) k (vz200 4) (nz199 4) (az198 4)), (wState (sY 5) k (vz200 5) (nz199 5) (az198 5)), (wState (sY 6) k (vz200 6) (nz199 6) (az198 6)), (wState (sY 7) k (vz200 7) (nz199 7) (az198 7))] ++ List.flatten [(wStoO qY k (qV 0) (qP 0) (sY 0 0) (sY 1 0) (sY 2 0) (sY 3 0) (sY 4 0) (sY 5 0) (sY 6 0) (sY 7 0)), (wValley qV k vV bV cV wV aV eV), (wPlan qP k vP aP eP)]) := hD
                        refine W.widen (k := 0) (n := 0) (Nat.le_refl 0) (Nat.le_refl 0) ?_
                        have pz217 := gz213
                        have pz217 : (-1) ≤ rz214.toInt ∧ rz214.toInt ≤ 6 := pz217
                        refine lv_istore_n (lv' := [(3, .int rz214), (0, .ref (qR 0)), (1, .ref (qY 0)), (2, .int (cV 0)), (4, .int xz167), (5, .int xz201)]) hx hb dX4_tryOrders_90 rfl hl (by decide) rfl (fun ls hl => ?_)
                        obtain ⟨xz218, exz218⟩ : ∃ y : Int32, y = xz167 + Int32.ofInt (1) := ⟨_, rfl⟩
                        have fxz218 : xz218.toInt = xz167.toInt + (1) := by rw [exz218]; exact fb_addI (y := Int32.ofInt (1)) (by show -2147483648 ≤ xz167.toInt + (1); omega) (by show xz167.toInt + (1) < 2147483648; omega)
                        refine lv_iinc (v := xz218) (lv' := [(4, .int xz218), (3, .int rz214), (0, .ref (qR 0)), (1, .ref (qY 0)), (2, .int (cV 0)), (5, .int xz201)]) hx hb dX4_tryOrders_91 hl (k := 4) rfl exz218.symm (by decide) rfl (fun ls hl => ?_)
                        refine lv_goto (tgt := 37) hx hb dX4_tryOrders_94 (by decide) ?_
                        exact ih37 H locs ls az216 vz215 az198 nz199 vz200 rz214 xz218 (by show (2147483647 - xz218.toInt).toNat < n9_37; omega) hnz199 (by show 0 ≤ xz218.toInt; omega) hP hD hS (lv_sub hl [2, 3, 4, 1, 0] rfl)
                      · skip
                        refine W.eq (g2 := F0 m 82 ls [.ref (sY 1 0), .ref (qR 0)]) rfl ?_
                        have hPc := hP.sub (ws' := (List.flatten [(wSearch qR k vz162 az161)] ++ List.flatten [(wState (sY 1) k (vz200 1) (nz199 1) (az198 1))])) [0, 1, 2, 14, 15, 16, 17, 18, 19, 20, 21, 22, 23, 24] rfl
                        have hC : [0, 1, 2, 14, 15, 16, 17, 18, 19, 20, 21, 22, 23, 24].map (fun i => (List.flatten [(wSearch qR k vz162 az161), (wState (sY 0) k (vz200 0) (nz199 0) (az198 0)), (wState (sY 1) k (vz200 1) (nz199 1) (az198 1)), (wState (sY 2) k (vz200 2) (nz199 2) (az198 2)), (wState (sY 3) k (vz200 3) (nz199 3) (az198 3)), (wState (sY 4) k (vz200 4) (nz199 4) (az198 4)), (wState (sY 5) k (vz200 5) (nz199 5) (az198 5)), (wState (sY 6) k (vz200 6) (nz199 6) (az198 6)), (wState (sY 7) k (vz200 7) (nz199 7) (az198 7))] ++ List.flatten [(wStoO qY k (qV 0) (qP 0) (sY 0 0) (sY 1 0) (sY 2 0) (sY 3 0) (sY 4 0) (sY 5 0) (sY 6 0) (sY 7 0)), (wValley qV k vV bV cV wV aV eV), (wPlan qP k vP aP eP)])[i]?) = (List.flatten [(wSearch qR k vz162 az161)] ++ List.flatten [(wState (sY 1) k (vz200 1) (nz199 1) (az198 1))]).map some := rfl
                        have hDc := hD.sub [0, 1, 2, 14, 15, 16, 17, 18, 19, 20, 21, 22, 23, 24] (by decide) hC
                        have hFc := va_free hD hS hA [0, 1, 2, 14, 15, 16, 17, 18, 19, 20, 21, 22, 23, 24] hC
                        refine va_callv (va_runV (As := [.ref (sY 1 0)]) (rest := []) ⟨hx, hb, hml, hown, hts⟩ (c_X4_weigh l dC dI k H.size qR vz162 az161 (sY 1) (vz200 1) (nz199 1) (az198 1) (hnz199 1)) (cwV 1 hts (gk_V (wl_mem 14 rfl) (wl_mem 15 rfl) (wl_mem 16 rfl) (wl_mem 5 rfl) (fun w h => List.mem_cons_of_mem _ (List.mem_append_right _ (List.mem_append_right _ (List.mem_append_right _ (List.mem_append_right _ (List.mem_append_right _ (List.mem_append_right _ (List.mem_append_right _ (List.mem_append_left _ h))))))))) wkg_c_X4_weigh) rfl rfl rfl (by decide +kernel) ⟨Nat.le_of_ble_eq_true rfl, Nat.le_of_ble_eq_true rfl⟩) ⟨fun a U g mk q => by obtain ⟨q0, q1, qP, qK, qD⟩ := q; exact ⟨q0, q1, qP, va_K.moved (u := U) (U := U.calling g mk a) (Vm.Alike.refl U.vm) qK, qD⟩, va_recv hK hPc (ci := 4) (q0 := 0) rfl rfl, fun U hU hW => ⟨rfl, by rw [hU], by rw [hU]; exact hPc, va_K.moved hW.alike hK, hDc.weaken (fun _ _ _ _ => trivial)⟩⟩ rfl rfl hl.1 rfl (lv_room (Nat.le_of_ble_eq_true rfl)) dX4_tryOrders_82 ⟨Nat.le_of_ble_eq_true rfl, Nat.le_of_ble_eq_true rfl⟩) hS (fun q _ h => hFc q h) hFc (fun u t H1 locs ht hvm gz219 hB hz1 hk1 hS => ?_)
                        obtain ⟨vz221, az222, hP1⟩ := hB
                        rw [ht] at hP1
                        obtain ⟨hP, hD⟩ := w_callC hP hD hk1 hP1 [0] rfl rfl (wk_memC [2] rfl) rfl
                        clear hPc hC hDc hFc hk1 hP1
                        generalize H1 = H at hP hS ⊢
                        have hP : va_P (dC, dI) vwCl (List.flatten [(wSearch qR k vz221 az222), (wState (sY 0) k (vz200 0) (nz199 0) (az198 0)), (wState (sY 1) k (vz200 1) (nz199 1) (az198 1)), (wState (sY 2) k (vz200 2) (nz199 2) (az198 2)), (wState (sY 3) k (vz200 3) (nz199 3) (az198 3)), (wState (sY 4) k (vz200 4) (nz199 4) (az198 4)), (wState (sY 5) k (vz200 5) (nz199 5) (az198 5)), (wState (sY 6) k (vz200 6) (nz199 6) (az198 6)), (wState (sY 7) k (vz200 7) (nz199 7) (az198 7))] ++ List.flatten [(wStoO qY k (qV 0) (qP 0) (sY 0 0) (sY 1 0) (sY 2 0) (sY 3 0) (sY 4 0) (sY 5 0) (sY 6 0) (sY 7 0)), (wValley qV k vV bV cV wV aV eV), (wPlan qP k vP aP eP)]) H := hP
                        have hD : va_D A (List.flatten [(wSearch qR k vz221 az222), (wState (sY 0) k (vz200 0) (nz199 0) (az198 0)), (wState (sY 1) k (vz200 1) (nz199 1) (az198 1)), (wState (sY 2) k (vz200 2) (nz199 2) (az198 2)), (wState (sY 3) k (vz200 3) (nz199 3) (az198 3)), (wState (sY 4) k (vz200 4) (nz199 4) (az198 4)), (wState (sY 5) k (vz200 5) (nz199 5) (az198 5)), (wState (sY 6) k (vz200 6) (nz199 6) (az198 6)), (wState (sY 7) k (vz200 7) (nz199 7) (az198 7))] ++ List.flatten [(wStoO qY k (qV 0) (qP 0) (sY 0 0) (sY 1 0) (sY 2 0) (sY 3 0) (sY 4 0) (sY 5 0) (sY 6 0) (sY 7 0)), (wValley qV k vV bV cV wV aV eV), (wPlan qP k vP aP eP)]) := hD
                        refine W.widen (k := 0) (n := 0) (Nat.le_refl 0) (Nat.le_refl 0) ?_
                        refine lv_aload_n hx hb dX4_tryOrders_85 rfl (lv_at hl 0 rfl) ?_
                        refine lv_iload_n hx hb dX4_tryOrders_86 rfl (lv_at hl 2 rfl) ?_
                        have hPc := hP.sub (ws' := (List.flatten [(wSearch qR k vz221 az222)] ++ List.flatten ([] : List va_W))) [0, 1, 2] rfl
                        have hC : [0, 1, 2].map (fun i => (List.flatten [(wSearch qR k vz221 az222), (wState (sY 0) k (vz200 0) (nz199 0) (az198 0)), (wState (sY 1) k (vz200 1) (nz199 1) (az198 1)), (wState (sY 2) k (vz200 2) (nz199 2) (az198 2)), (wState (sY 3) k (vz200 3) (nz199 3) (az198 3)), (wState (sY 4) k (vz200 4) (nz199 4) (az198 4)), (wState (sY 5) k (vz200 5) (nz199 5) (az198 5)), (wState (sY 6) k (vz200 6) (nz199 6) (az198 6)), (wState (sY 7) k (vz200 7) (nz199 7) (az198 7))] ++ List.flatten [(wStoO qY k (qV 0) (qP 0) (sY 0 0) (sY 1 0) (sY 2 0) (sY 3 0) (sY 4 0) (sY 5 0) (sY 6 0) (sY 7 0)), (wValley qV k vV bV cV wV aV eV), (wPlan qP k vP aP eP)])[i]?) = (List.flatten [(wSearch qR k vz221 az222)] ++ List.flatten ([] : List va_W)).map some := rfl
                        have hDc := hD.sub [0, 1, 2] (by decide) hC
                        have hFc := va_free hD hS hA [0, 1, 2] hC
                        refine va_calli (va_runV (As := [.int (cV 0)]) (rest := []) ⟨hx, hb, hml, hown, hts⟩ (c_X4_nextOrder l dC dI k H.size qR vz221 az222 (cV 0) (by show 0 ≤ (cV 0).toInt ∧ (cV 0).toInt ≤ 7; omega)) (cwV 1 hts (gk_V (wl_mem 17 rfl) (wl_mem 18 rfl) (wl_mem 19 rfl) (wl_mem 5 rfl) (fun w h => List.mem_cons_of_mem _ (List.mem_append_right _ (List.mem_append_right _ (List.mem_append_right _ (List.mem_append_right _ (List.mem_append_right _ (List.mem_append_right _ (List.mem_append_right _ (List.mem_append_right _ (List.mem_append_left _ h)))))))))) wkg_c_X4_nextOrder) rfl rfl rfl (by decide +kernel) ⟨Nat.le_of_ble_eq_true rfl, Nat.le_of_ble_eq_true rfl⟩) ⟨fun a U g mk q => by obtain ⟨q0, q1, qP, qK, qD⟩ := q; exact ⟨q0, q1, qP, va_K.moved (u := U) (U := U.calling g mk a) (Vm.Alike.refl U.vm) qK, qD⟩, va_recv hK hPc (ci := 4) (q0 := 0) rfl rfl, fun U hU hW => ⟨rfl, by rw [hU], by rw [hU]; exact hPc, va_K.moved hW.alike hK, hDc.weaken (fun _ _ _ _ => trivial)⟩⟩ rfl rfl hl.1 rfl (lv_room (Nat.le_of_ble_eq_true rfl)) dX4_tryOrders_87 ⟨Nat.le_of_ble_eq_true rfl, Nat.le_of_ble_eq_true rfl⟩) hS (fun q _ h => hFc q h) hFc (fun rz224 u t H1 locs ht hvm gz223 hB hz1 hk1 hS => ?_)
                        obtain ⟨vz225, az226, hP1⟩ := hB
                        rw [ht] at hP1
                        obtain ⟨hP, hD⟩ := w_callC hP hD hk1 hP1 [0] rfl rfl (fun _ h => absurd h List.not_mem_nil) rfl
                        clear hPc hC hDc hFc hk1 hP1
                        generalize H1 = H at hP hS ⊢
                        have hP : va_P (dC, dI) vwCl (List.flatten [(wSearch qR k vz225 az226), (wState (sY 0) k (vz200 0) (nz199 0) (az198 0)), (wState (sY 1) k (vz200 1) (nz199 1) (az198 1)), (wState (sY 2) k (vz200 2) (nz199 2) (az198 2)), (wState (sY 3) k (vz200 3) (nz199 3) (az198 3)), (wState (sY 4) k (vz200 4) (nz199 4) (az198 4)), (wState (sY 5) k (vz200 5) (nz199 5) (az198 5)), (wState (sY 6) k (vz200 6) (nz199 6) (az198 6)), (wState (sY 7) k (vz200 7) (nz199 7) (az198 7))] ++ List.flatten [(wStoO qY k (qV 0) (qP 0) (sY 0 0) (sY 1 0) (sY 2 0) (sY 3 0) (sY 4 0) (sY 5 0) (sY 6 0) (sY 7 0)), (wValley qV k vV bV cV wV aV eV), (wPlan qP k vP aP eP)]) H := hP
                        have hD : va_D A (List.flatten [(wSearch qR k vz225 az226), (wState (sY 0) k (vz200 0) (nz199 0) (az198 0)), (wState (sY 1) k (vz200 1) (nz199 1) (az198 1)), (wState (sY 2) k (vz200 2) (nz199 2) (az198 2)), (wState (sY 3) k (vz200 3) (nz199 3) (az198 3)), (wState (sY 4) k (vz200 4) (nz199 4) (az198 4)), (wState (sY 5) k (vz200 5) (nz199 5) (az198 5)), (wState (sY 6) k (vz200 6) (nz199 6) (az198 6)), (wState (sY 7) k (vz200 7) (nz199 7) (az198 7))] ++ List.flatten [(wStoO qY k (qV 0) (qP 0) (sY 0 0) (sY 1 0) (sY 2 0) (sY 3 0) (sY 4 0) (sY 5 0) (sY 6 0) (sY 7 0)), (wValley qV k vV bV cV wV aV eV), (wPlan qP k vP aP eP)]) := hD
                        refine W.widen (k := 0) (n := 0) (Nat.le_refl 0) (Nat.le_refl 0) ?_
                        have pz227 := gz223
                        have pz227 : (-1) ≤ rz224.toInt ∧ rz224.toInt ≤ 6 := pz227
                        refine lv_istore_n (lv' := [(3, .int rz224), (0, .ref (qR 0)), (1, .ref (qY 0)), (2, .int (cV 0)), (4, .int xz167), (5, .int xz201)]) hx hb dX4_tryOrders_90 rfl hl (by decide) rfl (fun ls hl => ?_)
                        obtain ⟨xz228, exz228⟩ : ∃ y : Int32, y = xz167 + Int32.ofInt (1) := ⟨_, rfl⟩
                        have fxz228 : xz228.toInt = xz167.toInt + (1) := by rw [exz228]; exact fb_addI (y := Int32.ofInt (1)) (by show -2147483648 ≤ xz167.toInt + (1); omega) (by show xz167.toInt + (1) < 2147483648; omega)
                        refine lv_iinc (v := xz228) (lv' := [(4, .int xz228), (3, .int rz224), (0, .ref (qR 0)), (1, .ref (qY 0)), (2, .int (cV 0)), (5, .int xz201)]) hx hb dX4_tryOrders_91 hl (k := 4) rfl exz228.symm (by decide) rfl (fun ls hl => ?_)
                        refine lv_goto (tgt := 37) hx hb dX4_tryOrders_94 (by decide) ?_
                        exact ih37 H locs ls az226 vz225 az198 nz199 vz200 rz224 xz228 (by show (2147483647 - xz228.toInt).toNat < n9_37; omega) hnz199 (by show 0 ≤ xz228.toInt; omega) hP hD hS (lv_sub hl [2, 3, 4, 1, 0] rfl)
                      · skip
                        refine W.eq (g2 := F0 m 82 ls [.ref (sY 2 0), .ref (qR 0)]) rfl ?_
                        have hPc := hP.sub (ws' := (List.flatten [(wSearch qR k vz162 az161)] ++ List.flatten [(wState (sY 2) k (vz200 2) (nz199 2) (az198 2))])) [0, 1, 2, 25, 26, 27, 28, 29, 30, 31, 32, 33, 34, 35] rfl
                        have hC : [0, 1, 2, 25, 26, 27, 28, 29, 30, 31, 32, 33, 34, 35].map (fun i => (List.flatten [(wSearch qR k vz162 az161), (wState (sY 0) k (vz200 0) (nz199 0) (az198 0)), (wState (sY 1) k (vz200 1) (nz199 1) (az198 1)), (wState (sY 2) k (vz200 2) (nz199 2) (az198 2)), (wState (sY 3) k (vz200 3) (nz199 3) (az198 3)), (wState (sY 4) k (vz200 4) (nz199 4) (az198 4)), (wState (sY 5) k (vz200 5) (nz199 5) (az198 5)), (wState (sY 6) k (vz200 6) (nz199 6) (az198 6)), (wState (sY 7) k (vz200 7) (nz199 7) (az198 7))] ++ List.flatten [(wStoO qY k (qV 0) (qP 0) (sY 0 0) (sY 1 0) (sY 2 0) (sY 3 0) (sY 4 0) (sY 5 0) (sY 6 0) (sY 7 0)), (wValley qV k vV bV cV wV aV eV), (wPlan qP k vP aP eP)])[i]?) = (List.flatten [(wSearch qR k vz162 az161)] ++ List.flatten [(wState (sY 2) k (vz200 2) (nz199 2) (az198 2))]).map some := rfl
                        have hDc := hD.sub [0, 1, 2, 25, 26, 27, 28, 29, 30, 31, 32, 33, 34, 35] (by decide) hC
                        have hFc := va_free hD hS hA [0, 1, 2, 25, 26, 27, 28, 29, 30, 31, 32, 33, 34, 35] hC
                        refine va_callv (va_runV (As := [.ref (sY 2 0)]) (rest := []) ⟨hx, hb, hml, hown, hts⟩ (c_X4_weigh l dC dI k H.size qR vz162 az161 (sY 2) (vz200 2) (nz199 2) (az198 2) (hnz199 2)) (cwV 1 hts (gk_V (wl_mem 14 rfl) (wl_mem 15 rfl) (wl_mem 16 rfl) (wl_mem 5 rfl) (fun w h => List.mem_cons_of_mem _ (List.mem_append_right _ (List.mem_append_right _ (List.mem_append_right _ (List.mem_append_right _ (List.mem_append_right _ (List.mem_append_right _ (List.mem_append_right _ (List.mem_append_left _ h))))))))) wkg_c_X4_weigh) rfl rfl rfl (by decide +kernel) ⟨Nat.le_of_ble_eq_true rfl, Nat.le_of_ble_eq_true rfl⟩) ⟨fun a U g mk q => by obtain ⟨q0, q1, qP, qK, qD⟩ := q; exact ⟨q0, q1, qP, va_K.moved (u := U) (U := U.calling g mk a) (Vm.Alike.refl U.vm) qK, qD⟩, va_recv hK hPc (ci := 4) (q0 := 0) rfl rfl, fun U hU hW => ⟨rfl, by rw [hU], by rw [hU]; exact hPc, va_K.moved hW.alike hK, hDc.weaken (fun _ _ _ _ => trivial)⟩⟩ rfl rfl hl.1 rfl (lv_room (Nat.le_of_ble_eq_true rfl)) dX4_tryOrders_82 ⟨Nat.le_of_ble_eq_true rfl, Nat.le_of_ble_eq_true rfl⟩) hS (fun q _ h => hFc q h) hFc (fun u t H1 locs ht hvm gz229 hB hz1 hk1 hS => ?_)
                        obtain ⟨vz231, az232, hP1⟩ := hB
                        rw [ht] at hP1
                        obtain ⟨hP, hD⟩ := w_callC hP hD hk1 hP1 [0] rfl rfl (wk_memC [3] rfl) rfl
                        clear hPc hC hDc hFc hk1 hP1
                        generalize H1 = H at hP hS ⊢
                        have hP : va_P (dC, dI) vwCl (List.flatten [(wSearch qR k vz231 az232), (wState (sY 0) k (vz200 0) (nz199 0) (az198 0)), (wState (sY 1) k (vz200 1) (nz199 1) (az198 1)), (wState (sY 2) k (vz200 2) (nz199 2) (az198 2)), (wState (sY 3) k (vz200 3) (nz199 3) (az198 3)), (wState (sY 4) k (vz200 4) (nz199 4) (az198 4)), (wState (sY 5) k (vz200 5) (nz199 5) (az198 5)), (wState (sY 6) k (vz200 6) (nz199 6) (az198 6)), (wState (sY 7) k (vz200 7) (nz199 7) (az198 7))] ++ List.flatten [(wStoO qY k (qV 0) (qP 0) (sY 0 0) (sY 1 0) (sY 2 0) (sY 3 0) (sY 4 0) (sY 5 0) (sY 6 0) (sY 7 0)), (wValley qV k vV bV cV wV aV eV), (wPlan qP k vP aP eP)]) H := hP
                        have hD : va_D A (List.flatten [(wSearch qR k vz231 az232), (wState (sY 0) k (vz200 0) (nz199 0) (az198 0)), (wState (sY 1) k (vz200 1) (nz199 1) (az198 1)), (wState (sY 2) k (vz200 2) (nz199 2) (az198 2)), (wState (sY 3) k (vz200 3) (nz199 3) (az198 3)), (wState (sY 4) k (vz200 4) (nz199 4) (az198 4)), (wState (sY 5) k (vz200 5) (nz199 5) (az198 5)), (wState (sY 6) k (vz200 6) (nz199 6) (az198 6)), (wState (sY 7) k (vz200 7) (nz199 7) (az198 7))] ++ List.flatten [(wStoO qY k (qV 0) (qP 0) (sY 0 0) (sY 1 0) (sY 2 0) (sY 3 0) (sY 4 0) (sY 5 0) (sY 6 0) (sY 7 0)), (wValley qV k vV bV cV wV aV eV), (wPlan qP k vP aP eP)]) := hD
                        refine W.widen (k := 0) (n := 0) (Nat.le_refl 0) (Nat.le_refl 0) ?_
                        refine lv_aload_n hx hb dX4_tryOrders_85 rfl (lv_at hl 0 rfl) ?_
                        refine lv_iload_n hx hb dX4_tryOrders_86 rfl (lv_at hl 2 rfl) ?_
                        have hPc := hP.sub (ws' := (List.flatten [(wSearch qR k vz231 az232)] ++ List.flatten ([] : List va_W))) [0, 1, 2] rfl
                        have hC : [0, 1, 2].map (fun i => (List.flatten [(wSearch qR k vz231 az232), (wState (sY 0) k (vz200 0) (nz199 0) (az198 0)), (wState (sY 1) k (vz200 1) (nz199 1) (az198 1)), (wState (sY 2) k (vz200 2) (nz199 2) (az198 2)), (wState (sY 3) k (vz200 3) (nz199 3) (az198 3)), (wState (sY 4) k (vz200 4) (nz199 4) (az198 4)), (wState (sY 5) k (vz200 5) (nz199 5) (az198 5)), (wState (sY 6) k (vz200 6) (nz199 6) (az198 6)), (wState (sY 7) k (vz200 7) (nz199 7) (az198 7))] ++ List.flatten [(wStoO qY k (qV 0) (qP 0) (sY 0 0) (sY 1 0) (sY 2 0) (sY 3 0) (sY 4 0) (sY 5 0) (sY 6 0) (sY 7 0)), (wValley qV k vV bV cV wV aV eV), (wPlan qP k vP aP eP)])[i]?) = (List.flatten [(wSearch qR k vz231 az232)] ++ List.flatten ([] : List va_W)).map some := rfl
                        have hDc := hD.sub [0, 1, 2] (by decide) hC
                        have hFc := va_free hD hS hA [0, 1, 2] hC
                        refine va_calli (va_runV (As := [.int (cV 0)]) (rest := []) ⟨hx, hb, hml, hown, hts⟩ (c_X4_nextOrder l dC dI k H.size qR vz231 az232 (cV 0) (by show 0 ≤ (cV 0).toInt ∧ (cV 0).toInt ≤ 7; omega)) (cwV 1 hts (gk_V (wl_mem 17 rfl) (wl_mem 18 rfl) (wl_mem 19 rfl) (wl_mem 5 rfl) (fun w h => List.mem_cons_of_mem _ (List.mem_append_right _ (List.mem_append_right _ (List.mem_append_right _ (List.mem_append_right _ (List.mem_append_right _ (List.mem_append_right _ (List.mem_append_right _ (List.mem_append_right _ (List.mem_append_left _ h)))))))))) wkg_c_X4_nextOrder) rfl rfl rfl (by decide +kernel) ⟨Nat.le_of_ble_eq_true rfl, Nat.le_of_ble_eq_true rfl⟩) ⟨fun a U g mk q => by obtain ⟨q0, q1, qP, qK, qD⟩ := q; exact ⟨q0, q1, qP, va_K.moved (u := U) (U := U.calling g mk a) (Vm.Alike.refl U.vm) qK, qD⟩, va_recv hK hPc (ci := 4) (q0 := 0) rfl rfl, fun U hU hW => ⟨rfl, by rw [hU], by rw [hU]; exact hPc, va_K.moved hW.alike hK, hDc.weaken (fun _ _ _ _ => trivial)⟩⟩ rfl rfl hl.1 rfl (lv_room (Nat.le_of_ble_eq_true rfl)) dX4_tryOrders_87 ⟨Nat.le_of_ble_eq_true rfl, Nat.le_of_ble_eq_true rfl⟩) hS (fun q _ h => hFc q h) hFc (fun rz234 u t H1 locs ht hvm gz233 hB hz1 hk1 hS => ?_)
                        obtain ⟨vz235, az236, hP1⟩ := hB
                        rw [ht] at hP1
                        obtain ⟨hP, hD⟩ := w_callC hP hD hk1 hP1 [0] rfl rfl (fun _ h => absurd h List.not_mem_nil) rfl
                        clear hPc hC hDc hFc hk1 hP1
                        generalize H1 = H at hP hS ⊢
                        have hP : va_P (dC, dI) vwCl (List.flatten [(wSearch qR k vz235 az236), (wState (sY 0) k (vz200 0) (nz199 0) (az198 0)), (wState (sY 1) k (vz200 1) (nz199 1) (az198 1)), (wState (sY 2) k (vz200 2) (nz199 2) (az198 2)), (wState (sY 3) k (vz200 3) (nz199 3) (az198 3)), (wState (sY 4) k (vz200 4) (nz199 4) (az198 4)), (wState (sY 5) k (vz200 5) (nz199 5) (az198 5)), (wState (sY 6) k (vz200 6) (nz199 6) (az198 6)), (wState (sY 7) k (vz200 7) (nz199 7) (az198 7))] ++ List.flatten [(wStoO qY k (qV 0) (qP 0) (sY 0 0) (sY 1 0) (sY 2 0) (sY 3 0) (sY 4 0) (sY 5 0) (sY 6 0) (sY 7 0)), (wValley qV k vV bV cV wV aV eV), (wPlan qP k vP aP eP)]) H := hP
                        have hD : va_D A (List.flatten [(wSearch qR k vz235 az236), (wState (sY 0) k (vz200 0) (nz199 0) (az198 0)), (wState (sY 1) k (vz200 1) (nz199 1) (az198 1)), (wState (sY 2) k (vz200 2) (nz199 2) (az198 2)), (wState (sY 3) k (vz200 3) (nz199 3) (az198 3)), (wState (sY 4) k (vz200 4) (nz199 4) (az198 4)), (wState (sY 5) k (vz200 5) (nz199 5) (az198 5)), (wState (sY 6) k (vz200 6) (nz199 6) (az198 6)), (wState (sY 7) k (vz200 7) (nz199 7) (az198 7))] ++ List.flatten [(wStoO qY k (qV 0) (qP 0) (sY 0 0) (sY 1 0) (sY 2 0) (sY 3 0) (sY 4 0) (sY 5 0) (sY 6 0) (sY 7 0)), (wValley qV k vV bV cV wV aV eV), (wPlan qP k vP aP eP)]) := hD
                        refine W.widen (k := 0) (n := 0) (Nat.le_refl 0) (Nat.le_refl 0) ?_
                        have pz237 := gz233
                        have pz237 : (-1) ≤ rz234.toInt ∧ rz234.toInt ≤ 6 := pz237
                        refine lv_istore_n (lv' := [(3, .int rz234), (0, .ref (qR 0)), (1, .ref (qY 0)), (2, .int (cV 0)), (4, .int xz167), (5, .int xz201)]) hx hb dX4_tryOrders_90 rfl hl (by decide) rfl (fun ls hl => ?_)
                        obtain ⟨xz238, exz238⟩ : ∃ y : Int32, y = xz167 + Int32.ofInt (1) := ⟨_, rfl⟩
                        have fxz238 : xz238.toInt = xz167.toInt + (1) := by rw [exz238]; exact fb_addI (y := Int32.ofInt (1)) (by show -2147483648 ≤ xz167.toInt + (1); omega) (by show xz167.toInt + (1) < 2147483648; omega)
                        refine lv_iinc (v := xz238) (lv' := [(4, .int xz238), (3, .int rz234), (0, .ref (qR 0)), (1, .ref (qY 0)), (2, .int (cV 0)), (5, .int xz201)]) hx hb dX4_tryOrders_91 hl (k := 4) rfl exz238.symm (by decide) rfl (fun ls hl => ?_)
                        refine lv_goto (tgt := 37) hx hb dX4_tryOrders_94 (by decide) ?_
                        exact ih37 H locs ls az236 vz235 az198 nz199 vz200 rz234 xz238 (by show (2147483647 - xz238.toInt).toNat < n9_37; omega) hnz199 (by show 0 ≤ xz238.toInt; omega) hP hD hS (lv_sub hl [2, 3, 4, 1, 0] rfl)
                      · skip
                        refine W.eq (g2 := F0 m 82 ls [.ref (sY 3 0), .ref (qR 0)]) rfl ?_
                        have hPc := hP.sub (ws' := (List.flatten [(wSearch qR k vz162 az161)] ++ List.flatten [(wState (sY 3) k (vz200 3) (nz199 3) (az198 3))])) [0, 1, 2, 36, 37, 38, 39, 40, 41, 42, 43, 44, 45, 46] rfl
                        have hC : [0, 1, 2, 36, 37, 38, 39, 40, 41, 42, 43, 44, 45, 46].map (fun i => (List.flatten [(wSearch qR k vz162 az161), (wState (sY 0) k (vz200 0) (nz199 0) (az198 0)), (wState (sY 1) k (vz200 1) (nz199 1) (az198 1)), (wState (sY 2) k (vz200 2) (nz199 2) (az198 2)), (wState (sY 3) k (vz200 3) (nz199 3) (az198 3)), (wState (sY 4) k (vz200 4) (nz199 4) (az198 4)), (wState (sY 5) k (vz200 5) (nz199 5) (az198 5)), (wState (sY 6) k (vz200 6) (nz199 6) (az198 6)), (wState (sY 7) k (vz200 7) (nz199 7) (az198 7))] ++ List.flatten [(wStoO qY k (qV 0) (qP 0) (sY 0 0) (sY 1 0) (sY 2 0) (sY 3 0) (sY 4 0) (sY 5 0) (sY 6 0) (sY 7 0)), (wValley qV k vV bV cV wV aV eV), (wPlan qP k vP aP eP)])[i]?) = (List.flatten [(wSearch qR k vz162 az161)] ++ List.flatten [(wState (sY 3) k (vz200 3) (nz199 3) (az198 3))]).map some := rfl
                        have hDc := hD.sub [0, 1, 2, 36, 37, 38, 39, 40, 41, 42, 43, 44, 45, 46] (by decide) hC
                        have hFc := va_free hD hS hA [0, 1, 2, 36, 37, 38, 39, 40, 41, 42, 43, 44, 45, 46] hC
                        refine va_callv (va_runV (As := [.ref (sY 3 0)]) (rest := []) ⟨hx, hb, hml, hown, hts⟩ (c_X4_weigh l dC dI k H.size qR vz162 az161 (sY 3) (vz200 3) (nz199 3) (az198 3) (hnz199 3)) (cwV 1 hts (gk_V (wl_mem 14 rfl) (wl_mem 15 rfl) (wl_mem 16 rfl) (wl_mem 5 rfl) (fun w h => List.mem_cons_of_mem _ (List.mem_append_right _ (List.mem_append_right _ (List.mem_append_right _ (List.mem_append_right _ (List.mem_append_right _ (List.mem_append_right _ (List.mem_append_right _ (List.mem_append_left _ h))))))))) wkg_c_X4_weigh) rfl rfl rfl (by decide +kernel) ⟨Nat.le_of_ble_eq_true rfl, Nat.le_of_ble_eq_true rfl⟩) ⟨fun a U g mk q => by obtain ⟨q0, q1, qP, qK, qD⟩ := q; exact ⟨q0, q1, qP, va_K.moved (u := U) (U := U.calling g mk a) (Vm.Alike.refl U.vm) qK, qD⟩, va_recv hK hPc (ci := 4) (q0 := 0) rfl rfl, fun U hU hW => ⟨rfl, by rw [hU], by rw [hU]; exact hPc, va_K.moved hW.alike hK, hDc.weaken (fun _ _ _ _ => trivial)⟩⟩ rfl rfl hl.1 rfl (lv_room (Nat.le_of_ble_eq_true rfl)) dX4_tryOrders_82 ⟨Nat.le_of_ble_eq_true rfl, Nat.le_of_ble_eq_true rfl⟩) hS (fun q _ h => hFc q h) hFc (fun u t H1 locs ht hvm gz239 hB hz1 hk1 hS => ?_)
                        obtain ⟨vz241, az242, hP1⟩ := hB
                        rw [ht] at hP1
                        obtain ⟨hP, hD⟩ := w_callC hP hD hk1 hP1 [0] rfl rfl (wk_memC [4] rfl) rfl
                        clear hPc hC hDc hFc hk1 hP1
                        generalize H1 = H at hP hS ⊢
                        have hP : va_P (dC, dI) vwCl (List.flatten [(wSearch qR k vz241 az242), (wState (sY 0) k (vz200 0) (nz199 0) (az198 0)), (wState (sY 1) k (vz200 1) (nz199 1) (az198 1)), (wState (sY 2) k (vz200 2) (nz199 2) (az198 2)), (wState (sY 3) k (vz200 3) (nz199 3) (az198 3)), (wState (sY 4) k (vz200 4) (nz199 4) (az198 4)), (wState (sY 5) k (vz200 5) (nz199 5) (az198 5)), (wState (sY 6) k (vz200 6) (nz199 6) (az198 6)), (wState (sY 7) k (vz200 7) (nz199 7) (az198 7))] ++ List.flatten [(wStoO qY k (qV 0) (qP 0) (sY 0 0) (sY 1 0) (sY 2 0) (sY 3 0) (sY 4 0) (sY 5 0) (sY 6 0) (sY 7 0)), (wValley qV k vV bV cV wV aV eV), (wPlan qP k vP aP eP)]) H := hP
                        have hD : va_D A (List.flatten [(wSearch qR k vz241 az242), (wState (sY 0) k (vz200 0) (nz199 0) (az198 0)), (wState (sY 1) k (vz200 1) (nz199 1) (az198 1)), (wState (sY 2) k (vz200 2) (nz199 2) (az198 2)), (wState (sY 3) k (vz200 3) (nz199 3) (az198 3)), (wState (sY 4) k (vz200 4) (nz199 4) (az198 4)), (wState (sY 5) k (vz200 5) (nz199 5) (az198 5)), (wState (sY 6) k (vz200 6) (nz199 6) (az198 6)), (wState (sY 7) k (vz200 7) (nz199 7) (az198 7))] ++ List.flatten [(wStoO qY k (qV 0) (qP 0) (sY 0 0) (sY 1 0) (sY 2 0) (sY 3 0) (sY 4 0) (sY 5 0) (sY 6 0) (sY 7 0)), (wValley qV k vV bV cV wV aV eV), (wPlan qP k vP aP eP)]) := hD
                        refine W.widen (k := 0) (n := 0) (Nat.le_refl 0) (Nat.le_refl 0) ?_
                        refine lv_aload_n hx hb dX4_tryOrders_85 rfl (lv_at hl 0 rfl) ?_
                        refine lv_iload_n hx hb dX4_tryOrders_86 rfl (lv_at hl 2 rfl) ?_
                        have hPc := hP.sub (ws' := (List.flatten [(wSearch qR k vz241 az242)] ++ List.flatten ([] : List va_W))) [0, 1, 2] rfl
                        have hC : [0, 1, 2].map (fun i => (List.flatten [(wSearch qR k vz241 az242), (wState (sY 0) k (vz200 0) (nz199 0) (az198 0)), (wState (sY 1) k (vz200 1) (nz199 1) (az198 1)), (wState (sY 2) k (vz200 2) (nz199 2) (az198 2)), (wState (sY 3) k (vz200 3) (nz199 3) (az198 3)), (wState (sY 4) k (vz200 4) (nz199 4) (az198 4)), (wState (sY 5) k (vz200 5) (nz199 5) (az198 5)), (wState (sY 6) k (vz200 6) (nz199 6) (az198 6)), (wState (sY 7) k (vz200 7) (nz199 7) (az198 7))] ++ List.flatten [(wStoO qY k (qV 0) (qP 0) (sY 0 0) (sY 1 0) (sY 2 0) (sY 3 0) (sY 4 0) (sY 5 0) (sY 6 0) (sY 7 0)), (wValley qV k vV bV cV wV aV eV), (wPlan qP k vP aP eP)])[i]?) = (List.flatten [(wSearch qR k vz241 az242)] ++ List.flatten ([] : List va_W)).map some := rfl
                        have hDc := hD.sub [0, 1, 2] (by decide) hC
                        have hFc := va_free hD hS hA [0, 1, 2] hC
                        refine va_calli (va_runV (As := [.int (cV 0)]) (rest := []) ⟨hx, hb, hml, hown, hts⟩ (c_X4_nextOrder l dC dI k H.size qR vz241 az242 (cV 0) (by show 0 ≤ (cV 0).toInt ∧ (cV 0).toInt ≤ 7; omega)) (cwV 1 hts (gk_V (wl_mem 17 rfl) (wl_mem 18 rfl) (wl_mem 19 rfl) (wl_mem 5 rfl) (fun w h => List.mem_cons_of_mem _ (List.mem_append_right _ (List.mem_append_right _ (List.mem_append_right _ (List.mem_append_right _ (List.mem_append_right _ (List.mem_append_right _ (List.mem_append_right _ (List.mem_append_right _ (List.mem_append_left _ h)))))))))) wkg_c_X4_nextOrder) rfl rfl rfl (by decide +kernel) ⟨Nat.le_of_ble_eq_true rfl, Nat.le_of_ble_eq_true rfl⟩) ⟨fun a U g mk q => by obtain ⟨q0, q1, qP, qK, qD⟩ := q; exact ⟨q0, q1, qP, va_K.moved (u := U) (U := U.calling g mk a) (Vm.Alike.refl U.vm) qK, qD⟩, va_recv hK hPc (ci := 4) (q0 := 0) rfl rfl, fun U hU hW => ⟨rfl, by rw [hU], by rw [hU]; exact hPc, va_K.moved hW.alike hK, hDc.weaken (fun _ _ _ _ => trivial)⟩⟩ rfl rfl hl.1 rfl (lv_room (Nat.le_of_ble_eq_true rfl)) dX4_tryOrders_87 ⟨Nat.le_of_ble_eq_true rfl, Nat.le_of_ble_eq_true rfl⟩) hS (fun q _ h => hFc q h) hFc (fun rz244 u t H1 locs ht hvm gz243 hB hz1 hk1 hS => ?_)
                        obtain ⟨vz245, az246, hP1⟩ := hB
                        rw [ht] at hP1
                        obtain ⟨hP, hD⟩ := w_callC hP hD hk1 hP1 [0] rfl rfl (fun _ h => absurd h List.not_mem_nil) rfl
                        clear hPc hC hDc hFc hk1 hP1
                        generalize H1 = H at hP hS ⊢
                        have hP : va_P (dC, dI) vwCl (List.flatten [(wSearch qR k vz245 az246), (wState (sY 0) k (vz200 0) (nz199 0) (az198 0)), (wState (sY 1) k (vz200 1) (nz199 1) (az198 1)), (wState (sY 2) k (vz200 2) (nz199 2) (az198 2)), (wState (sY 3) k (vz200 3) (nz199 3) (az198 3)), (wState (sY 4) k (vz200 4) (nz199 4) (az198 4)), (wState (sY 5) k (vz200 5) (nz199 5) (az198 5)), (wState (sY 6) k (vz200 6) (nz199 6) (az198 6)), (wState (sY 7) k (vz200 7) (nz199 7) (az198 7))] ++ List.flatten [(wStoO qY k (qV 0) (qP 0) (sY 0 0) (sY 1 0) (sY 2 0) (sY 3 0) (sY 4 0) (sY 5 0) (sY 6 0) (sY 7 0)), (wValley qV k vV bV cV wV aV eV), (wPlan qP k vP aP eP)]) H := hP
                        have hD : va_D A (List.flatten [(wSearch qR k vz245 az246), (wState (sY 0) k (vz200 0) (nz199 0) (az198 0)), (wState (sY 1) k (vz200 1) (nz199 1) (az198 1)), (wState (sY 2) k (vz200 2) (nz199 2) (az198 2)), (wState (sY 3) k (vz200 3) (nz199 3) (az198 3)), (wState (sY 4) k (vz200 4) (nz199 4) (az198 4)), (wState (sY 5) k (vz200 5) (nz199 5) (az198 5)), (wState (sY 6) k (vz200 6) (nz199 6) (az198 6)), (wState (sY 7) k (vz200 7) (nz199 7) (az198 7))] ++ List.flatten [(wStoO qY k (qV 0) (qP 0) (sY 0 0) (sY 1 0) (sY 2 0) (sY 3 0) (sY 4 0) (sY 5 0) (sY 6 0) (sY 7 0)), (wValley qV k vV bV cV wV aV eV), (wPlan qP k vP aP eP)]) := hD
                        refine W.widen (k := 0) (n := 0) (Nat.le_refl 0) (Nat.le_refl 0) ?_
                        have pz247 := gz243
                        have pz247 : (-1) ≤ rz244.toInt ∧ rz244.toInt ≤ 6 := pz247
                        refine lv_istore_n (lv' := [(3, .int rz244), (0, .ref (qR 0)), (1, .ref (qY 0)), (2, .int (cV 0)), (4, .int xz167), (5, .int xz201)]) hx hb dX4_tryOrders_90 rfl hl (by decide) rfl (fun ls hl => ?_)
                        obtain ⟨xz248, exz248⟩ : ∃ y : Int32, y = xz167 + Int32.ofInt (1) := ⟨_, rfl⟩
                        have fxz248 : xz248.toInt = xz167.toInt + (1) := by rw [exz248]; exact fb_addI (y := Int32.ofInt (1)) (by show -2147483648 ≤ xz167.toInt + (1); omega) (by show xz167.toInt + (1) < 2147483648; omega)
                        refine lv_iinc (v := xz248) (lv' := [(4, .int xz248), (3, .int rz244), (0, .ref (qR 0)), (1, .ref (qY 0)), (2, .int (cV 0)), (5, .int xz201)]) hx hb dX4_tryOrders_91 hl (k := 4) rfl exz248.symm (by decide) rfl (fun ls hl => ?_)
                        refine lv_goto (tgt := 37) hx hb dX4_tryOrders_94 (by decide) ?_
                        exact ih37 H locs ls az246 vz245 az198 nz199 vz200 rz244 xz248 (by show (2147483647 - xz248.toInt).toNat < n9_37; omega) hnz199 (by show 0 ≤ xz248.toInt; omega) hP hD hS (lv_sub hl [2, 3, 4, 1, 0] rfl)
                      · skip
                        refine W.eq (g2 := F0 m 82 ls [.ref (sY 4 0), .ref (qR 0)]) rfl ?_
                        have hPc := hP.sub (ws' := (List.flatten [(wSearch qR k vz162 az161)] ++ List.flatten [(wState (sY 4) k (vz200 4) (nz199 4) (az198 4))])) [0, 1, 2, 47, 48, 49, 50, 51, 52, 53, 54, 55, 56, 57] rfl
                        have hC : [0, 1, 2, 47, 48, 49, 50, 51, 52, 53, 54, 55, 56, 57].map (fun i => (List.flatten [(wSearch qR k vz162 az161), (wState (sY 0) k (vz200 0) (nz199 0) (az198 0)), (wState (sY 1) k (vz200 1) (nz199 1) (az198 1)), (wState (sY 2) k (vz200 2) (nz199 2) (az198 2)), (wState (sY 3) k (vz200 3) (nz199 3) (az198 3)), (wState (sY 4) k (vz200 4) (nz199 4) (az198 4)), (wState (sY 5) k (vz200 5) (nz199 5) (az198 5)), (wState (sY 6) k (vz200 6) (nz199 6) (az198 6)), (wState (sY 7) k (vz200 7) (nz199 7) (az198 7))] ++ List.flatten [(wStoO qY k (qV 0) (qP 0) (sY 0 0) (sY 1 0) (sY 2 0) (sY 3 0) (sY 4 0) (sY 5 0) (sY 6 0) (sY 7 0)), (wValley qV k vV bV cV wV aV eV), (wPlan qP k vP aP eP)])[i]?) = (List.flatten [(wSearch qR k vz162 az161)] ++ List.flatten [(wState (sY 4) k (vz200 4) (nz199 4) (az198 4))]).map some := rfl
                        have hDc := hD.sub [0, 1, 2, 47, 48, 49, 50, 51, 52, 53, 54, 55, 56, 57] (by decide) hC
                        have hFc := va_free hD hS hA [0, 1, 2, 47, 48, 49, 50, 51, 52, 53, 54, 55, 56, 57] hC
                        refine va_callv (va_runV (As := [.ref (sY 4 0)]) (rest := []) ⟨hx, hb, hml, hown, hts⟩ (c_X4_weigh l dC dI k H.size qR vz162 az161 (sY 4) (vz200 4) (nz199 4) (az198 4) (hnz199 4)) (cwV 1 hts (gk_V (wl_mem 14 rfl) (wl_mem 15 rfl) (wl_mem 16 rfl) (wl_mem 5 rfl) (fun w h => List.mem_cons_of_mem _ (List.mem_append_right _ (List.mem_append_right _ (List.mem_append_right _ (List.mem_append_right _ (List.mem_append_right _ (List.mem_append_right _ (List.mem_append_right _ (List.mem_append_left _ h))))))))) wkg_c_X4_weigh) rfl rfl rfl (by decide +kernel) ⟨Nat.le_of_ble_eq_true rfl, Nat.le_of_ble_eq_true rfl⟩) ⟨fun a U g mk q => by obtain ⟨q0, q1, qP, qK, qD⟩ := q; exact ⟨q0, q1, qP, va_K.moved (u := U) (U := U.calling g mk a) (Vm.Alike.refl U.vm) qK, qD⟩, va_recv hK hPc (ci := 4) (q0 := 0) rfl rfl, fun U hU hW => ⟨rfl, by rw [hU], by rw [hU]; exact hPc, va_K.moved hW.alike hK, hDc.weaken (fun _ _ _ _ => trivial)⟩⟩ rfl rfl hl.1 rfl (lv_room (Nat.le_of_ble_eq_true rfl)) dX4_tryOrders_82 ⟨Nat.le_of_ble_eq_true rfl, Nat.le_of_ble_eq_true rfl⟩) hS (fun q _ h => hFc q h) hFc (fun u t H1 locs ht hvm gz249 hB hz1 hk1 hS => ?_)
                        obtain ⟨vz251, az252, hP1⟩ := hB
                        rw [ht] at hP1
                        obtain ⟨hP, hD⟩ := w_callC hP hD hk1 hP1 [0] rfl rfl (wk_memC [5] rfl) rfl
                        clear hPc hC hDc hFc hk1 hP1
                        generalize H1 = H at hP hS ⊢
                        have hP : va_P (dC, dI) vwCl (List.flatten [(wSearch qR k vz251 az252), (wState (sY 0) k (vz200 0) (nz199 0) (az198 0)), (wState (sY 1) k (vz200 1) (nz199 1) (az198 1)), (wState (sY 2) k (vz200 2) (nz199 2) (az198 2)), (wState (sY 3) k (vz200 3) (nz199 3) (az198 3)), (wState (sY 4) k (vz200 4) (nz199 4) (az198 4)), (wState (sY 5) k (vz200 5) (nz199 5) (az198 5)), (wState (sY 6) k (vz200 6) (nz199 6) (az198 6)), (wState (sY 7) k (vz200 7) (nz199 7) (az198 7))] ++ List.flatten [(wStoO qY k (qV 0) (qP 0) (sY 0 0) (sY 1 0) (sY 2 0) (sY 3 0) (sY 4 0) (sY 5 0) (sY 6 0) (sY 7 0)), (wValley qV k vV bV cV wV aV eV), (wPlan qP k vP aP eP)]) H := hP
                        have hD : va_D A (List.flatten [(wSearch qR k vz251 az252), (wState (sY 0) k (vz200 0) (nz199 0) (az198 0)), (wState (sY 1) k (vz200 1) (nz199 1) (az198 1)), (wState (sY 2) k (vz200 2) (nz199 2) (az198 2)), (wState (sY 3) k (vz200 3) (nz199 3) (az198 3)), (wState (sY 4) k (vz200 4) (nz199 4) (az198 4)), (wState (sY 5) k (vz200 5) (nz199 5) (az198 5)), (wState (sY 6) k (vz200 6) (nz199 6) (az198 6)), (wState (sY 7) k (vz200 7) (nz199 7) (az198 7))] ++ List.flatten [(wStoO qY k (qV 0) (qP 0) (sY 0 0) (sY 1 0) (sY 2 0) (sY 3 0) (sY 4 0) (sY 5 0) (sY 6 0) (sY 7 0)), (wValley qV k vV bV cV wV aV eV), (wPlan qP k vP aP eP)]) := hD
                        refine W.widen (k := 0) (n := 0) (Nat.le_refl 0) (Nat.le_refl 0) ?_
                        refine lv_aload_n hx hb dX4_tryOrders_85 rfl (lv_at hl 0 rfl) ?_
                        refine lv_iload_n hx hb dX4_tryOrders_86 rfl (lv_at hl 2 rfl) ?_
                        have hPc := hP.sub (ws' := (List.flatten [(wSearch qR k vz251 az252)] ++ List.flatten ([] : List va_W))) [0, 1, 2] rfl
                        have hC : [0, 1, 2].map (fun i => (List.flatten [(wSearch qR k vz251 az252), (wState (sY 0) k (vz200 0) (nz199 0) (az198 0)), (wState (sY 1) k (vz200 1) (nz199 1) (az198 1)), (wState (sY 2) k (vz200 2) (nz199 2) (az198 2)), (wState (sY 3) k (vz200 3) (nz199 3) (az198 3)), (wState (sY 4) k (vz200 4) (nz199 4) (az198 4)), (wState (sY 5) k (vz200 5) (nz199 5) (az198 5)), (wState (sY 6) k (vz200 6) (nz199 6) (az198 6)), (wState (sY 7) k (vz200 7) (nz199 7) (az198 7))] ++ List.flatten [(wStoO qY k (qV 0) (qP 0) (sY 0 0) (sY 1 0) (sY 2 0) (sY 3 0) (sY 4 0) (sY 5 0) (sY 6 0) (sY 7 0)), (wValley qV k vV bV cV wV aV eV), (wPlan qP k vP aP eP)])[i]?) = (List.flatten [(wSearch qR k vz251 az252)] ++ List.flatten ([] : List va_W)).map some := rfl
                        have hDc := hD.sub [0, 1, 2] (by decide) hC
                        have hFc := va_free hD hS hA [0, 1, 2] hC
                        refine va_calli (va_runV (As := [.int (cV 0)]) (rest := []) ⟨hx, hb, hml, hown, hts⟩ (c_X4_nextOrder l dC dI k H.size qR vz251 az252 (cV 0) (by show 0 ≤ (cV 0).toInt ∧ (cV 0).toInt ≤ 7; omega)) (cwV 1 hts (gk_V (wl_mem 17 rfl) (wl_mem 18 rfl) (wl_mem 19 rfl) (wl_mem 5 rfl) (fun w h => List.mem_cons_of_mem _ (List.mem_append_right _ (List.mem_append_right _ (List.mem_append_right _ (List.mem_append_right _ (List.mem_append_right _ (List.mem_append_right _ (List.mem_append_right _ (List.mem_append_right _ (List.mem_append_left _ h)))))))))) wkg_c_X4_nextOrder) rfl rfl rfl (by decide +kernel) ⟨Nat.le_of_ble_eq_true rfl, Nat.le_of_ble_eq_true rfl⟩) ⟨fun a U g mk q => by obtain ⟨q0, q1, qP, qK, qD⟩ := q; exact ⟨q0, q1, qP, va_K.moved (u := U) (U := U.calling g mk a) (Vm.Alike.refl U.vm) qK, qD⟩, va_recv hK hPc (ci := 4) (q0 := 0) rfl rfl, fun U hU hW => ⟨rfl, by rw [hU], by rw [hU]; exact hPc, va_K.moved hW.alike hK, hDc.weaken (fun _ _ _ _ => trivial)⟩⟩ rfl rfl hl.1 rfl (lv_room (Nat.le_of_ble_eq_true rfl)) dX4_tryOrders_87 ⟨Nat.le_of_ble_eq_true rfl, Nat.le_of_ble_eq_true rfl⟩) hS (fun q _ h => hFc q h) hFc (fun rz254 u t H1 locs ht hvm gz253 hB hz1 hk1 hS => ?_)
                        obtain ⟨vz255, az256, hP1⟩ := hB
                        rw [ht] at hP1
                        obtain ⟨hP, hD⟩ := w_callC hP hD hk1 hP1 [0] rfl rfl (fun _ h => absurd h List.not_mem_nil) rfl
                        clear hPc hC hDc hFc hk1 hP1
                        generalize H1 = H at hP hS ⊢
                        have hP : va_P (dC, dI) vwCl (List.flatten [(wSearch qR k vz255 az256), (wState (sY 0) k (vz200 0) (nz199 0) (az198 0)), (wState (sY 1) k (vz200 1) (nz199 1) (az198 1)), (wState (sY 2) k (vz200 2) (nz199 2) (az198 2)), (wState (sY 3) k (vz200 3) (nz199 3) (az198 3)), (wState (sY 4) k (vz200 4) (nz199 4) (az198 4)), (wState (sY 5) k (vz200 5) (nz199 5) (az198 5)), (wState (sY 6) k (vz200 6) (nz199 6) (az198 6)), (wState (sY 7) k (vz200 7) (nz199 7) (az198 7))] ++ List.flatten [(wStoO qY k (qV 0) (qP 0) (sY 0 0) (sY 1 0) (sY 2 0) (sY 3 0) (sY 4 0) (sY 5 0) (sY 6 0) (sY 7 0)), (wValley qV k vV bV cV wV aV eV), (wPlan qP k vP aP eP)]) H := hP
                        have hD : va_D A (List.flatten [(wSearch qR k vz255 az256), (wState (sY 0) k (vz200 0) (nz199 0) (az198 0)), (wState (sY 1) k (vz200 1) (nz199 1) (az198 1)), (wState (sY 2) k (vz200 2) (nz199 2) (az198 2)), (wState (sY 3) k (vz200 3) (nz199 3) (az198 3)), (wState (sY 4) k (vz200 4) (nz199 4) (az198 4)), (wState (sY 5) k (vz200 5) (nz199 5) (az198 5)), (wState (sY 6) k (vz200 6) (nz199 6) (az198 6)), (wState (sY 7) k (vz200 7) (nz199 7) (az198 7))] ++ List.flatten [(wStoO qY k (qV 0) (qP 0) (sY 0 0) (sY 1 0) (sY 2 0) (sY 3 0) (sY 4 0) (sY 5 0) (sY 6 0) (sY 7 0)), (wValley qV k vV bV cV wV aV eV), (wPlan qP k vP aP eP)]) := hD
                        refine W.widen (k := 0) (n := 0) (Nat.le_refl 0) (Nat.le_refl 0) ?_
                        have pz257 := gz253
                        have pz257 : (-1) ≤ rz254.toInt ∧ rz254.toInt ≤ 6 := pz257
                        refine lv_istore_n (lv' := [(3, .int rz254), (0, .ref (qR 0)), (1, .ref (qY 0)), (2, .int (cV 0)), (4, .int xz167), (5, .int xz201)]) hx hb dX4_tryOrders_90 rfl hl (by decide) rfl (fun ls hl => ?_)
                        obtain ⟨xz258, exz258⟩ : ∃ y : Int32, y = xz167 + Int32.ofInt (1) := ⟨_, rfl⟩
                        have fxz258 : xz258.toInt = xz167.toInt + (1) := by rw [exz258]; exact fb_addI (y := Int32.ofInt (1)) (by show -2147483648 ≤ xz167.toInt + (1); omega) (by show xz167.toInt + (1) < 2147483648; omega)
                        refine lv_iinc (v := xz258) (lv' := [(4, .int xz258), (3, .int rz254), (0, .ref (qR 0)), (1, .ref (qY 0)), (2, .int (cV 0)), (5, .int xz201)]) hx hb dX4_tryOrders_91 hl (k := 4) rfl exz258.symm (by decide) rfl (fun ls hl => ?_)
                        refine lv_goto (tgt := 37) hx hb dX4_tryOrders_94 (by decide) ?_
                        exact ih37 H locs ls az256 vz255 az198 nz199 vz200 rz254 xz258 (by show (2147483647 - xz258.toInt).toNat < n9_37; omega) hnz199 (by show 0 ≤ xz258.toInt; omega) hP hD hS (lv_sub hl [2, 3, 4, 1, 0] rfl)
                      · skip
                        refine W.eq (g2 := F0 m 82 ls [.ref (sY 5 0), .ref (qR 0)]) rfl ?_
                        have hPc := hP.sub (ws' := (List.flatten [(wSearch qR k vz162 az161)] ++ List.flatten [(wState (sY 5) k (vz200 5) (nz199 5) (az198 5))])) [0, 1, 2, 58, 59, 60, 61, 62, 63, 64, 65, 66, 67, 68] rfl
                        have hC : [0, 1, 2, 58, 59, 60, 61, 62, 63, 64, 65, 66, 67, 68].map (fun i => (List.flatten [(wSearch qR k vz162 az161), (wState (sY 0) k (vz200 0) (nz199 0) (az198 0)), (wState (sY 1) k (vz200 1) (nz199 1) (az198 1)), (wState (sY 2) k (vz200 2) (nz199 2) (az198 2)), (wState (sY 3) k (vz200 3) (nz199 3) (az198 3)), (wState (sY 4) k (vz200 4) (nz199 4) (az198 4)), (wState (sY 5) k (vz200 5) (nz199 5) (az198 5)), (wState (sY 6) k (vz200 6) (nz199 6) (az198 6)), (wState (sY 7) k (vz200 7) (nz199 7) (az198 7))] ++ List.flatten [(wStoO qY k (qV 0) (qP 0) (sY 0 0) (sY 1 0) (sY 2 0) (sY 3 0) (sY 4 0) (sY 5 0) (sY 6 0) (sY 7 0)), (wValley qV k vV bV cV wV aV eV), (wPlan qP k vP aP eP)])[i]?) = (List.flatten [(wSearch qR k vz162 az161)] ++ List.flatten [(wState (sY 5) k (vz200 5) (nz199 5) (az198 5))]).map some := rfl
                        have hDc := hD.sub [0, 1, 2, 58, 59, 60, 61, 62, 63, 64, 65, 66, 67, 68] (by decide) hC
                        have hFc := va_free hD hS hA [0, 1, 2, 58, 59, 60, 61, 62, 63, 64, 65, 66, 67, 68] hC
                        refine va_callv (va_runV (As := [.ref (sY 5 0)]) (rest := []) ⟨hx, hb, hml, hown, hts⟩ (c_X4_weigh l dC dI k H.size qR vz162 az161 (sY 5) (vz200 5) (nz199 5) (az198 5) (hnz199 5)) (cwV 1 hts (gk_V (wl_mem 14 rfl) (wl_mem 15 rfl) (wl_mem 16 rfl) (wl_mem 5 rfl) (fun w h => List.mem_cons_of_mem _ (List.mem_append_right _ (List.mem_append_right _ (List.mem_append_right _ (List.mem_append_right _ (List.mem_append_right _ (List.mem_append_right _ (List.mem_append_right _ (List.mem_append_left _ h))))))))) wkg_c_X4_weigh) rfl rfl rfl (by decide +kernel) ⟨Nat.le_of_ble_eq_true rfl, Nat.le_of_ble_eq_true rfl⟩) ⟨fun a U g mk q => by obtain ⟨q0, q1, qP, qK, qD⟩ := q; exact ⟨q0, q1, qP, va_K.moved (u := U) (U := U.calling g mk a) (Vm.Alike.refl U.vm) qK, qD⟩, va_recv hK hPc (ci := 4) (q0 := 0) rfl rfl, fun U hU hW => ⟨rfl, by rw [hU], by rw [hU]; exact hPc, va_K.moved hW.alike hK, hDc.weaken (fun _ _ _ _ => trivial)⟩⟩ rfl rfl hl.1 rfl (lv_room (Nat.le_of_ble_eq_true rfl)) dX4_tryOrders_82 ⟨Nat.le_of_ble_eq_true rfl, Nat.le_of_ble_eq_true rfl⟩) hS (fun q _ h => hFc q h) hFc (fun u t H1 locs ht hvm gz259 hB hz1 hk1 hS => ?_)
                        obtain ⟨vz261, az262, hP1⟩ := hB
                        rw [ht] at hP1
                        obtain ⟨hP, hD⟩ := w_callC hP hD hk1 hP1 [0] rfl rfl (wk_memC [6] rfl) rfl
                        clear hPc hC hDc hFc hk1 hP1
                        generalize H1 = H at hP hS ⊢
                        have hP : va_P (dC, dI) vwCl (List.flatten [(wSearch qR k vz261 az262), (wState (sY 0) k (vz200 0) (nz199 0) (az198 0)), (wState (sY 1) k (vz200 1) (nz199 1) (az198 1)), (wState (sY 2) k (vz200 2) (nz199 2) (az198 2)), (wState (sY 3) k (vz200 3) (nz199 3) (az198 3)), (wState (sY 4) k (vz200 4) (nz199 4) (az198 4)), (wState (sY 5) k (vz200 5) (nz199 5) (az198 5)), (wState (sY 6) k (vz200 6) (nz199 6) (az198 6)), (wState (sY 7) k (vz200 7) (nz199 7) (az198 7))] ++ List.flatten [(wStoO qY k (qV 0) (qP 0) (sY 0 0) (sY 1 0) (sY 2 0) (sY 3 0) (sY 4 0) (sY 5 0) (sY 6 0) (sY 7 0)), (wValley qV k vV bV cV wV aV eV), (wPlan qP k vP aP eP)]) H := hP
                        have hD : va_D A (List.flatten [(wSearch qR k vz261 az262), (wState (sY 0) k (vz200 0) (nz199 0) (az198 0)), (wState (sY 1) k (vz200 1) (nz199 1) (az198 1)), (wState (sY 2) k (vz200 2) (nz199 2) (az198 2)), (wState (sY 3) k (vz200 3) (nz199 3) (az198 3)), (wState (sY 4) k (vz200 4) (nz199 4) (az198 4)), (wState (sY 5) k (vz200 5) (nz199 5) (az198 5)), (wState (sY 6) k (vz200 6) (nz199 6) (az198 6)), (wState (sY 7) k (vz200 7) (nz199 7) (az198 7))] ++ List.flatten [(wStoO qY k (qV 0) (qP 0) (sY 0 0) (sY 1 0) (sY 2 0) (sY 3 0) (sY 4 0) (sY 5 0) (sY 6 0) (sY 7 0)), (wValley qV k vV bV cV wV aV eV), (wPlan qP k vP aP eP)]) := hD
                        refine W.widen (k := 0) (n := 0) (Nat.le_refl 0) (Nat.le_refl 0) ?_
                        refine lv_aload_n hx hb dX4_tryOrders_85 rfl (lv_at hl 0 rfl) ?_
                        refine lv_iload_n hx hb dX4_tryOrders_86 rfl (lv_at hl 2 rfl) ?_
                        have hPc := hP.sub (ws' := (List.flatten [(wSearch qR k vz261 az262)] ++ List.flatten ([] : List va_W))) [0, 1, 2] rfl
                        have hC : [0, 1, 2].map (fun i => (List.flatten [(wSearch qR k vz261 az262), (wState (sY 0) k (vz200 0) (nz199 0) (az198 0)), (wState (sY 1) k (vz200 1) (nz199 1) (az198 1)), (wState (sY 2) k (vz200 2) (nz199 2) (az198 2)), (wState (sY 3) k (vz200 3) (nz199 3) (az198 3)), (wState (sY 4) k (vz200 4) (nz199 4) (az198 4)), (wState (sY 5) k (vz200 5) (nz199 5) (az198 5)), (wState (sY 6) k (vz200 6) (nz199 6) (az198 6)), (wState (sY 7) k (vz200 7) (nz199 7) (az198 7))] ++ List.flatten [(wStoO qY k (qV 0) (qP 0) (sY 0 0) (sY 1 0) (sY 2 0) (sY 3 0) (sY 4 0) (sY 5 0) (sY 6 0) (sY 7 0)), (wValley qV k vV bV cV wV aV eV), (wPlan qP k vP aP eP)])[i]?) = (List.flatten [(wSearch qR k vz261 az262)] ++ List.flatten ([] : List va_W)).map some := rfl
                        have hDc := hD.sub [0, 1, 2] (by decide) hC
                        have hFc := va_free hD hS hA [0, 1, 2] hC
                        refine va_calli (va_runV (As := [.int (cV 0)]) (rest := []) ⟨hx, hb, hml, hown, hts⟩ (c_X4_nextOrder l dC dI k H.size qR vz261 az262 (cV 0) (by show 0 ≤ (cV 0).toInt ∧ (cV 0).toInt ≤ 7; omega)) (cwV 1 hts (gk_V (wl_mem 17 rfl) (wl_mem 18 rfl) (wl_mem 19 rfl) (wl_mem 5 rfl) (fun w h => List.mem_cons_of_mem _ (List.mem_append_right _ (List.mem_append_right _ (List.mem_append_right _ (List.mem_append_right _ (List.mem_append_right _ (List.mem_append_right _ (List.mem_append_right _ (List.mem_append_right _ (List.mem_append_left _ h)))))))))) wkg_c_X4_nextOrder) rfl rfl rfl (by decide +kernel) ⟨Nat.le_of_ble_eq_true rfl, Nat.le_of_ble_eq_true rfl⟩) ⟨fun a U g mk q => by obtain ⟨q0, q1, qP, qK, qD⟩ := q; exact ⟨q0, q1, qP, va_K.moved (u := U) (U := U.calling g mk a) (Vm.Alike.refl U.vm) qK, qD⟩, va_recv hK hPc (ci := 4) (q0 := 0) rfl rfl, fun U hU hW => ⟨rfl, by rw [hU], by rw [hU]; exact hPc, va_K.moved hW.alike hK, hDc.weaken (fun _ _ _ _ => trivial)⟩⟩ rfl rfl hl.1 rfl (lv_room (Nat.le_of_ble_eq_true rfl)) dX4_tryOrders_87 ⟨Nat.le_of_ble_eq_true rfl, Nat.le_of_ble_eq_true rfl⟩) hS (fun q _ h => hFc q h) hFc (fun rz264 u t H1 locs ht hvm gz263 hB hz1 hk1 hS => ?_)
                        obtain ⟨vz265, az266, hP1⟩ := hB
                        rw [ht] at hP1
                        obtain ⟨hP, hD⟩ := w_callC hP hD hk1 hP1 [0] rfl rfl (fun _ h => absurd h List.not_mem_nil) rfl
                        clear hPc hC hDc hFc hk1 hP1
                        generalize H1 = H at hP hS ⊢
                        have hP : va_P (dC, dI) vwCl (List.flatten [(wSearch qR k vz265 az266), (wState (sY 0) k (vz200 0) (nz199 0) (az198 0)), (wState (sY 1) k (vz200 1) (nz199 1) (az198 1)), (wState (sY 2) k (vz200 2) (nz199 2) (az198 2)), (wState (sY 3) k (vz200 3) (nz199 3) (az198 3)), (wState (sY 4) k (vz200 4) (nz199 4) (az198 4)), (wState (sY 5) k (vz200 5) (nz199 5) (az198 5)), (wState (sY 6) k (vz200 6) (nz199 6) (az198 6)), (wState (sY 7) k (vz200 7) (nz199 7) (az198 7))] ++ List.flatten [(wStoO qY k (qV 0) (qP 0) (sY 0 0) (sY 1 0) (sY 2 0) (sY 3 0) (sY 4 0) (sY 5 0) (sY 6 0) (sY 7 0)), (wValley qV k vV bV cV wV aV eV), (wPlan qP k vP aP eP)]) H := hP
                        have hD : va_D A (List.flatten [(wSearch qR k vz265 az266), (wState (sY 0) k (vz200 0) (nz199 0) (az198 0)), (wState (sY 1) k (vz200 1) (nz199 1) (az198 1)), (wState (sY 2) k (vz200 2) (nz199 2) (az198 2)), (wState (sY 3) k (vz200 3) (nz199 3) (az198 3)), (wState (sY 4) k (vz200 4) (nz199 4) (az198 4)), (wState (sY 5) k (vz200 5) (nz199 5) (az198 5)), (wState (sY 6) k (vz200 6) (nz199 6) (az198 6)), (wState (sY 7) k (vz200 7) (nz199 7) (az198 7))] ++ List.flatten [(wStoO qY k (qV 0) (qP 0) (sY 0 0) (sY 1 0) (sY 2 0) (sY 3 0) (sY 4 0) (sY 5 0) (sY 6 0) (sY 7 0)), (wValley qV k vV bV cV wV aV eV), (wPlan qP k vP aP eP)]) := hD
                        refine W.widen (k := 0) (n := 0) (Nat.le_refl 0) (Nat.le_refl 0) ?_
                        have pz267 := gz263
                        have pz267 : (-1) ≤ rz264.toInt ∧ rz264.toInt ≤ 6 := pz267
                        refine lv_istore_n (lv' := [(3, .int rz264), (0, .ref (qR 0)), (1, .ref (qY 0)), (2, .int (cV 0)), (4, .int xz167), (5, .int xz201)]) hx hb dX4_tryOrders_90 rfl hl (by decide) rfl (fun ls hl => ?_)
                        obtain ⟨xz268, exz268⟩ : ∃ y : Int32, y = xz167 + Int32.ofInt (1) := ⟨_, rfl⟩
                        have fxz268 : xz268.toInt = xz167.toInt + (1) := by rw [exz268]; exact fb_addI (y := Int32.ofInt (1)) (by show -2147483648 ≤ xz167.toInt + (1); omega) (by show xz167.toInt + (1) < 2147483648; omega)
                        refine lv_iinc (v := xz268) (lv' := [(4, .int xz268), (3, .int rz264), (0, .ref (qR 0)), (1, .ref (qY 0)), (2, .int (cV 0)), (5, .int xz201)]) hx hb dX4_tryOrders_91 hl (k := 4) rfl exz268.symm (by decide) rfl (fun ls hl => ?_)
                        refine lv_goto (tgt := 37) hx hb dX4_tryOrders_94 (by decide) ?_
                        exact ih37 H locs ls az266 vz265 az198 nz199 vz200 rz264 xz268 (by show (2147483647 - xz268.toInt).toNat < n9_37; omega) hnz199 (by show 0 ≤ xz268.toInt; omega) hP hD hS (lv_sub hl [2, 3, 4, 1, 0] rfl)
                      · skip
                        refine W.eq (g2 := F0 m 82 ls [.ref (sY 6 0), .ref (qR 0)]) rfl ?_
                        have hPc := hP.sub (ws' := (List.flatten [(wSearch qR k vz162 az161)] ++ List.flatten [(wState (sY 6) k (vz200 6) (nz199 6) (az198 6))])) [0, 1, 2, 69, 70, 71, 72, 73, 74, 75, 76, 77, 78, 79] rfl
                        have hC : [0, 1, 2, 69, 70, 71, 72, 73, 74, 75, 76, 77, 78, 79].map (fun i => (List.flatten [(wSearch qR k vz162 az161), (wState (sY 0) k (vz200 0) (nz199 0) (az198 0)), (wState (sY 1) k (vz200 1) (nz199 1) (az198 1)), (wState (sY 2) k (vz200 2) (nz199 2) (az198 2)), (wState (sY 3) k (vz200 3) (nz199 3) (az198 3)), (wState (sY 4) k (vz200 4) (nz199 4) (az198 4)), (wState (sY 5) k (vz200 5) (nz199 5) (az198 5)), (wState (sY 6) k (vz200 6) (nz199 6) (az198 6)), (wState (sY 7) k (vz200 7) (nz199 7) (az198 7))] ++ List.flatten [(wStoO qY k (qV 0) (qP 0) (sY 0 0) (sY 1 0) (sY 2 0) (sY 3 0) (sY 4 0) (sY 5 0) (sY 6 0) (sY 7 0)), (wValley qV k vV bV cV wV aV eV), (wPlan qP k vP aP eP)])[i]?) = (List.flatten [(wSearch qR k vz162 az161)] ++ List.flatten [(wState (sY 6) k (vz200 6) (nz199 6) (az198 6))]).map some := rfl
                        have hDc := hD.sub [0, 1, 2, 69, 70, 71, 72, 73, 74, 75, 76, 77, 78, 79] (by decide) hC
                        have hFc := va_free hD hS hA [0, 1, 2, 69, 70, 71, 72, 73, 74, 75, 76, 77, 78, 79] hC
                        refine va_callv (va_runV (As := [.ref (sY 6 0)]) (rest := []) ⟨hx, hb, hml, hown, hts⟩ (c_X4_weigh l dC dI k H.size qR vz162 az161 (sY 6) (vz200 6) (nz199 6) (az198 6) (hnz199 6)) (cwV 1 hts (gk_V (wl_mem 14 rfl) (wl_mem 15 rfl) (wl_mem 16 rfl) (wl_mem 5 rfl) (fun w h => List.mem_cons_of_mem _ (List.mem_append_right _ (List.mem_append_right _ (List.mem_append_right _ (List.mem_append_right _ (List.mem_append_right _ (List.mem_append_right _ (List.mem_append_right _ (List.mem_append_left _ h))))))))) wkg_c_X4_weigh) rfl rfl rfl (by decide +kernel) ⟨Nat.le_of_ble_eq_true rfl, Nat.le_of_ble_eq_true rfl⟩) ⟨fun a U g mk q => by obtain ⟨q0, q1, qP, qK, qD⟩ := q; exact ⟨q0, q1, qP, va_K.moved (u := U) (U := U.calling g mk a) (Vm.Alike.refl U.vm) qK, qD⟩, va_recv hK hPc (ci := 4) (q0 := 0) rfl rfl, fun U hU hW => ⟨rfl, by rw [hU], by rw [hU]; exact hPc, va_K.moved hW.alike hK, hDc.weaken (fun _ _ _ _ => trivial)⟩⟩ rfl rfl hl.1 rfl (lv_room (Nat.le_of_ble_eq_true rfl)) dX4_tryOrders_82 ⟨Nat.le_of_ble_eq_true rfl, Nat.le_of_ble_eq_true rfl⟩) hS (fun q _ h => hFc q h) hFc (fun u t H1 locs ht hvm gz269 hB hz1 hk1 hS => ?_)
                        obtain ⟨vz271, az272, hP1⟩ := hB
                        rw [ht] at hP1
                        obtain ⟨hP, hD⟩ := w_callC hP hD hk1 hP1 [0] rfl rfl (wk_memC [7] rfl) rfl
                        clear hPc hC hDc hFc hk1 hP1
                        generalize H1 = H at hP hS ⊢
                        have hP : va_P (dC, dI) vwCl (List.flatten [(wSearch qR k vz271 az272), (wState (sY 0) k (vz200 0) (nz199 0) (az198 0)), (wState (sY 1) k (vz200 1) (nz199 1) (az198 1)), (wState (sY 2) k (vz200 2) (nz199 2) (az198 2)), (wState (sY 3) k (vz200 3) (nz199 3) (az198 3)), (wState (sY 4) k (vz200 4) (nz199 4) (az198 4)), (wState (sY 5) k (vz200 5) (nz199 5) (az198 5)), (wState (sY 6) k (vz200 6) (nz199 6) (az198 6)), (wState (sY 7) k (vz200 7) (nz199 7) (az198 7))] ++ List.flatten [(wStoO qY k (qV 0) (qP 0) (sY 0 0) (sY 1 0) (sY 2 0) (sY 3 0) (sY 4 0) (sY 5 0) (sY 6 0) (sY 7 0)), (wValley qV k vV bV cV wV aV eV), (wPlan qP k vP aP eP)]) H := hP
                        have hD : va_D A (List.flatten [(wSearch qR k vz271 az272), (wState (sY 0) k (vz200 0) (nz199 0) (az198 0)), (wState (sY 1) k (vz200 1) (nz199 1) (az198 1)), (wState (sY 2) k (vz200 2) (nz199 2) (az198 2)), (wState (sY 3) k (vz200 3) (nz199 3) (az198 3)), (wState (sY 4) k (vz200 4) (nz199 4) (az198 4)), (wState (sY 5) k (vz200 5) (nz199 5) (az198 5)), (wState (sY 6) k (vz200 6) (nz199 6) (az198 6)), (wState (sY 7) k (vz200 7) (nz199 7) (az198 7))] ++ List.flatten [(wStoO qY k (qV 0) (qP 0) (sY 0 0) (sY 1 0) (sY 2 0) (sY 3 0) (sY 4 0) (sY 5 0) (sY 6 0) (sY 7 0)), (wValley qV k vV bV cV wV aV eV), (wPlan qP k vP aP eP)]) := hD
                        refine W.widen (k := 0) (n := 0) (Nat.le_refl 0) (Nat.le_refl 0) ?_
                        refine lv_aload_n hx hb dX4_tryOrders_85 rfl (lv_at hl 0 rfl) ?_
                        refine lv_iload_n hx hb dX4_tryOrders_86 rfl (lv_at hl 2 rfl) ?_
                        have hPc := hP.sub (ws' := (List.flatten [(wSearch qR k vz271 az272)] ++ List.flatten ([] : List va_W))) [0, 1, 2] rfl
                        have hC : [0, 1, 2].map (fun i => (List.flatten [(wSearch qR k vz271 az272), (wState (sY 0) k (vz200 0) (nz199 0) (az198 0)), (wState (sY 1) k (vz200 1) (nz199 1) (az198 1)), (wState (sY 2) k (vz200 2) (nz199 2) (az198 2)), (wState (sY 3) k (vz200 3) (nz199 3) (az198 3)), (wState (sY 4) k (vz200 4) (nz199 4) (az198 4)), (wState (sY 5) k (vz200 5) (nz199 5) (az198 5)), (wState (sY 6) k (vz200 6) (nz199 6) (az198 6)), (wState (sY 7) k (vz200 7) (nz199 7) (az198 7))] ++ List.flatten [(wStoO qY k (qV 0) (qP 0) (sY 0 0) (sY 1 0) (sY 2 0) (sY 3 0) (sY 4 0) (sY 5 0) (sY 6 0) (sY 7 0)), (wValley qV k vV bV cV wV aV eV), (wPlan qP k vP aP eP)])[i]?) = (List.flatten [(wSearch qR k vz271 az272)] ++ List.flatten ([] : List va_W)).map some := rfl
                        have hDc := hD.sub [0, 1, 2] (by decide) hC
                        have hFc := va_free hD hS hA [0, 1, 2] hC
                        refine va_calli (va_runV (As := [.int (cV 0)]) (rest := []) ⟨hx, hb, hml, hown, hts⟩ (c_X4_nextOrder l dC dI k H.size qR vz271 az272 (cV 0) (by show 0 ≤ (cV 0).toInt ∧ (cV 0).toInt ≤ 7; omega)) (cwV 1 hts (gk_V (wl_mem 17 rfl) (wl_mem 18 rfl) (wl_mem 19 rfl) (wl_mem 5 rfl) (fun w h => List.mem_cons_of_mem _ (List.mem_append_right _ (List.mem_append_right _ (List.mem_append_right _ (List.mem_append_right _ (List.mem_append_right _ (List.mem_append_right _ (List.mem_append_right _ (List.mem_append_right _ (List.mem_append_left _ h)))))))))) wkg_c_X4_nextOrder) rfl rfl rfl (by decide +kernel) ⟨Nat.le_of_ble_eq_true rfl, Nat.le_of_ble_eq_true rfl⟩) ⟨fun a U g mk q => by obtain ⟨q0, q1, qP, qK, qD⟩ := q; exact ⟨q0, q1, qP, va_K.moved (u := U) (U := U.calling g mk a) (Vm.Alike.refl U.vm) qK, qD⟩, va_recv hK hPc (ci := 4) (q0 := 0) rfl rfl, fun U hU hW => ⟨rfl, by rw [hU], by rw [hU]; exact hPc, va_K.moved hW.alike hK, hDc.weaken (fun _ _ _ _ => trivial)⟩⟩ rfl rfl hl.1 rfl (lv_room (Nat.le_of_ble_eq_true rfl)) dX4_tryOrders_87 ⟨Nat.le_of_ble_eq_true rfl, Nat.le_of_ble_eq_true rfl⟩) hS (fun q _ h => hFc q h) hFc (fun rz274 u t H1 locs ht hvm gz273 hB hz1 hk1 hS => ?_)
                        obtain ⟨vz275, az276, hP1⟩ := hB
                        rw [ht] at hP1
                        obtain ⟨hP, hD⟩ := w_callC hP hD hk1 hP1 [0] rfl rfl (fun _ h => absurd h List.not_mem_nil) rfl
                        clear hPc hC hDc hFc hk1 hP1
                        generalize H1 = H at hP hS ⊢
                        have hP : va_P (dC, dI) vwCl (List.flatten [(wSearch qR k vz275 az276), (wState (sY 0) k (vz200 0) (nz199 0) (az198 0)), (wState (sY 1) k (vz200 1) (nz199 1) (az198 1)), (wState (sY 2) k (vz200 2) (nz199 2) (az198 2)), (wState (sY 3) k (vz200 3) (nz199 3) (az198 3)), (wState (sY 4) k (vz200 4) (nz199 4) (az198 4)), (wState (sY 5) k (vz200 5) (nz199 5) (az198 5)), (wState (sY 6) k (vz200 6) (nz199 6) (az198 6)), (wState (sY 7) k (vz200 7) (nz199 7) (az198 7))] ++ List.flatten [(wStoO qY k (qV 0) (qP 0) (sY 0 0) (sY 1 0) (sY 2 0) (sY 3 0) (sY 4 0) (sY 5 0) (sY 6 0) (sY 7 0)), (wValley qV k vV bV cV wV aV eV), (wPlan qP k vP aP eP)]) H := hP
                        have hD : va_D A (List.flatten [(wSearch qR k vz275 az276), (wState (sY 0) k (vz200 0) (nz199 0) (az198 0)), (wState (sY 1) k (vz200 1) (nz199 1) (az198 1)), (wState (sY 2) k (vz200 2) (nz199 2) (az198 2)), (wState (sY 3) k (vz200 3) (nz199 3) (az198 3)), (wState (sY 4) k (vz200 4) (nz199 4) (az198 4)), (wState (sY 5) k (vz200 5) (nz199 5) (az198 5)), (wState (sY 6) k (vz200 6) (nz199 6) (az198 6)), (wState (sY 7) k (vz200 7) (nz199 7) (az198 7))] ++ List.flatten [(wStoO qY k (qV 0) (qP 0) (sY 0 0) (sY 1 0) (sY 2 0) (sY 3 0) (sY 4 0) (sY 5 0) (sY 6 0) (sY 7 0)), (wValley qV k vV bV cV wV aV eV), (wPlan qP k vP aP eP)]) := hD
                        refine W.widen (k := 0) (n := 0) (Nat.le_refl 0) (Nat.le_refl 0) ?_
                        have pz277 := gz273
                        have pz277 : (-1) ≤ rz274.toInt ∧ rz274.toInt ≤ 6 := pz277
                        refine lv_istore_n (lv' := [(3, .int rz274), (0, .ref (qR 0)), (1, .ref (qY 0)), (2, .int (cV 0)), (4, .int xz167), (5, .int xz201)]) hx hb dX4_tryOrders_90 rfl hl (by decide) rfl (fun ls hl => ?_)
                        obtain ⟨xz278, exz278⟩ : ∃ y : Int32, y = xz167 + Int32.ofInt (1) := ⟨_, rfl⟩
                        have fxz278 : xz278.toInt = xz167.toInt + (1) := by rw [exz278]; exact fb_addI (y := Int32.ofInt (1)) (by show -2147483648 ≤ xz167.toInt + (1); omega) (by show xz167.toInt + (1) < 2147483648; omega)
                        refine lv_iinc (v := xz278) (lv' := [(4, .int xz278), (3, .int rz274), (0, .ref (qR 0)), (1, .ref (qY 0)), (2, .int (cV 0)), (5, .int xz201)]) hx hb dX4_tryOrders_91 hl (k := 4) rfl exz278.symm (by decide) rfl (fun ls hl => ?_)
                        refine lv_goto (tgt := 37) hx hb dX4_tryOrders_94 (by decide) ?_
                        exact ih37 H locs ls az276 vz275 az198 nz199 vz200 rz274 xz278 (by show (2147483647 - xz278.toInt).toNat < n9_37; omega) hnz199 (by show 0 ≤ xz278.toInt; omega) hP hD hS (lv_sub hl [2, 3, 4, 1, 0] rfl)
                      · skip
                        refine W.eq (g2 := F0 m 82 ls [.ref (sY 7 0), .ref (qR 0)]) rfl ?_
                        have hPc := hP.sub (ws' := (List.flatten [(wSearch qR k vz162 az161)] ++ List.flatten [(wState (sY 7) k (vz200 7) (nz199 7) (az198 7))])) [0, 1, 2, 80, 81, 82, 83, 84, 85, 86, 87, 88, 89, 90] rfl
                        have hC : [0, 1, 2, 80, 81, 82, 83, 84, 85, 86, 87, 88, 89, 90].map (fun i => (List.flatten [(wSearch qR k vz162 az161), (wState (sY 0) k (vz200 0) (nz199 0) (az198 0)), (wState (sY 1) k (vz200 1) (nz199 1) (az198 1)), (wState (sY 2) k (vz200 2) (nz199 2) (az198 2)), (wState (sY 3) k (vz200 3) (nz199 3) (az198 3)), (wState (sY 4) k (vz200 4) (nz199 4) (az198 4)), (wState (sY 5) k (vz200 5) (nz199 5) (az198 5)), (wState (sY 6) k (vz200 6) (nz199 6) (az198 6)), (wState (sY 7) k (vz200 7) (nz199 7) (az198 7))] ++ List.flatten [(wStoO qY k (qV 0) (qP 0) (sY 0 0) (sY 1 0) (sY 2 0) (sY 3 0) (sY 4 0) (sY 5 0) (sY 6 0) (sY 7 0)), (wValley qV k vV bV cV wV aV eV), (wPlan qP k vP aP eP)])[i]?) = (List.flatten [(wSearch qR k vz162 az161)] ++ List.flatten [(wState (sY 7) k (vz200 7) (nz199 7) (az198 7))]).map some := rfl
                        have hDc := hD.sub [0, 1, 2, 80, 81, 82, 83, 84, 85, 86, 87, 88, 89, 90] (by decide) hC
                        have hFc := va_free hD hS hA [0, 1, 2, 80, 81, 82, 83, 84, 85, 86, 87, 88, 89, 90] hC
                        refine va_callv (va_runV (As := [.ref (sY 7 0)]) (rest := []) ⟨hx, hb, hml, hown, hts⟩ (c_X4_weigh l dC dI k H.size qR vz162 az161 (sY 7) (vz200 7) (nz199 7) (az198 7) (hnz199 7)) (cwV 1 hts (gk_V (wl_mem 14 rfl) (wl_mem 15 rfl) (wl_mem 16 rfl) (wl_mem 5 rfl) (fun w h => List.mem_cons_of_mem _ (List.mem_append_right _ (List.mem_append_right _ (List.mem_append_right _ (List.mem_append_right _ (List.mem_append_right _ (List.mem_append_right _ (List.mem_append_right _ (List.mem_append_left _ h))))))))) wkg_c_X4_weigh) rfl rfl rfl (by decide +kernel) ⟨Nat.le_of_ble_eq_true rfl, Nat.le_of_ble_eq_true rfl⟩) ⟨fun a U g mk q => by obtain ⟨q0, q1, qP, qK, qD⟩ := q; exact ⟨q0, q1, qP, va_K.moved (u := U) (U := U.calling g mk a) (Vm.Alike.refl U.vm) qK, qD⟩, va_recv hK hPc (ci := 4) (q0 := 0) rfl rfl, fun U hU hW => ⟨rfl, by rw [hU], by rw [hU]; exact hPc, va_K.moved hW.alike hK, hDc.weaken (fun _ _ _ _ => trivial)⟩⟩ rfl rfl hl.1 rfl (lv_room (Nat.le_of_ble_eq_true rfl)) dX4_tryOrders_82 ⟨Nat.le_of_ble_eq_true rfl, Nat.le_of_ble_eq_true rfl⟩) hS (fun q _ h => hFc q h) hFc (fun u t H1 locs ht hvm gz279 hB hz1 hk1 hS => ?_)
                        obtain ⟨vz281, az282, hP1⟩ := hB
                        rw [ht] at hP1
                        obtain ⟨hP, hD⟩ := w_callC hP hD hk1 hP1 [0] rfl rfl (wk_memC [8] rfl) rfl
                        clear hPc hC hDc hFc hk1 hP1
                        generalize H1 = H at hP hS ⊢
                        have hP : va_P (dC, dI) vwCl (List.flatten [(wSearch qR k vz281 az282), (wState (sY 0) k (vz200 0) (nz199 0) (az198 0)), (wState (sY 1) k (vz200 1) (nz199 1) (az198 1)), (wState (sY 2) k (vz200 2) (nz199 2) (az198 2)), (wState (sY 3) k (vz200 3) (nz199 3) (az198 3)), (wState (sY 4) k (vz200 4) (nz199 4) (az198 4)), (wState (sY 5) k (vz200 5) (nz199 5) (az198 5)), (wState (sY 6) k (vz200 6) (nz199 6) (az198 6)), (wState (sY 7) k (vz200 7) (nz199 7) (az198 7))] ++ List.flatten [(wStoO qY k (qV 0) (qP 0) (sY 0 0) (sY 1 0) (sY 2 0) (sY 3 0) (sY 4 0) (sY 5 0) (sY 6 0) (sY 7 0)), (wValley qV k vV bV cV wV aV eV), (wPlan qP k vP aP eP)]) H := hP
                        have hD : va_D A (List.flatten [(wSearch qR k vz281 az282), (wState (sY 0) k (vz200 0) (nz199 0) (az198 0)), (wState (sY 1) k (vz200 1) (nz199 1) (az198 1)), (wState (sY 2) k (vz200 2) (nz199 2) (az198 2)), (wState (sY 3) k (vz200 3) (nz199 3) (az198 3)), (wState (sY 4) k (vz200 4) (nz199 4) (az198 4)), (wState (sY 5) k (vz200 5) (nz199 5) (az198 5)), (wState (sY 6) k (vz200 6) (nz199 6) (az198 6)), (wState (sY 7) k (vz200 7) (nz199 7) (az198 7))] ++ List.flatten [(wStoO qY k (qV 0) (qP 0) (sY 0 0) (sY 1 0) (sY 2 0) (sY 3 0) (sY 4 0) (sY 5 0) (sY 6 0) (sY 7 0)), (wValley qV k vV bV cV wV aV eV), (wPlan qP k vP aP eP)]) := hD
                        refine W.widen (k := 0) (n := 0) (Nat.le_refl 0) (Nat.le_refl 0) ?_
                        refine lv_aload_n hx hb dX4_tryOrders_85 rfl (lv_at hl 0 rfl) ?_
                        refine lv_iload_n hx hb dX4_tryOrders_86 rfl (lv_at hl 2 rfl) ?_
                        have hPc := hP.sub (ws' := (List.flatten [(wSearch qR k vz281 az282)] ++ List.flatten ([] : List va_W))) [0, 1, 2] rfl
                        have hC : [0, 1, 2].map (fun i => (List.flatten [(wSearch qR k vz281 az282), (wState (sY 0) k (vz200 0) (nz199 0) (az198 0)), (wState (sY 1) k (vz200 1) (nz199 1) (az198 1)), (wState (sY 2) k (vz200 2) (nz199 2) (az198 2)), (wState (sY 3) k (vz200 3) (nz199 3) (az198 3)), (wState (sY 4) k (vz200 4) (nz199 4) (az198 4)), (wState (sY 5) k (vz200 5) (nz199 5) (az198 5)), (wState (sY 6) k (vz200 6) (nz199 6) (az198 6)), (wState (sY 7) k (vz200 7) (nz199 7) (az198 7))] ++ List.flatten [(wStoO qY k (qV 0) (qP 0) (sY 0 0) (sY 1 0) (sY 2 0) (sY 3 0) (sY 4 0) (sY 5 0) (sY 6 0) (sY 7 0)), (wValley qV k vV bV cV wV aV eV), (wPlan qP k vP aP eP)])[i]?) = (List.flatten [(wSearch qR k vz281 az282)] ++ List.flatten ([] : List va_W)).map some := rfl
                        have hDc := hD.sub [0, 1, 2] (by decide) hC
                        have hFc := va_free hD hS hA [0, 1, 2] hC
                        refine va_calli (va_runV (As := [.int (cV 0)]) (rest := []) ⟨hx, hb, hml, hown, hts⟩ (c_X4_nextOrder l dC dI k H.size qR vz281 az282 (cV 0) (by show 0 ≤ (cV 0).toInt ∧ (cV 0).toInt ≤ 7; omega)) (cwV 1 hts (gk_V (wl_mem 17 rfl) (wl_mem 18 rfl) (wl_mem 19 rfl) (wl_mem 5 rfl) (fun w h => List.mem_cons_of_mem _ (List.mem_append_right _ (List.mem_append_right _ (List.mem_append_right _ (List.mem_append_right _ (List.mem_append_right _ (List.mem_append_right _ (List.mem_append_right _ (List.mem_append_right _ (List.mem_append_left _ h)))))))))) wkg_c_X4_nextOrder) rfl rfl rfl (by decide +kernel) ⟨Nat.le_of_ble_eq_true rfl, Nat.le_of_ble_eq_true rfl⟩) ⟨fun a U g mk q => by obtain ⟨q0, q1, qP, qK, qD⟩ := q; exact ⟨q0, q1, qP, va_K.moved (u := U) (U := U.calling g mk a) (Vm.Alike.refl U.vm) qK, qD⟩, va_recv hK hPc (ci := 4) (q0 := 0) rfl rfl, fun U hU hW => ⟨rfl, by rw [hU], by rw [hU]; exact hPc, va_K.moved hW.alike hK, hDc.weaken (fun _ _ _ _ => trivial)⟩⟩ rfl rfl hl.1 rfl (lv_room (Nat.le_of_ble_eq_true rfl)) dX4_tryOrders_87 ⟨Nat.le_of_ble_eq_true rfl, Nat.le_of_ble_eq_true rfl⟩) hS (fun q _ h => hFc q h) hFc (fun rz284 u t H1 locs ht hvm gz283 hB hz1 hk1 hS => ?_)
                        obtain ⟨vz285, az286, hP1⟩ := hB
                        rw [ht] at hP1
                        obtain ⟨hP, hD⟩ := w_callC hP hD hk1 hP1 [0] rfl rfl (fun _ h => absurd h List.not_mem_nil) rfl
                        clear hPc hC hDc hFc hk1 hP1
                        generalize H1 = H at hP hS ⊢
                        have hP : va_P (dC, dI) vwCl (List.flatten [(wSearch qR k vz285 az286), (wState (sY 0) k (vz200 0) (nz199 0) (az198 0)), (wState (sY 1) k (vz200 1) (nz199 1) (az198 1)), (wState (sY 2) k (vz200 2) (nz199 2) (az198 2)), (wState (sY 3) k (vz200 3) (nz199 3) (az198 3)), (wState (sY 4) k (vz200 4) (nz199 4) (az198 4)), (wState (sY 5) k (vz200 5) (nz199 5) (az198 5)), (wState (sY 6) k (vz200 6) (nz199 6) (az198 6)), (wState (sY 7) k (vz200 7) (nz199 7) (az198 7))] ++ List.flatten [(wStoO qY k (qV 0) (qP 0) (sY 0 0) (sY 1 0) (sY 2 0) (sY 3 0) (sY 4 0) (sY 5 0) (sY 6 0) (sY 7 0)), (wValley qV k vV bV cV wV aV eV), (wPlan qP k vP aP eP)]) H := hP
                        have hD : va_D A (List.flatten [(wSearch qR k vz285 az286), (wState (sY 0) k (vz200 0) (nz199 0) (az198 0)), (wState (sY 1) k (vz200 1) (nz199 1) (az198 1)), (wState (sY 2) k (vz200 2) (nz199 2) (az198 2)), (wState (sY 3) k (vz200 3) (nz199 3) (az198 3)), (wState (sY 4) k (vz200 4) (nz199 4) (az198 4)), (wState (sY 5) k (vz200 5) (nz199 5) (az198 5)), (wState (sY 6) k (vz200 6) (nz199 6) (az198 6)), (wState (sY 7) k (vz200 7) (nz199 7) (az198 7))] ++ List.flatten [(wStoO qY k (qV 0) (qP 0) (sY 0 0) (sY 1 0) (sY 2 0) (sY 3 0) (sY 4 0) (sY 5 0) (sY 6 0) (sY 7 0)), (wValley qV k vV bV cV wV aV eV), (wPlan qP k vP aP eP)]) := hD
                        refine W.widen (k := 0) (n := 0) (Nat.le_refl 0) (Nat.le_refl 0) ?_
                        have pz287 := gz283
                        have pz287 : (-1) ≤ rz284.toInt ∧ rz284.toInt ≤ 6 := pz287
                        refine lv_istore_n (lv' := [(3, .int rz284), (0, .ref (qR 0)), (1, .ref (qY 0)), (2, .int (cV 0)), (4, .int xz167), (5, .int xz201)]) hx hb dX4_tryOrders_90 rfl hl (by decide) rfl (fun ls hl => ?_)
                        obtain ⟨xz288, exz288⟩ : ∃ y : Int32, y = xz167 + Int32.ofInt (1) := ⟨_, rfl⟩
                        have fxz288 : xz288.toInt = xz167.toInt + (1) := by rw [exz288]; exact fb_addI (y := Int32.ofInt (1)) (by show -2147483648 ≤ xz167.toInt + (1); omega) (by show xz167.toInt + (1) < 2147483648; omega)
                        refine lv_iinc (v := xz288) (lv' := [(4, .int xz288), (3, .int rz284), (0, .ref (qR 0)), (1, .ref (qY 0)), (2, .int (cV 0)), (5, .int xz201)]) hx hb dX4_tryOrders_91 hl (k := 4) rfl exz288.symm (by decide) rfl (fun ls hl => ?_)
                        refine lv_goto (tgt := 37) hx hb dX4_tryOrders_94 (by decide) ?_
                        exact ih37 H locs ls az286 vz285 az198 nz199 vz200 rz284 xz288 (by show (2147483647 - xz288.toInt).toNat < n9_37; omega) hnz199 (by show 0 ≤ xz288.toInt; omega) hP hD hS (lv_sub hl [2, 3, 4, 1, 0] rfl)
                    · skip
                      have bz289 := fb_rng xz201
                      have zz290 : ¬ (cV 0).toInt ≤ xz201.toInt := fun h9 => cz204 (zi_le.mpr h9)
                      refine lv_aload_n hx hb dX4_tryOrders_58 rfl (lv_at hl 1 rfl) ?_
                      refine lv_iload hx hb dX4_tryOrders_59 (lv_at hl 4 rfl) ?_
                      refine lv_aload_n hx hb dX4_tryOrders_61 rfl (lv_at hl 0 rfl) ?_
                      refine va_get (D := (dC, dI)) (ci := 4) (v := .ref (qR 1)) (C := RX4) (T := TX4) (N := 6) hx hb hts (fun w h => List.mem_cons_of_mem _ (List.mem_append_right _ (List.mem_append_right _ (List.mem_append_right _ (List.mem_append_right _ (List.mem_append_left _ h)))))) hown hK hP 0 rfl rfl 0 (by decide) (hts (.fieldLink RX4 9 "SagMemory$Search" "tried" "[I") (wl_mem 6 rfl)) (fun _ h9 => h9) rfl dX4_tryOrders_62 ?_
                      refine lv_iload hx hb dX4_tryOrders_65 (lv_at hl 4 rfl) ?_
                      refine va_iald hx hb hK hP 1 0 rfl rfl (vp_in_iff.mpr ⟨by omega, by omega⟩) dX4_tryOrders_67 ?_
                      refine lv_topi (fun xz291 exz291 => ?_)
                      have hPc : va_P (dC, dI) vwCl (List.flatten [(wState (sY 0) k (vz200 0) (nz199 0) (az198 0)), (wState (sY 1) k (vz200 1) (nz199 1) (az198 1)), (wState (sY 2) k (vz200 2) (nz199 2) (az198 2)), (wState (sY 3) k (vz200 3) (nz199 3) (az198 3)), (wState (sY 4) k (vz200 4) (nz199 4) (az198 4)), (wState (sY 5) k (vz200 5) (nz199 5) (az198 5)), (wState (sY 6) k (vz200 6) (nz199 6) (az198 6)), (wState (sY 7) k (vz200 7) (nz199 7) (az198 7))] ++ List.flatten [(wStoO qY k (qV 0) (qP 0) (sY 0 0) (sY 1 0) (sY 2 0) (sY 3 0) (sY 4 0) (sY 5 0) (sY 6 0) (sY 7 0)), (wValley qV k vV bV cV wV aV eV), (wPlan qP k vP aP eP)]) H := wc_subP hP [1, 2, 3, 4, 5, 6, 7, 8, 9, 10, 11] rfl
                      have hDc : va_D A (List.flatten [(wState (sY 0) k (vz200 0) (nz199 0) (az198 0)), (wState (sY 1) k (vz200 1) (nz199 1) (az198 1)), (wState (sY 2) k (vz200 2) (nz199 2) (az198 2)), (wState (sY 3) k (vz200 3) (nz199 3) (az198 3)), (wState (sY 4) k (vz200 4) (nz199 4) (az198 4)), (wState (sY 5) k (vz200 5) (nz199 5) (az198 5)), (wState (sY 6) k (vz200 6) (nz199 6) (az198 6)), (wState (sY 7) k (vz200 7) (nz199 7) (az198 7))] ++ List.flatten [(wStoO qY k (qV 0) (qP 0) (sY 0 0) (sY 1 0) (sY 2 0) (sY 3 0) (sY 4 0) (sY 5 0) (sY 6 0) (sY 7 0)), (wValley qV k vV bV cV wV aV eV), (wPlan qP k vP aP eP)]) := wc_subD hD [1, 2, 3, 4, 5, 6, 7, 8, 9, 10, 11] rfl rfl
                      have hFc := wc_free hDc hS hA
                      refine va_callv (va_runV (As := [.int xz201, .int xz291]) (rest := []) ⟨hx, hb, hml, hown, hts⟩ (c_X8_step l dC dI k H.size qY sY vz200 nz199 az198 qV vV bV cV wV aV eV qP vP aP eP xz201 xz291 hnz199 hbV hcV hwV heV heP) (cwV 2 hts (gk_V (wl_mem 7 rfl) (wl_mem 8 rfl) (wl_mem 9 rfl) (wl_mem 10 rfl) (fun w h => List.mem_cons_of_mem _ (List.mem_append_right _ (List.mem_append_right _ (List.mem_append_right _ (List.mem_append_right _ (List.mem_append_right _ (List.mem_append_left _ h))))))) wkg_c_X8_step) rfl rfl rfl (by decide +kernel) ⟨Nat.le_of_ble_eq_true rfl, Nat.le_of_ble_eq_true rfl⟩) ⟨fun a U g mk q => by obtain ⟨q0, q1, qP, qK, qD⟩ := q; exact ⟨q0, q1, qP, va_K.moved (u := U) (U := U.calling g mk a) (Vm.Alike.refl U.vm) qK, qD⟩, va_recv hK hPc (ci := 8) (q0 := 88) rfl rfl, fun U hU hW => ⟨rfl, by rw [hU], by rw [hU]; exact hPc, va_K.moved hW.alike hK, hDc.weaken (fun _ _ _ _ => trivial)⟩⟩ rfl rfl hl.1 rfl (lv_room (Nat.le_of_ble_eq_true rfl)) dX4_tryOrders_68 ⟨Nat.le_of_ble_eq_true rfl, Nat.le_of_ble_eq_true rfl⟩) hS (fun q _ h => hFc q h) hFc (fun u t H1 locs ht hvm gz292 hB hz1 hk1 hS => ?_)
                      obtain ⟨vz294, nz295, az296, hnz295, hP1⟩ := hB
                      rw [ht] at hP1
                      obtain ⟨hP, hD⟩ := w_callC hP hD hk1 hP1 [1, 2, 3, 4, 5, 6, 7, 8] rfl rfl (wk_memC [9, 10, 11] rfl) rfl
                      clear hPc hDc hFc hk1 hP1
                      generalize H1 = H at hP hS ⊢
                      have hP : va_P (dC, dI) vwCl (List.flatten [(wSearch qR k vz162 az161), (wState (sY 0) k (vz294 0) (nz295 0) (az296 0)), (wState (sY 1) k (vz294 1) (nz295 1) (az296 1)), (wState (sY 2) k (vz294 2) (nz295 2) (az296 2)), (wState (sY 3) k (vz294 3) (nz295 3) (az296 3)), (wState (sY 4) k (vz294 4) (nz295 4) (az296 4)), (wState (sY 5) k (vz294 5) (nz295 5) (az296 5)), (wState (sY 6) k (vz294 6) (nz295 6) (az296 6)), (wState (sY 7) k (vz294 7) (nz295 7) (az296 7))] ++ List.flatten [(wStoO qY k (qV 0) (qP 0) (sY 0 0) (sY 1 0) (sY 2 0) (sY 3 0) (sY 4 0) (sY 5 0) (sY 6 0) (sY 7 0)), (wValley qV k vV bV cV wV aV eV), (wPlan qP k vP aP eP)]) H := hP
                      have hD : va_D A (List.flatten [(wSearch qR k vz162 az161), (wState (sY 0) k (vz294 0) (nz295 0) (az296 0)), (wState (sY 1) k (vz294 1) (nz295 1) (az296 1)), (wState (sY 2) k (vz294 2) (nz295 2) (az296 2)), (wState (sY 3) k (vz294 3) (nz295 3) (az296 3)), (wState (sY 4) k (vz294 4) (nz295 4) (az296 4)), (wState (sY 5) k (vz294 5) (nz295 5) (az296 5)), (wState (sY 6) k (vz294 6) (nz295 6) (az296 6)), (wState (sY 7) k (vz294 7) (nz295 7) (az296 7))] ++ List.flatten [(wStoO qY k (qV 0) (qP 0) (sY 0 0) (sY 1 0) (sY 2 0) (sY 3 0) (sY 4 0) (sY 5 0) (sY 6 0) (sY 7 0)), (wValley qV k vV bV cV wV aV eV), (wPlan qP k vP aP eP)]) := hD
                      refine W.widen (k := 0) (n := 0) (Nat.le_refl 0) (Nat.le_refl 0) ?_
                      obtain ⟨xz297, exz297⟩ : ∃ y : Int32, y = xz201 + Int32.ofInt (1) := ⟨_, rfl⟩
                      have fxz297 : xz297.toInt = xz201.toInt + (1) := by rw [exz297]; exact fb_addI (y := Int32.ofInt (1)) (by show -2147483648 ≤ xz201.toInt + (1); omega) (by show xz201.toInt + (1) < 2147483648; omega)
                      refine lv_iinc (v := xz297) (lv' := [(5, .int xz297), (0, .ref (qR 0)), (1, .ref (qY 0)), (2, .int (cV 0)), (4, .int xz167)]) hx hb dX4_tryOrders_71 hl (k := 4) rfl exz297.symm (by decide) rfl (fun ls hl => ?_)
                      refine lv_goto (tgt := 52) hx hb dX4_tryOrders_74 (by decide) ?_
                      exact ih52 H locs ls az296 nz295 vz294 xz297 (by show (2147483647 - xz297.toInt).toNat < n9_52; omega) hnz295 (by show 0 ≤ xz297.toInt; omega) hP hD hS (lv_sub hl [1, 2, 3, 4, 0] rfl)
                exact lp52_kz202 _ H locs ls az163 nz164 vz165 xz166 (Nat.lt_succ_self _) hnz164 (by show 0 ≤ xz166.toInt; omega) hP hD hS (lv_sub hl [1, 2, 3, 5, 0] rfl)
        exact lp37_kz168 _ H locs ls az19 vz4 aY nY vY (0 : Int32) (0 : Int32) (Nat.lt_succ_self _) hnY (by show 0 ≤ (0 : Int); omega) hP hD hS (lv_sub hl [2, 3, 4, 1, 0] rfl)
      · skip
        have bz298 := fb_rng xz20
        have zz299 : ¬ (cV 0).toInt ≤ xz20.toInt := fun h9 => cz23 (zi_le.mpr h9)
        refine lv_aload_n hx hb dX4_tryOrders_19 rfl (lv_at hl 0 rfl) ?_
        refine va_get (D := (dC, dI)) (ci := 4) (v := .ref (qR 1)) (C := RX4) (T := TX4) (N := 6) hx hb hts (fun w h => List.mem_cons_of_mem _ (List.mem_append_right _ (List.mem_append_right _ (List.mem_append_right _ (List.mem_append_right _ (List.mem_append_left _ h)))))) hown hK hP 0 rfl rfl 0 (by decide) (hts (.fieldLink RX4 9 "SagMemory$Search" "tried" "[I") (wl_mem 6 rfl)) (fun _ h9 => h9) rfl dX4_tryOrders_20 ?_
        refine lv_iload_n hx hb dX4_tryOrders_23 rfl (lv_at hl 3 rfl) ?_
        refine lv_iload_n hx hb dX4_tryOrders_24 rfl (lv_at hl 3 rfl) ?_
        refine va_iast hx hb hK hP hD hS 1 0 rfl rfl (vp_in_iff.mpr ⟨by omega, by omega⟩) dX4_tryOrders_25 (fun H locs hP hD hS => ?_)
        obtain ⟨fz300, efz300, hP, hD⟩ : ∃ fz300 : Nat → Int32, fz300 = upd (az19 0) xz20.toNatClampNeg xz20 ∧ va_P (dC, dI) vwCl (List.flatten [(wSearch qR k vz4 (va_up az19 0 fz300)), (wState (sY 0) k (vY 0) (nY 0) (aY 0)), (wState (sY 1) k (vY 1) (nY 1) (aY 1)), (wState (sY 2) k (vY 2) (nY 2) (aY 2)), (wState (sY 3) k (vY 3) (nY 3) (aY 3)), (wState (sY 4) k (vY 4) (nY 4) (aY 4)), (wState (sY 5) k (vY 5) (nY 5) (aY 5)), (wState (sY 6) k (vY 6) (nY 6) (aY 6)), (wState (sY 7) k (vY 7) (nY 7) (aY 7))] ++ List.flatten [(wStoO qY k (qV 0) (qP 0) (sY 0 0) (sY 1 0) (sY 2 0) (sY 3 0) (sY 4 0) (sY 5 0) (sY 6 0) (sY 7 0)), (wValley qV k vV bV cV wV aV eV), (wPlan qP k vP aP eP)]) H ∧ va_D A (List.flatten [(wSearch qR k vz4 (va_up az19 0 fz300)), (wState (sY 0) k (vY 0) (nY 0) (aY 0)), (wState (sY 1) k (vY 1) (nY 1) (aY 1)), (wState (sY 2) k (vY 2) (nY 2) (aY 2)), (wState (sY 3) k (vY 3) (nY 3) (aY 3)), (wState (sY 4) k (vY 4) (nY 4) (aY 4)), (wState (sY 5) k (vY 5) (nY 5) (aY 5)), (wState (sY 6) k (vY 6) (nY 6) (aY 6)), (wState (sY 7) k (vY 7) (nY 7) (aY 7))] ++ List.flatten [(wStoO qY k (qV 0) (qP 0) (sY 0 0) (sY 1 0) (sY 2 0) (sY 3 0) (sY 4 0) (sY 5 0) (sY 6 0) (sY 7 0)), (wValley qV k vV bV cV wV aV eV), (wPlan qP k vP aP eP)]) := ⟨_, rfl, hP, hD⟩
        have kfz300 : fz300 xz20.toNatClampNeg = xz20 := by rw [efz300]; exact pk_us
        obtain ⟨xz301, exz301⟩ : ∃ y : Int32, y = xz20 + Int32.ofInt (1) := ⟨_, rfl⟩
        have fxz301 : xz301.toInt = xz20.toInt + (1) := by rw [exz301]; exact fb_addI (y := Int32.ofInt (1)) (by show -2147483648 ≤ xz20.toInt + (1); omega) (by show xz20.toInt + (1) < 2147483648; omega)
        refine lv_iinc (v := xz301) (lv' := [(3, .int xz301), (0, .ref (qR 0)), (1, .ref (qY 0)), (2, .int (cV 0))]) hx hb dX4_tryOrders_26 hl (k := 3) rfl exz301.symm (by decide) rfl (fun ls hl => ?_)
        refine lv_goto (tgt := 14) hx hb dX4_tryOrders_29 (by decide) ?_
        exact ih14 H locs ls (va_up az19 0 fz300) xz301 (by show (2147483647 - xz301.toInt).toNat < n9_14; omega) (by show 0 ≤ xz301.toInt; omega) hP hD hS (lv_sub hl [1, 2, 3, 0] rfl)
  exact lp14_kz21 _ H locs ls az5 (0 : Int32) (Nat.lt_succ_self _) (by show 0 ≤ (0 : Int); omega) hP hD hS (lv_sub hl [2, 3, 1, 0] rfl)
def wk_c_X4_tryRoutes : List Cond := .code yX4_tryRoutes cX4_tryRoutes 6 none :: ([.fieldLink RX4 18 "SagMemory$Story" "valley" "LSagMemory$Valley;", .fieldLink RX4 24 "SagMemory$Valley" "carts" "I", .methodLink RX4 30 yX4_begin, .instanceMethod yX4_begin, .selects RX4 yX4_begin yX4_begin, .initialized RX4, .fieldLink RX4 9 "SagMemory$Search" "tried" "[I", .fieldLink RX4 49 "SagMemory$Story" "plan" "LSagMemory$Plan;", .fieldLink RX4 53 "SagMemory$Plan" "ways" "[I", .methodLink RX4 33 yX8_step, .instanceMethod yX8_step, .selects RX8 yX8_step yX8_step, .initialized RX8, .methodLink RX4 37 yX8_atEnd, .instanceMethod yX8_atEnd, .selects RX8 yX8_atEnd yX8_atEnd, .methodLink RX4 41 yX4_weigh, .instanceMethod yX4_weigh, .selects RX4 yX4_weigh yX4_weigh, .fieldLink RX4 58 "SagMemory$Valley" "bridges" "I", .methodLink RX4 61 yX4_nextRoute, .instanceMethod yX4_nextRoute, .selects RX4 yX4_nextRoute yX4_nextRoute] ++ (wsX80 ++ (wsX100 ++ (wk_c_X4_begin ++ (wsX40 ++ (wsX30 ++ (wk_c_X8_step ++ (wk_c_X8_atEnd ++ (wk_c_X4_weigh ++ (wk_c_X4_nextRoute ++ []))))))))))
theorem wkg_c_X4_tryRoutes : wk_c_X4_tryRoutes.all goodWord = true := by decide +kernel
set_option maxHeartbeats 4000000 in
set_option maxRecDepth 100000 in
theorem c_X4_tryRoutes (l : Launch) (dC : Nat → ClassId) (dI : Nat → Nat → Nat) (k : Nat → ClassId) (sz : Nat) (qR : Nat → Nat) (vR : Nat → Int32) (aR : Nat → Nat → Int32) (qY : Nat → Nat) (sY : Nat → Nat → Nat) (vY : Nat → Nat → Int32) (nY : Nat → Nat → Int32) (aY : Nat → Nat → Nat → Int32) (qV : Nat → Nat) (vV : Nat → Int32) (bV : Nat → Int32) (cV : Nat → Int32) (wV : Nat → Int32) (aV : Nat → Nat → Int32) (eV : Nat → Nat → Int32) (qP : Nat → Nat) (vP : Nat → Int32) (aP : Nat → Nat → Int32) (eP : Nat → Nat → Int32) (hnY : ∀ t9, Rg 0 8 (nY t9)) (hbV : Rg 0 3 bV) (hcV : Rg 0 7 cV) (hwV : Rg 0 5 wV) (heV : RgA 0 99 eV) (heP : RgA 0 99 eP) : Met l yX4_tryRoutes wk_c_X4_tryRoutes ({ frames := 3, cells := 0, slots := 0, locals := 131 }) (va_Pc [.ref (qR 0), .ref (qY 0)] (fun U => U.heap.size = sz ∧ va_P (dC, dI) vwCl (List.flatten [(wSearch qR k vR aR), (wState (sY 0) k (vY 0) (nY 0) (aY 0)), (wState (sY 1) k (vY 1) (nY 1) (aY 1)), (wState (sY 2) k (vY 2) (nY 2) (aY 2)), (wState (sY 3) k (vY 3) (nY 3) (aY 3)), (wState (sY 4) k (vY 4) (nY 4) (aY 4)), (wState (sY 5) k (vY 5) (nY 5) (aY 5)), (wState (sY 6) k (vY 6) (nY 6) (aY 6)), (wState (sY 7) k (vY 7) (nY 7) (aY 7)), (wPlan qP k vP aP eP)] ++ List.flatten [(wStoO qY k (qV 0) (qP 0) (sY 0 0) (sY 1 0) (sY 2 0) (sY 3 0) (sY 4 0) (sY 5 0) (sY 6 0) (sY 7 0)), (wValley qV k vV bV cV wV aV eV)]) U.heap ∧ va_K (dC, dI) vwCl (tK k) U ∧ va_D (fun _ => True) (List.flatten [(wSearch qR k vR aR), (wState (sY 0) k (vY 0) (nY 0) (aY 0)), (wState (sY 1) k (vY 1) (nY 1) (aY 1)), (wState (sY 2) k (vY 2) (nY 2) (aY 2)), (wState (sY 3) k (vY 3) (nY 3) (aY 3)), (wState (sY 4) k (vY 4) (nY 4) (aY 4)), (wState (sY 5) k (vY 5) (nY 5) (aY 5)), (wState (sY 6) k (vY 6) (nY 6) (aY 6)), (wState (sY 7) k (vY 7) (nY 7) (aY 7)), (wPlan qP k vP aP eP)] ++ List.flatten [(wStoO qY k (qV 0) (qP 0) (sY 0 0) (sY 1 0) (sY 2 0) (sY 3 0) (sY 4 0) (sY 5 0) (sY 6 0) (sY 7 0)), (wValley qV k vV bV cV wV aV eV)]))) (va_Qv (fun _ : Unit => True) (fun (_ : Unit) (t : State) => ∃ (vR' : Nat → Int32) (aR' : Nat → Nat → Int32) (vY' : Nat → Nat → Int32) (nY' : Nat → Nat → Int32) (aY' : Nat → Nat → Nat → Int32) (vP' : Nat → Int32) (aP' : Nat → Nat → Int32) (eP' : Nat → Nat → Int32), (∀ t9, Rg 0 8 (nY' t9)) ∧ RgA 0 99 eP' ∧ va_P (dC, dI) vwCl (List.flatten [(wSearch qR k vR' aR'), (wState (sY 0) k (vY' 0) (nY' 0) (aY' 0)), (wState (sY 1) k (vY' 1) (nY' 1) (aY' 1)), (wState (sY 2) k (vY' 2) (nY' 2) (aY' 2)), (wState (sY 3) k (vY' 3) (nY' 3) (aY' 3)), (wState (sY 4) k (vY' 4) (nY' 4) (aY' 4)), (wState (sY 5) k (vY' 5) (nY' 5) (aY' 5)), (wState (sY 6) k (vY' 6) (nY' 6) (aY' 6)), (wState (sY 7) k (vY' 7) (nY' 7) (aY' 7)), (wPlan qP k vP' aP' eP')] ++ List.flatten [(wStoO qY k (qV 0) (qP 0) (sY 0 0) (sY 1 0) (sY 2 0) (sY 3 0) (sY 4 0) (sY 5 0) (sY 6 0) (sY 7 0)), (wValley qV k vV bV cV wV aV eV)]) t.heap) (va_A (List.flatten [(wSearch qR k vR aR), (wState (sY 0) k (vY 0) (nY 0) (aY 0)), (wState (sY 1) k (vY 1) (nY 1) (aY 1)), (wState (sY 2) k (vY 2) (nY 2) (aY 2)), (wState (sY 3) k (vY 3) (nY 3) (aY 3)), (wState (sY 4) k (vY 4) (nY 4) (aY 4)), (wState (sY 5) k (vY 5) (nY 5) (aY 5)), (wState (sY 6) k (vY 6) (nY 6) (aY 6)), (wState (sY 7) k (vY 7) (nY 7) (aY 7)), (wPlan qP k vP aP eP)] ++ List.flatten [(wStoO qY k (qV 0) (qP 0) (sY 0 0) (sY 1 0) (sY 2 0) (sY 3 0) (sY 4 0) (sY 5 0) (sY 6 0) (sY 7 0)), (wValley qV k vV bV cV wV aV eV)]) sz)) 0 0 (va_A (List.flatten [(wSearch qR k vR aR), (wState (sY 0) k (vY 0) (nY 0) (aY 0)), (wState (sY 1) k (vY 1) (nY 1) (aY 1)), (wState (sY 2) k (vY 2) (nY 2) (aY 2)), (wState (sY 3) k (vY 3) (nY 3) (aY 3)), (wState (sY 4) k (vY 4) (nY 4) (aY 4)), (wState (sY 5) k (vY 5) (nY 5) (aY 5)), (wState (sY 6) k (vY 6) (nY 6) (aY 6)), (wState (sY 7) k (vY 7) (nY 7) (aY 7)), (wPlan qP k vP aP eP)] ++ List.flatten [(wStoO qY k (qV 0) (qP 0) (sY 0 0) (sY 1 0) (sY 2 0) (sY 3 0) (sY 4 0) (sY 5 0) (sY 6 0) (sY 7 0)), (wValley qV k vV bV cV wV aV eV)]) sz) := by
  refine Met.ofW (cc := cX4_tryRoutes) (maxL := 6) (ret := none) (by decide) rfl ?_
  intro p e s m args below meth c s₁ B hml hv
  obtain ⟨rfl, hsz, hP, hK, hD0⟩ := hv
  have hx := B.exec
  have hb := B.bytes
  have hr := B.returns
  have hts := atoms_spec (ws := wk_c_X4_tryRoutes) B.pre
  have hown : s.vm.findClass RX4 = some m.cls := findClass_of_methodNamed B.named
  have hlocks := B.notSynchronized
  subst hsz
  have hD := hD0.self (sz := s.heap.size)
  generalize hAe : va_A (List.flatten [(wSearch qR k vR aR), (wState (sY 0) k (vY 0) (nY 0) (aY 0)), (wState (sY 1) k (vY 1) (nY 1) (aY 1)), (wState (sY 2) k (vY 2) (nY 2) (aY 2)), (wState (sY 3) k (vY 3) (nY 3) (aY 3)), (wState (sY 4) k (vY 4) (nY 4) (aY 4)), (wState (sY 5) k (vY 5) (nY 5) (aY 5)), (wState (sY 6) k (vY 6) (nY 6) (aY 6)), (wState (sY 7) k (vY 7) (nY 7) (aY 7)), (wPlan qP k vP aP eP)] ++ List.flatten [(wStoO qY k (qV 0) (qP 0) (sY 0 0) (sY 1 0) (sY 2 0) (sY 3 0) (sY 4 0) (sY 5 0) (sY 6 0) (sY 7 0)), (wValley qV k vV bV cV wV aV eV)]) s.heap.size = A at hD ⊢
  have hA : ∀ q : Nat, s.heap.size ≤ q → A q := fun q h => by rw [← hAe]; exact Or.inr h
  have hS : va_S A s.heap s.heap [] := va_S.rf
  have hP : va_P (dC, dI) vwCl (List.flatten [(wSearch qR k vR aR), (wState (sY 0) k (vY 0) (nY 0) (aY 0)), (wState (sY 1) k (vY 1) (nY 1) (aY 1)), (wState (sY 2) k (vY 2) (nY 2) (aY 2)), (wState (sY 3) k (vY 3) (nY 3) (aY 3)), (wState (sY 4) k (vY 4) (nY 4) (aY 4)), (wState (sY 5) k (vY 5) (nY 5) (aY 5)), (wState (sY 6) k (vY 6) (nY 6) (aY 6)), (wState (sY 7) k (vY 7) (nY 7) (aY 7)), (wPlan qP k vP aP eP)] ++ List.flatten [(wStoO qY k (qV 0) (qP 0) (sY 0 0) (sY 1 0) (sY 2 0) (sY 3 0) (sY 4 0) (sY 5 0) (sY 6 0) (sY 7 0)), (wValley qV k vV bV cV wV aV eV)]) s.heap := hP
  have hl := lv_entry ([.ref (qR 0), .ref (qY 0)]) (n := 6) (Nat.le_of_ble_eq_true rfl)
  rw [lg_entry_eq]
  generalize (lg_sl ([.ref (qR 0), .ref (qY 0)]) ++ List.replicate (6 - (lg_sl ([.ref (qR 0), .ref (qY 0)])).length) Slot.unset).toArray = ls at hl ⊢
  have hl : lv_has ls 6 [(0, .ref (qR 0)), (1, .ref (qY 0))] := hl
  refine w_gen (fun Q hQ => ?_)
  refine lv_aload_n hx hb dX4_tryRoutes_0 rfl (lv_at hl 1 rfl) ?_
  refine va_get (D := (dC, dI)) (ci := 8) (v := .ref (qV 0)) (C := RX8) (T := TX8) (N := 4) hx hb hts (fun w h => List.mem_cons_of_mem _ (List.mem_append_right _ (List.mem_append_left _ h))) hown hK hP 94 rfl rfl 0 (by decide) (hts (.fieldLink RX4 18 "SagMemory$Story" "valley" "LSagMemory$Valley;") (wl_mem 0 rfl)) (fun _ h9 => h9) rfl dX4_tryRoutes_1 ?_
  refine va_get (D := (dC, dI)) (ci := 10) (v := .int (cV 0)) (C := RX10) (T := TX10) (N := 16) hx hb hts (fun w h => List.mem_cons_of_mem _ (List.mem_append_right _ (List.mem_append_right _ (List.mem_append_left _ h)))) hown hK hP 96 rfl rfl 12 (by decide) (hts (.fieldLink RX4 24 "SagMemory$Valley" "carts" "I") (wl_mem 1 rfl)) (fun _ h9 => h9) rfl dX4_tryRoutes_4 ?_
  have bz1 := hcV 0
  refine lv_istore_n (lv' := [(2, .int (cV 0)), (0, .ref (qR 0)), (1, .ref (qY 0))]) hx hb dX4_tryRoutes_7 rfl hl (by decide) rfl (fun ls hl => ?_)
  refine lv_aload_n hx hb dX4_tryRoutes_8 rfl (lv_at hl 1 rfl) ?_
  have hPc := hP.sub (ws' := (List.flatten [(wSearch qR k vR aR)] ++ List.flatten ([] : List va_W))) [0, 1, 2] rfl
  have hC : [0, 1, 2].map (fun i => (List.flatten [(wSearch qR k vR aR), (wState (sY 0) k (vY 0) (nY 0) (aY 0)), (wState (sY 1) k (vY 1) (nY 1) (aY 1)), (wState (sY 2) k (vY 2) (nY 2) (aY 2)), (wState (sY 3) k (vY 3) (nY 3) (aY 3)), (wState (sY 4) k (vY 4) (nY 4) (aY 4)), (wState (sY 5) k (vY 5) (nY 5) (aY 5)), (wState (sY 6) k (vY 6) (nY 6) (aY 6)), (wState (sY 7) k (vY 7) (nY 7) (aY 7)), (wPlan qP k vP aP eP)] ++ List.flatten [(wStoO qY k (qV 0) (qP 0) (sY 0 0) (sY 1 0) (sY 2 0) (sY 3 0) (sY 4 0) (sY 5 0) (sY 6 0) (sY 7 0)), (wValley qV k vV bV cV wV aV eV)])[i]?) = (List.flatten [(wSearch qR k vR aR)] ++ List.flatten ([] : List va_W)).map some := rfl
  have hDc := hD.sub [0, 1, 2] (by decide) hC
  have hFc := va_free hD hS hA [0, 1, 2] hC
  refine va_callv (va_runV (As := []) (rest := []) ⟨hx, hb, hml, hown, hts⟩ (c_X4_begin l dC dI k s.heap.size qR vR aR) (cwV 0 hts (gk_V (wl_mem 2 rfl) (wl_mem 3 rfl) (wl_mem 4 rfl) (wl_mem 5 rfl) (fun w h => List.mem_cons_of_mem _ (List.mem_append_right _ (List.mem_append_right _ (List.mem_append_right _ (List.mem_append_left _ h))))) wkg_c_X4_begin) rfl rfl rfl (by decide +kernel) ⟨Nat.le_of_ble_eq_true rfl, Nat.le_of_ble_eq_true rfl⟩) ⟨fun a U g mk q => by obtain ⟨q0, q1, qP, qK, qD⟩ := q; exact ⟨q0, q1, qP, va_K.moved (u := U) (U := U.calling g mk a) (Vm.Alike.refl U.vm) qK, qD⟩, va_recv hK hPc (ci := 4) (q0 := 0) rfl rfl, fun U hU hW => ⟨rfl, by rw [hU], by rw [hU]; exact hPc, va_K.moved hW.alike hK, hDc.weaken (fun _ _ _ _ => trivial)⟩⟩ rfl rfl hl.1 rfl (lv_room (Nat.le_of_ble_eq_true rfl)) dX4_tryRoutes_9 ⟨Nat.le_of_ble_eq_true rfl, Nat.le_of_ble_eq_true rfl⟩) hS (fun q _ h => hFc q h) hFc (fun u t H1 locs ht hvm gz2 hB hz1 hk1 hS => ?_)
  obtain ⟨vz4, az5, hP1⟩ := hB
  rw [ht] at hP1
  obtain ⟨hP, hD⟩ := w_callC hP hD hk1 hP1 [0] rfl rfl (fun _ h => absurd h List.not_mem_nil) rfl
  clear hPc hC hDc hFc hk1 hP1
  generalize H1 = H at hP hS ⊢
  have hP : va_P (dC, dI) vwCl (List.flatten [(wSearch qR k vz4 az5), (wState (sY 0) k (vY 0) (nY 0) (aY 0)), (wState (sY 1) k (vY 1) (nY 1) (aY 1)), (wState (sY 2) k (vY 2) (nY 2) (aY 2)), (wState (sY 3) k (vY 3) (nY 3) (aY 3)), (wState (sY 4) k (vY 4) (nY 4) (aY 4)), (wState (sY 5) k (vY 5) (nY 5) (aY 5)), (wState (sY 6) k (vY 6) (nY 6) (aY 6)), (wState (sY 7) k (vY 7) (nY 7) (aY 7)), (wPlan qP k vP aP eP)] ++ List.flatten [(wStoO qY k (qV 0) (qP 0) (sY 0 0) (sY 1 0) (sY 2 0) (sY 3 0) (sY 4 0) (sY 5 0) (sY 6 0) (sY 7 0)), (wValley qV k vV bV cV wV aV eV)]) H := hP
  have hD : va_D A (List.flatten [(wSearch qR k vz4 az5), (wState (sY 0) k (vY 0) (nY 0) (aY 0)), (wState (sY 1) k (vY 1) (nY 1) (aY 1)), (wState (sY 2) k (vY 2) (nY 2) (aY 2)), (wState (sY 3) k (vY 3) (nY 3) (aY 3)), (wState (sY 4) k (vY 4) (nY 4) (aY 4)), (wState (sY 5) k (vY 5) (nY 5) (aY 5)), (wState (sY 6) k (vY 6) (nY 6) (aY 6)), (wState (sY 7) k (vY 7) (nY 7) (aY 7)), (wPlan qP k vP aP eP)] ++ List.flatten [(wStoO qY k (qV 0) (qP 0) (sY 0 0) (sY 1 0) (sY 2 0) (sY 3 0) (sY 4 0) (sY 5 0) (sY 6 0) (sY 7 0)), (wValley qV k vV bV cV wV aV eV)]) := hD
  refine W.widen (k := 0) (n := 0) (Nat.le_refl 0) (Nat.le_refl 0) ?_
  refine lv_iconst (v := 0) hx hb dX4_tryRoutes_12 (by decide) ?_
  refine lv_istore_n (lv' := [(3, .int 0), (2, .int (cV 0)), (0, .ref (qR 0)), (1, .ref (qY 0))]) hx hb dX4_tryRoutes_13 rfl hl (by decide) rfl (fun ls hl => ?_)
  have lp14_kz24 : ∀ (n9_14 : Nat) (H : Heap) (locs : List Loc) (ls : Array Slot) (az22 : Nat → Nat → Int32) (xz23 : Int32), (2147483647 - xz23.toInt).toNat < n9_14 → 0 ≤ xz23.toInt → va_P (dC, dI) vwCl (List.flatten [(wSearch qR k vz4 az22), (wState (sY 0) k (vY 0) (nY 0) (aY 0)), (wState (sY 1) k (vY 1) (nY 1) (aY 1)), (wState (sY 2) k (vY 2) (nY 2) (aY 2)), (wState (sY 3) k (vY 3) (nY 3) (aY 3)), (wState (sY 4) k (vY 4) (nY 4) (aY 4)), (wState (sY 5) k (vY 5) (nY 5) (aY 5)), (wState (sY 6) k (vY 6) (nY 6) (aY 6)), (wState (sY 7) k (vY 7) (nY 7) (aY 7)), (wPlan qP k vP aP eP)] ++ List.flatten [(wStoO qY k (qV 0) (qP 0) (sY 0 0) (sY 1 0) (sY 2 0) (sY 3 0) (sY 4 0) (sY 5 0) (sY 6 0) (sY 7 0)), (wValley qV k vV bV cV wV aV eV)]) H → va_D A (List.flatten [(wSearch qR k vz4 az22), (wState (sY 0) k (vY 0) (nY 0) (aY 0)), (wState (sY 1) k (vY 1) (nY 1) (aY 1)), (wState (sY 2) k (vY 2) (nY 2) (aY 2)), (wState (sY 3) k (vY 3) (nY 3) (aY 3)), (wState (sY 4) k (vY 4) (nY 4) (aY 4)), (wState (sY 5) k (vY 5) (nY 5) (aY 5)), (wState (sY 6) k (vY 6) (nY 6) (aY 6)), (wState (sY 7) k (vY 7) (nY 7) (aY 7)), (wPlan qP k vP aP eP)] ++ List.flatten [(wStoO qY k (qV 0) (qP 0) (sY 0 0) (sY 1 0) (sY 2 0) (sY 3 0) (sY 4 0) (sY 5 0) (sY 6 0) (sY 7 0)), (wValley qV k vV bV cV wV aV eV)]) → va_S A s.heap H locs → lv_has ls 6 [(0, .ref (qR 0)), (1, .ref (qY 0)), (2, .int (cV 0)), (3, .int xz23)] → W p l e (headSpec wk_c_X4_tryRoutes ({ frames := 3, cells := 0, slots := 0, locals := 131 })).room s m ([.ref (qR 0), .ref (qY 0)] : List Value).toArray below meth c H locs 0 0 Q (F0 m 14 ls []) := by
    intro n9_14
    induction n9_14 with
    | zero => intro H locs ls az22 xz23 hm; exact absurd hm (Nat.not_lt_zero _)
    | succ n9_14 ih14 =>
      intro H locs ls az22 xz23 hm14 jz25 hP hD hS hl
      refine lv_iload_n hx hb dX4_tryRoutes_14 rfl (lv_at hl 3 rfl) ?_
      refine lv_iload_n hx hb dX4_tryRoutes_15 rfl (lv_at hl 2 rfl) ?_
      refine lv_icmp_ge (tgt := 32) hx hb dX4_tryRoutes_16 (by decide) (fun cz26 => ?_) (fun cz26 => ?_)
      · skip
        have bz27 := fb_rng xz23
        have zz28 : (cV 0).toInt ≤ xz23.toInt := zi_le.mp cz26
        refine lv_iconst (v := 0) hx hb dX4_tryRoutes_32 (by decide) ?_
        refine lv_istore_n (lv' := [(3, .int 0), (0, .ref (qR 0)), (1, .ref (qY 0)), (2, .int (cV 0))]) hx hb dX4_tryRoutes_33 rfl hl (by decide) rfl (fun ls hl => ?_)
        refine lv_iconst (v := 0) hx hb dX4_tryRoutes_34 (by decide) ?_
        refine lv_istore (lv' := [(4, .int 0), (3, .int 0), (0, .ref (qR 0)), (1, .ref (qY 0)), (2, .int (cV 0))]) hx hb dX4_tryRoutes_35 hl (by decide) rfl (fun ls hl => ?_)
        have lp37_kz189 : ∀ (n9_37 : Nat) (H : Heap) (locs : List Loc) (ls : Array Slot) (az181 : Nat → Nat → Int32) (az182 : Nat → Nat → Int32) (vz183 : Nat → Int32) (az184 : Nat → Nat → Nat → Int32) (nz185 : Nat → Nat → Int32) (vz186 : Nat → Nat → Int32) (xz187 : Int32) (xz188 : Int32), (2147483647 - xz188.toInt).toNat < n9_37 → (∀ t9, Rg 0 8 (nz185 t9)) → 0 ≤ xz188.toInt → va_P (dC, dI) vwCl (List.flatten [(wSearch qR k vz183 az182), (wState (sY 0) k (vz186 0) (nz185 0) (az184 0)), (wState (sY 1) k (vz186 1) (nz185 1) (az184 1)), (wState (sY 2) k (vz186 2) (nz185 2) (az184 2)), (wState (sY 3) k (vz186 3) (nz185 3) (az184 3)), (wState (sY 4) k (vz186 4) (nz185 4) (az184 4)), (wState (sY 5) k (vz186 5) (nz185 5) (az184 5)), (wState (sY 6) k (vz186 6) (nz185 6) (az184 6)), (wState (sY 7) k (vz186 7) (nz185 7) (az184 7)), (wPlan qP k vP az181 eP)] ++ List.flatten [(wStoO qY k (qV 0) (qP 0) (sY 0 0) (sY 1 0) (sY 2 0) (sY 3 0) (sY 4 0) (sY 5 0) (sY 6 0) (sY 7 0)), (wValley qV k vV bV cV wV aV eV)]) H → va_D A (List.flatten [(wSearch qR k vz183 az182), (wState (sY 0) k (vz186 0) (nz185 0) (az184 0)), (wState (sY 1) k (vz186 1) (nz185 1) (az184 1)), (wState (sY 2) k (vz186 2) (nz185 2) (az184 2)), (wState (sY 3) k (vz186 3) (nz185 3) (az184 3)), (wState (sY 4) k (vz186 4) (nz185 4) (az184 4)), (wState (sY 5) k (vz186 5) (nz185 5) (az184 5)), (wState (sY 6) k (vz186 6) (nz185 6) (az184 6)), (wState (sY 7) k (vz186 7) (nz185 7) (az184 7)), (wPlan qP k vP az181 eP)] ++ List.flatten [(wStoO qY k (qV 0) (qP 0) (sY 0 0) (sY 1 0) (sY 2 0) (sY 3 0) (sY 4 0) (sY 5 0) (sY 6 0) (sY 7 0)), (wValley qV k vV bV cV wV aV eV)]) → va_S A s.heap H locs → lv_has ls 6 [(0, .ref (qR 0)), (1, .ref (qY 0)), (2, .int (cV 0)), (3, .int xz187), (4, .int xz188)] → W p l e (headSpec wk_c_X4_tryRoutes ({ frames := 3, cells := 0, slots := 0, locals := 131 })).room s m ([.ref (qR 0), .ref (qY 0)] : List Value).toArray below meth c H locs 0 0 Q (F0 m 37 ls []) := by
          intro n9_37
          induction n9_37 with
          | zero => intro H locs ls az181 az182 vz183 az184 nz185 vz186 xz187 xz188 hm; exact absurd hm (Nat.not_lt_zero _)
          | succ n9_37 ih37 =>
            intro H locs ls az181 az182 vz183 az184 nz185 vz186 xz187 xz188 hm37 hnz185 jz190 hP hD hS hl
            refine lv_iload hx hb dX4_tryRoutes_37 (lv_at hl 4 rfl) ?_
            refine lv_sipush (v := 5040) hx hb dX4_tryRoutes_39 (by decide) ?_
            refine lv_icmp_ge (tgt := 116) hx hb dX4_tryRoutes_42 (by decide) (fun cz191 => ?_) (fun cz191 => ?_)
            · skip
              have bz192 := fb_rng xz188
              have zz193 : (5040 : Int) ≤ xz188.toInt := zi_le.mp cz191
              rw [hQ]
              exact W.vret hx hb hr (fun t ht hW => ⟨⟨(), rfl, trivial, vz183, az182, vz186, nz185, az184, vP, az181, eP, hnz185, heP, by rw [ht]; exact hP⟩, hS.F ht⟩) hS.2.2 dX4_tryRoutes_116
            · skip
              have bz194 := fb_rng xz188
              have zz195 : ¬ (5040 : Int) ≤ xz188.toInt := fun h9 => cz191 (zi_le.mpr h9)
              refine lv_iload_n hx hb dX4_tryRoutes_45 rfl (lv_at hl 3 rfl) ?_
              refine lv_if_lt (tgt := 116) hx hb dX4_tryRoutes_46 (by decide) (fun cz196 => ?_) (fun cz196 => ?_)
              · skip
                have bz197 := fb_rng xz187
                have zz198 : xz187.toInt < (0 : Int) := zi_lt.mp cz196
                rw [hQ]
                exact W.vret hx hb hr (fun t ht hW => ⟨⟨(), rfl, trivial, vz183, az182, vz186, nz185, az184, vP, az181, eP, hnz185, heP, by rw [ht]; exact hP⟩, hS.F ht⟩) hS.2.2 dX4_tryRoutes_116
              · skip
                have bz199 := fb_rng xz187
                have zz200 : ¬ xz187.toInt < (0 : Int) := fun h9 => cz196 (zi_lt.mpr h9)
                refine lv_iload_n hx hb dX4_tryRoutes_49 rfl (lv_at hl 3 rfl) ?_
                refine lv_istore (lv' := [(5, .int xz187), (0, .ref (qR 0)), (1, .ref (qY 0)), (2, .int (cV 0)), (3, .int xz187), (4, .int xz188)]) hx hb dX4_tryRoutes_50 hl (by decide) rfl (fun ls hl => ?_)
                have lp52_kz228 : ∀ (n9_52 : Nat) (H : Heap) (locs : List Loc) (ls : Array Slot) (az223 : Nat → Nat → Int32) (az224 : Nat → Nat → Nat → Int32) (nz225 : Nat → Nat → Int32) (vz226 : Nat → Nat → Int32) (xz227 : Int32), (2147483647 - xz227.toInt).toNat < n9_52 → (∀ t9, Rg 0 8 (nz225 t9)) → 0 ≤ xz227.toInt → va_P (dC, dI) vwCl (List.flatten [(wSearch qR k vz183 az182), (wState (sY 0) k (vz226 0) (nz225 0) (az224 0)), (wState (sY 1) k (vz226 1) (nz225 1) (az224 1)), (wState (sY 2) k (vz226 2) (nz225 2) (az224 2)), (wState (sY 3) k (vz226 3) (nz225 3) (az224 3)), (wState (sY 4) k (vz226 4) (nz225 4) (az224 4)), (wState (sY 5) k (vz226 5) (nz225 5) (az224 5)), (wState (sY 6) k (vz226 6) (nz225 6) (az224 6)), (wState (sY 7) k (vz226 7) (nz225 7) (az224 7)), (wPlan qP k vP az223 eP)] ++ List.flatten [(wStoO qY k (qV 0) (qP 0) (sY 0 0) (sY 1 0) (sY 2 0) (sY 3 0) (sY 4 0) (sY 5 0) (sY 6 0) (sY 7 0)), (wValley qV k vV bV cV wV aV eV)]) H → va_D A (List.flatten [(wSearch qR k vz183 az182), (wState (sY 0) k (vz226 0) (nz225 0) (az224 0)), (wState (sY 1) k (vz226 1) (nz225 1) (az224 1)), (wState (sY 2) k (vz226 2) (nz225 2) (az224 2)), (wState (sY 3) k (vz226 3) (nz225 3) (az224 3)), (wState (sY 4) k (vz226 4) (nz225 4) (az224 4)), (wState (sY 5) k (vz226 5) (nz225 5) (az224 5)), (wState (sY 6) k (vz226 6) (nz225 6) (az224 6)), (wState (sY 7) k (vz226 7) (nz225 7) (az224 7)), (wPlan qP k vP az223 eP)] ++ List.flatten [(wStoO qY k (qV 0) (qP 0) (sY 0 0) (sY 1 0) (sY 2 0) (sY 3 0) (sY 4 0) (sY 5 0) (sY 6 0) (sY 7 0)), (wValley qV k vV bV cV wV aV eV)]) → va_S A s.heap H locs → lv_has ls 6 [(0, .ref (qR 0)), (1, .ref (qY 0)), (2, .int (cV 0)), (4, .int xz188), (5, .int xz227)] → W p l e (headSpec wk_c_X4_tryRoutes ({ frames := 3, cells := 0, slots := 0, locals := 131 })).room s m ([.ref (qR 0), .ref (qY 0)] : List Value).toArray below meth c H locs 0 0 Q (F0 m 52 ls []) := by
                  intro n9_52
                  induction n9_52 with
                  | zero => intro H locs ls az223 az224 nz225 vz226 xz227 hm; exact absurd hm (Nat.not_lt_zero _)
                  | succ n9_52 ih52 =>
                    intro H locs ls az223 az224 nz225 vz226 xz227 hm52 hnz225 jz229 hP hD hS hl
                    refine lv_iload hx hb dX4_tryRoutes_52 (lv_at hl 4 rfl) ?_
                    refine lv_iload_n hx hb dX4_tryRoutes_54 rfl (lv_at hl 2 rfl) ?_
                    refine lv_icmp_ge (tgt := 89) hx hb dX4_tryRoutes_55 (by decide) (fun cz230 => ?_) (fun cz230 => ?_)
                    · skip
                      have bz231 := fb_rng xz227
                      have zz232 : (cV 0).toInt ≤ xz227.toInt := zi_le.mp cz230
                      refine lv_aload_n hx hb dX4_tryRoutes_89 rfl (lv_at hl 0 rfl) ?_
                      refine lv_aload_n hx hb dX4_tryRoutes_90 rfl (lv_at hl 1 rfl) ?_
                      have hPc : va_P (dC, dI) vwCl (List.flatten [(wStoO qY k (qV 0) (qP 0) (sY 0 0) (sY 1 0) (sY 2 0) (sY 3 0) (sY 4 0) (sY 5 0) (sY 6 0) (sY 7 0)), (wState (sY 0) k (vz226 0) (nz225 0) (az224 0)), (wState (sY 1) k (vz226 1) (nz225 1) (az224 1)), (wState (sY 2) k (vz226 2) (nz225 2) (az224 2)), (wState (sY 3) k (vz226 3) (nz225 3) (az224 3)), (wState (sY 4) k (vz226 4) (nz225 4) (az224 4)), (wState (sY 5) k (vz226 5) (nz225 5) (az224 5)), (wState (sY 6) k (vz226 6) (nz225 6) (az224 6)), (wState (sY 7) k (vz226 7) (nz225 7) (az224 7)), (wValley qV k vV bV cV wV aV eV)]) H := wc_subP1 hP [10, 1, 2, 3, 4, 5, 6, 7, 8, 11] rfl
                      refine va_csr (va_Run.run (va_runV (As := []) (rest := [.ref (qR 0)]) ⟨hx, hb, hml, hown, hts⟩ (c_X8_atEnd l dC dI k qY sY (qP 0) vz226 nz225 az224 qV vV bV cV wV aV eV hnz225 hbV hcV hwV heV) (cwV 0 hts (gk_V (wl_mem 13 rfl) (wl_mem 14 rfl) (wl_mem 15 rfl) (wl_mem 12 rfl) (fun w h => List.mem_cons_of_mem _ (List.mem_append_right _ (List.mem_append_right _ (List.mem_append_right _ (List.mem_append_right _ (List.mem_append_right _ (List.mem_append_right _ (List.mem_append_right _ (List.mem_append_left _ h))))))))) wkg_c_X8_atEnd) rfl rfl rfl (by decide +kernel) ⟨Nat.le_of_ble_eq_true rfl, Nat.le_of_ble_eq_true rfl⟩) ⟨fun a U g mk q => by obtain ⟨q0, qP, qK⟩ := q; exact ⟨q0, qP, va_K.moved (u := U) (U := U.calling g mk a) (Vm.Alike.refl U.vm) qK⟩, va_recv hK hPc (ci := 8) (q0 := 0) rfl rfl, fun U hU hW => ⟨rfl, by rw [hU]; exact hPc, va_K.moved hW.alike hK⟩⟩ rfl rfl hl.1 rfl (lv_room (Nat.le_of_ble_eq_true rfl)) dX4_tryRoutes_91 ⟨Nat.le_of_ble_eq_true rfl, Nat.le_of_ble_eq_true rfl⟩)) (fun rz234 gz233 => ?_)
                      clear hPc
                      rcases gz233 with rfl | rfl | rfl | rfl | rfl | rfl | rfl | rfl
                      · skip
                        refine W.eq (g2 := F0 m 94 ls [.ref (sY 0 0), .ref (qR 0)]) rfl ?_
                        have hPc := hP.sub (ws' := (List.flatten [(wSearch qR k vz183 az182)] ++ List.flatten [(wState (sY 0) k (vz226 0) (nz225 0) (az224 0))])) [0, 1, 2, 3, 4, 5, 6, 7, 8, 9, 10, 11, 12, 13] rfl
                        have hC : [0, 1, 2, 3, 4, 5, 6, 7, 8, 9, 10, 11, 12, 13].map (fun i => (List.flatten [(wSearch qR k vz183 az182), (wState (sY 0) k (vz226 0) (nz225 0) (az224 0)), (wState (sY 1) k (vz226 1) (nz225 1) (az224 1)), (wState (sY 2) k (vz226 2) (nz225 2) (az224 2)), (wState (sY 3) k (vz226 3) (nz225 3) (az224 3)), (wState (sY 4) k (vz226 4) (nz225 4) (az224 4)), (wState (sY 5) k (vz226 5) (nz225 5) (az224 5)), (wState (sY 6) k (vz226 6) (nz225 6) (az224 6)), (wState (sY 7) k (vz226 7) (nz225 7) (az224 7)), (wPlan qP k vP az223 eP)] ++ List.flatten [(wStoO qY k (qV 0) (qP 0) (sY 0 0) (sY 1 0) (sY 2 0) (sY 3 0) (sY 4 0) (sY 5 0) (sY 6 0) (sY 7 0)), (wValley qV k vV bV cV wV aV eV)])[i]?) = (List.flatten [(wSearch qR k vz183 az182)] ++ List.flatten [(wState (sY 0) k (vz226 0) (nz225 0) (az224 0))]).map some := rfl
                        have hDc := hD.sub [0, 1, 2, 3, 4, 5, 6, 7, 8, 9, 10, 11, 12, 13] (by decide) hC
                        have hFc := va_free hD hS hA [0, 1, 2, 3, 4, 5, 6, 7, 8, 9, 10, 11, 12, 13] hC
                        refine va_callv (va_runV (As := [.ref (sY 0 0)]) (rest := []) ⟨hx, hb, hml, hown, hts⟩ (c_X4_weigh l dC dI k H.size qR vz183 az182 (sY 0) (vz226 0) (nz225 0) (az224 0) (hnz225 0)) (cwV 1 hts (gk_V (wl_mem 16 rfl) (wl_mem 17 rfl) (wl_mem 18 rfl) (wl_mem 5 rfl) (fun w h => List.mem_cons_of_mem _ (List.mem_append_right _ (List.mem_append_right _ (List.mem_append_right _ (List.mem_append_right _ (List.mem_append_right _ (List.mem_append_right _ (List.mem_append_right _ (List.mem_append_right _ (List.mem_append_left _ h)))))))))) wkg_c_X4_weigh) rfl rfl rfl (by decide +kernel) ⟨Nat.le_of_ble_eq_true rfl, Nat.le_of_ble_eq_true rfl⟩) ⟨fun a U g mk q => by obtain ⟨q0, q1, qP, qK, qD⟩ := q; exact ⟨q0, q1, qP, va_K.moved (u := U) (U := U.calling g mk a) (Vm.Alike.refl U.vm) qK, qD⟩, va_recv hK hPc (ci := 4) (q0 := 0) rfl rfl, fun U hU hW => ⟨rfl, by rw [hU], by rw [hU]; exact hPc, va_K.moved hW.alike hK, hDc.weaken (fun _ _ _ _ => trivial)⟩⟩ rfl rfl hl.1 rfl (lv_room (Nat.le_of_ble_eq_true rfl)) dX4_tryRoutes_94 ⟨Nat.le_of_ble_eq_true rfl, Nat.le_of_ble_eq_true rfl⟩) hS (fun q _ h => hFc q h) hFc (fun u t H1 locs ht hvm gz235 hB hz1 hk1 hS => ?_)
                        obtain ⟨vz237, az238, hP1⟩ := hB
                        rw [ht] at hP1
                        obtain ⟨hP, hD⟩ := w_callC hP hD hk1 hP1 [0] rfl rfl (wk_memC [1] rfl) rfl
                        clear hPc hC hDc hFc hk1 hP1
                        generalize H1 = H at hP hS ⊢
                        have hP : va_P (dC, dI) vwCl (List.flatten [(wSearch qR k vz237 az238), (wState (sY 0) k (vz226 0) (nz225 0) (az224 0)), (wState (sY 1) k (vz226 1) (nz225 1) (az224 1)), (wState (sY 2) k (vz226 2) (nz225 2) (az224 2)), (wState (sY 3) k (vz226 3) (nz225 3) (az224 3)), (wState (sY 4) k (vz226 4) (nz225 4) (az224 4)), (wState (sY 5) k (vz226 5) (nz225 5) (az224 5)), (wState (sY 6) k (vz226 6) (nz225 6) (az224 6)), (wState (sY 7) k (vz226 7) (nz225 7) (az224 7)), (wPlan qP k vP az223 eP)] ++ List.flatten [(wStoO qY k (qV 0) (qP 0) (sY 0 0) (sY 1 0) (sY 2 0) (sY 3 0) (sY 4 0) (sY 5 0) (sY 6 0) (sY 7 0)), (wValley qV k vV bV cV wV aV eV)]) H := hP
                        have hD : va_D A (List.flatten [(wSearch qR k vz237 az238), (wState (sY 0) k (vz226 0) (nz225 0) (az224 0)), (wState (sY 1) k (vz226 1) (nz225 1) (az224 1)), (wState (sY 2) k (vz226 2) (nz225 2) (az224 2)), (wState (sY 3) k (vz226 3) (nz225 3) (az224 3)), (wState (sY 4) k (vz226 4) (nz225 4) (az224 4)), (wState (sY 5) k (vz226 5) (nz225 5) (az224 5)), (wState (sY 6) k (vz226 6) (nz225 6) (az224 6)), (wState (sY 7) k (vz226 7) (nz225 7) (az224 7)), (wPlan qP k vP az223 eP)] ++ List.flatten [(wStoO qY k (qV 0) (qP 0) (sY 0 0) (sY 1 0) (sY 2 0) (sY 3 0) (sY 4 0) (sY 5 0) (sY 6 0) (sY 7 0)), (wValley qV k vV bV cV wV aV eV)]) := hD
                        refine W.widen (k := 0) (n := 0) (Nat.le_refl 0) (Nat.le_refl 0) ?_
                        refine lv_aload_n hx hb dX4_tryRoutes_97 rfl (lv_at hl 0 rfl) ?_
                        refine lv_iload_n hx hb dX4_tryRoutes_98 rfl (lv_at hl 2 rfl) ?_
                        refine lv_aload_n hx hb dX4_tryRoutes_99 rfl (lv_at hl 1 rfl) ?_
                        refine va_get (D := (dC, dI)) (ci := 8) (v := .ref (qV 0)) (C := RX8) (T := TX8) (N := 4) hx hb hts (fun w h => List.mem_cons_of_mem _ (List.mem_append_right _ (List.mem_append_left _ h))) hown hK hP 94 rfl rfl 0 (by decide) (hts (.fieldLink RX4 18 "SagMemory$Story" "valley" "LSagMemory$Valley;") (wl_mem 0 rfl)) (fun _ h9 => h9) rfl dX4_tryRoutes_100 ?_
                        refine va_get (D := (dC, dI)) (ci := 10) (v := .int (bV 0)) (C := RX10) (T := TX10) (N := 16) hx hb hts (fun w h => List.mem_cons_of_mem _ (List.mem_append_right _ (List.mem_append_right _ (List.mem_append_left _ h)))) hown hK hP 96 rfl rfl 11 (by decide) (hts (.fieldLink RX4 58 "SagMemory$Valley" "bridges" "I") (wl_mem 19 rfl)) (fun _ h9 => h9) rfl dX4_tryRoutes_103 ?_
                        have bz239 := hbV 0
                        have hPc := hP.sub (ws' := (List.flatten [(wSearch qR k vz237 az238)] ++ List.flatten ([] : List va_W))) [0, 1, 2] rfl
                        have hC : [0, 1, 2].map (fun i => (List.flatten [(wSearch qR k vz237 az238), (wState (sY 0) k (vz226 0) (nz225 0) (az224 0)), (wState (sY 1) k (vz226 1) (nz225 1) (az224 1)), (wState (sY 2) k (vz226 2) (nz225 2) (az224 2)), (wState (sY 3) k (vz226 3) (nz225 3) (az224 3)), (wState (sY 4) k (vz226 4) (nz225 4) (az224 4)), (wState (sY 5) k (vz226 5) (nz225 5) (az224 5)), (wState (sY 6) k (vz226 6) (nz225 6) (az224 6)), (wState (sY 7) k (vz226 7) (nz225 7) (az224 7)), (wPlan qP k vP az223 eP)] ++ List.flatten [(wStoO qY k (qV 0) (qP 0) (sY 0 0) (sY 1 0) (sY 2 0) (sY 3 0) (sY 4 0) (sY 5 0) (sY 6 0) (sY 7 0)), (wValley qV k vV bV cV wV aV eV)])[i]?) = (List.flatten [(wSearch qR k vz237 az238)] ++ List.flatten ([] : List va_W)).map some := rfl
                        have hDc := hD.sub [0, 1, 2] (by decide) hC
                        have hFc := va_free hD hS hA [0, 1, 2] hC
                        refine va_calli (va_runV (As := [.int (cV 0), .int (bV 0)]) (rest := []) ⟨hx, hb, hml, hown, hts⟩ (c_X4_nextRoute l dC dI k H.size qR vz237 az238 (cV 0) (bV 0) (by show 0 ≤ (cV 0).toInt ∧ (cV 0).toInt ≤ 7; omega)) (cwV 2 hts (gk_V (wl_mem 20 rfl) (wl_mem 21 rfl) (wl_mem 22 rfl) (wl_mem 5 rfl) (fun w h => List.mem_cons_of_mem _ (List.mem_append_right _ (List.mem_append_right _ (List.mem_append_right _ (List.mem_append_right _ (List.mem_append_right _ (List.mem_append_right _ (List.mem_append_right _ (List.mem_append_right _ (List.mem_append_right _ (List.mem_append_left _ h))))))))))) wkg_c_X4_nextRoute) rfl rfl rfl (by decide +kernel) ⟨Nat.le_of_ble_eq_true rfl, Nat.le_of_ble_eq_true rfl⟩) ⟨fun a U g mk q => by obtain ⟨q0, q1, qP, qK, qD⟩ := q; exact ⟨q0, q1, qP, va_K.moved (u := U) (U := U.calling g mk a) (Vm.Alike.refl U.vm) qK, qD⟩, va_recv hK hPc (ci := 4) (q0 := 0) rfl rfl, fun U hU hW => ⟨rfl, by rw [hU], by rw [hU]; exact hPc, va_K.moved hW.alike hK, hDc.weaken (fun _ _ _ _ => trivial)⟩⟩ rfl rfl hl.1 rfl (lv_room (Nat.le_of_ble_eq_true rfl)) dX4_tryRoutes_106 ⟨Nat.le_of_ble_eq_true rfl, Nat.le_of_ble_eq_true rfl⟩) hS (fun q _ h => hFc q h) hFc (fun rz241 u t H1 locs ht hvm gz240 hB hz1 hk1 hS => ?_)
                        obtain ⟨vz242, az243, hP1⟩ := hB
                        rw [ht] at hP1
                        obtain ⟨hP, hD⟩ := w_callC hP hD hk1 hP1 [0] rfl rfl (fun _ h => absurd h List.not_mem_nil) rfl
                        clear hPc hC hDc hFc hk1 hP1
                        generalize H1 = H at hP hS ⊢
                        have hP : va_P (dC, dI) vwCl (List.flatten [(wSearch qR k vz242 az243), (wState (sY 0) k (vz226 0) (nz225 0) (az224 0)), (wState (sY 1) k (vz226 1) (nz225 1) (az224 1)), (wState (sY 2) k (vz226 2) (nz225 2) (az224 2)), (wState (sY 3) k (vz226 3) (nz225 3) (az224 3)), (wState (sY 4) k (vz226 4) (nz225 4) (az224 4)), (wState (sY 5) k (vz226 5) (nz225 5) (az224 5)), (wState (sY 6) k (vz226 6) (nz225 6) (az224 6)), (wState (sY 7) k (vz226 7) (nz225 7) (az224 7)), (wPlan qP k vP az223 eP)] ++ List.flatten [(wStoO qY k (qV 0) (qP 0) (sY 0 0) (sY 1 0) (sY 2 0) (sY 3 0) (sY 4 0) (sY 5 0) (sY 6 0) (sY 7 0)), (wValley qV k vV bV cV wV aV eV)]) H := hP
                        have hD : va_D A (List.flatten [(wSearch qR k vz242 az243), (wState (sY 0) k (vz226 0) (nz225 0) (az224 0)), (wState (sY 1) k (vz226 1) (nz225 1) (az224 1)), (wState (sY 2) k (vz226 2) (nz225 2) (az224 2)), (wState (sY 3) k (vz226 3) (nz225 3) (az224 3)), (wState (sY 4) k (vz226 4) (nz225 4) (az224 4)), (wState (sY 5) k (vz226 5) (nz225 5) (az224 5)), (wState (sY 6) k (vz226 6) (nz225 6) (az224 6)), (wState (sY 7) k (vz226 7) (nz225 7) (az224 7)), (wPlan qP k vP az223 eP)] ++ List.flatten [(wStoO qY k (qV 0) (qP 0) (sY 0 0) (sY 1 0) (sY 2 0) (sY 3 0) (sY 4 0) (sY 5 0) (sY 6 0) (sY 7 0)), (wValley qV k vV bV cV wV aV eV)]) := hD
                        refine W.widen (k := 0) (n := 0) (Nat.le_refl 0) (Nat.le_refl 0) ?_
                        have pz244 := gz240
                        have pz244 : (-1) ≤ rz241.toInt ∧ rz241.toInt ≤ 6 := pz244
                        refine lv_istore_n (lv' := [(3, .int rz241), (0, .ref (qR 0)), (1, .ref (qY 0)), (2, .int (cV 0)), (4, .int xz188), (5, .int xz227)]) hx hb dX4_tryRoutes_109 rfl hl (by decide) rfl (fun ls hl => ?_)
                        obtain ⟨xz245, exz245⟩ : ∃ y : Int32, y = xz188 + Int32.ofInt (1) := ⟨_, rfl⟩
                        have fxz245 : xz245.toInt = xz188.toInt + (1) := by rw [exz245]; exact fb_addI (y := Int32.ofInt (1)) (by show -2147483648 ≤ xz188.toInt + (1); omega) (by show xz188.toInt + (1) < 2147483648; omega)
                        refine lv_iinc (v := xz245) (lv' := [(4, .int xz245), (3, .int rz241), (0, .ref (qR 0)), (1, .ref (qY 0)), (2, .int (cV 0)), (5, .int xz227)]) hx hb dX4_tryRoutes_110 hl (k := 4) rfl exz245.symm (by decide) rfl (fun ls hl => ?_)
                        refine lv_goto (tgt := 37) hx hb dX4_tryRoutes_113 (by decide) ?_
                        exact ih37 H locs ls az223 az243 vz242 az224 nz225 vz226 rz241 xz245 (by show (2147483647 - xz245.toInt).toNat < n9_37; omega) hnz225 (by show 0 ≤ xz245.toInt; omega) hP hD hS (lv_sub hl [2, 3, 4, 1, 0] rfl)
                      · skip
                        refine W.eq (g2 := F0 m 94 ls [.ref (sY 1 0), .ref (qR 0)]) rfl ?_
                        have hPc := hP.sub (ws' := (List.flatten [(wSearch qR k vz183 az182)] ++ List.flatten [(wState (sY 1) k (vz226 1) (nz225 1) (az224 1))])) [0, 1, 2, 14, 15, 16, 17, 18, 19, 20, 21, 22, 23, 24] rfl
                        have hC : [0, 1, 2, 14, 15, 16, 17, 18, 19, 20, 21, 22, 23, 24].map (fun i => (List.flatten [(wSearch qR k vz183 az182), (wState (sY 0) k (vz226 0) (nz225 0) (az224 0)), (wState (sY 1) k (vz226 1) (nz225 1) (az224 1)), (wState (sY 2) k (vz226 2) (nz225 2) (az224 2)), (wState (sY 3) k (vz226 3) (nz225 3) (az224 3)), (wState (sY 4) k (vz226 4) (nz225 4) (az224 4)), (wState (sY 5) k (vz226 5) (nz225 5) (az224 5)), (wState (sY 6) k (vz226 6) (nz225 6) (az224 6)), (wState (sY 7) k (vz226 7) (nz225 7) (az224 7)), (wPlan qP k vP az223 eP)] ++ List.flatten [(wStoO qY k (qV 0) (qP 0) (sY 0 0) (sY 1 0) (sY 2 0) (sY 3 0) (sY 4 0) (sY 5 0) (sY 6 0) (sY 7 0)), (wValley qV k vV bV cV wV aV eV)])[i]?) = (List.flatten [(wSearch qR k vz183 az182)] ++ List.flatten [(wState (sY 1) k (vz226 1) (nz225 1) (az224 1))]).map some := rfl
                        have hDc := hD.sub [0, 1, 2, 14, 15, 16, 17, 18, 19, 20, 21, 22, 23, 24] (by decide) hC
                        have hFc := va_free hD hS hA [0, 1, 2, 14, 15, 16, 17, 18, 19, 20, 21, 22, 23, 24] hC
                        refine va_callv (va_runV (As := [.ref (sY 1 0)]) (rest := []) ⟨hx, hb, hml, hown, hts⟩ (c_X4_weigh l dC dI k H.size qR vz183 az182 (sY 1) (vz226 1) (nz225 1) (az224 1) (hnz225 1)) (cwV 1 hts (gk_V (wl_mem 16 rfl) (wl_mem 17 rfl) (wl_mem 18 rfl) (wl_mem 5 rfl) (fun w h => List.mem_cons_of_mem _ (List.mem_append_right _ (List.mem_append_right _ (List.mem_append_right _ (List.mem_append_right _ (List.mem_append_right _ (List.mem_append_right _ (List.mem_append_right _ (List.mem_append_right _ (List.mem_append_left _ h)))))))))) wkg_c_X4_weigh) rfl rfl rfl (by decide +kernel) ⟨Nat.le_of_ble_eq_true rfl, Nat.le_of_ble_eq_true rfl⟩) ⟨fun a U g mk q => by obtain ⟨q0, q1, qP, qK, qD⟩ := q; exact ⟨q0, q1, qP, va_K.moved (u := U) (U := U.calling g mk a) (Vm.Alike.refl U.vm) qK, qD⟩, va_recv hK hPc (ci := 4) (q0 := 0) rfl rfl, fun U hU hW => ⟨rfl, by rw [hU], by rw [hU]; exact hPc, va_K.moved hW.alike hK, hDc.weaken (fun _ _ _ _ => trivial)⟩⟩ rfl rfl hl.1 rfl (lv_room (Nat.le_of_ble_eq_true rfl)) dX4_tryRoutes_94 ⟨Nat.le_of_ble_eq_true rfl, Nat.le_of_ble_eq_true rfl⟩) hS (fun q _ h => hFc q h) hFc (fun u t H1 locs ht hvm gz246 hB hz1 hk1 hS => ?_)
                        obtain ⟨vz248, az249, hP1⟩ := hB
                        rw [ht] at hP1
                        obtain ⟨hP, hD⟩ := w_callC hP hD hk1 hP1 [0] rfl rfl (wk_memC [2] rfl) rfl
                        clear hPc hC hDc hFc hk1 hP1
                        generalize H1 = H at hP hS ⊢
                        have hP : va_P (dC, dI) vwCl (List.flatten [(wSearch qR k vz248 az249), (wState (sY 0) k (vz226 0) (nz225 0) (az224 0)), (wState (sY 1) k (vz226 1) (nz225 1) (az224 1)), (wState (sY 2) k (vz226 2) (nz225 2) (az224 2)), (wState (sY 3) k (vz226 3) (nz225 3) (az224 3)), (wState (sY 4) k (vz226 4) (nz225 4) (az224 4)), (wState (sY 5) k (vz226 5) (nz225 5) (az224 5)), (wState (sY 6) k (vz226 6) (nz225 6) (az224 6)), (wState (sY 7) k (vz226 7) (nz225 7) (az224 7)), (wPlan qP k vP az223 eP)] ++ List.flatten [(wStoO qY k (qV 0) (qP 0) (sY 0 0) (sY 1 0) (sY 2 0) (sY 3 0) (sY 4 0) (sY 5 0) (sY 6 0) (sY 7 0)), (wValley qV k vV bV cV wV aV eV)]) H := hP
                        have hD : va_D A (List.flatten [(wSearch qR k vz248 az249), (wState (sY 0) k (vz226 0) (nz225 0) (az224 0)), (wState (sY 1) k (vz226 1) (nz225 1) (az224 1)), (wState (sY 2) k (vz226 2) (nz225 2) (az224 2)), (wState (sY 3) k (vz226 3) (nz225 3) (az224 3)), (wState (sY 4) k (vz226 4) (nz225 4) (az224 4)), (wState (sY 5) k (vz226 5) (nz225 5) (az224 5)), (wState (sY 6) k (vz226 6) (nz225 6) (az224 6)), (wState (sY 7) k (vz226 7) (nz225 7) (az224 7)), (wPlan qP k vP az223 eP)] ++ List.flatten [(wStoO qY k (qV 0) (qP 0) (sY 0 0) (sY 1 0) (sY 2 0) (sY 3 0) (sY 4 0) (sY 5 0) (sY 6 0) (sY 7 0)), (wValley qV k vV bV cV wV aV eV)]) := hD
                        refine W.widen (k := 0) (n := 0) (Nat.le_refl 0) (Nat.le_refl 0) ?_
                        refine lv_aload_n hx hb dX4_tryRoutes_97 rfl (lv_at hl 0 rfl) ?_
                        refine lv_iload_n hx hb dX4_tryRoutes_98 rfl (lv_at hl 2 rfl) ?_
                        refine lv_aload_n hx hb dX4_tryRoutes_99 rfl (lv_at hl 1 rfl) ?_
                        refine va_get (D := (dC, dI)) (ci := 8) (v := .ref (qV 0)) (C := RX8) (T := TX8) (N := 4) hx hb hts (fun w h => List.mem_cons_of_mem _ (List.mem_append_right _ (List.mem_append_left _ h))) hown hK hP 94 rfl rfl 0 (by decide) (hts (.fieldLink RX4 18 "SagMemory$Story" "valley" "LSagMemory$Valley;") (wl_mem 0 rfl)) (fun _ h9 => h9) rfl dX4_tryRoutes_100 ?_
                        refine va_get (D := (dC, dI)) (ci := 10) (v := .int (bV 0)) (C := RX10) (T := TX10) (N := 16) hx hb hts (fun w h => List.mem_cons_of_mem _ (List.mem_append_right _ (List.mem_append_right _ (List.mem_append_left _ h)))) hown hK hP 96 rfl rfl 11 (by decide) (hts (.fieldLink RX4 58 "SagMemory$Valley" "bridges" "I") (wl_mem 19 rfl)) (fun _ h9 => h9) rfl dX4_tryRoutes_103 ?_
                        have bz250 := hbV 0
                        have hPc := hP.sub (ws' := (List.flatten [(wSearch qR k vz248 az249)] ++ List.flatten ([] : List va_W))) [0, 1, 2] rfl
                        have hC : [0, 1, 2].map (fun i => (List.flatten [(wSearch qR k vz248 az249), (wState (sY 0) k (vz226 0) (nz225 0) (az224 0)), (wState (sY 1) k (vz226 1) (nz225 1) (az224 1)), (wState (sY 2) k (vz226 2) (nz225 2) (az224 2)), (wState (sY 3) k (vz226 3) (nz225 3) (az224 3)), (wState (sY 4) k (vz226 4) (nz225 4) (az224 4)), (wState (sY 5) k (vz226 5) (nz225 5) (az224 5)), (wState (sY 6) k (vz226 6) (nz225 6) (az224 6)), (wState (sY 7) k (vz226 7) (nz225 7) (az224 7)), (wPlan qP k vP az223 eP)] ++ List.flatten [(wStoO qY k (qV 0) (qP 0) (sY 0 0) (sY 1 0) (sY 2 0) (sY 3 0) (sY 4 0) (sY 5 0) (sY 6 0) (sY 7 0)), (wValley qV k vV bV cV wV aV eV)])[i]?) = (List.flatten [(wSearch qR k vz248 az249)] ++ List.flatten ([] : List va_W)).map some := rfl
                        have hDc := hD.sub [0, 1, 2] (by decide) hC
                        have hFc := va_free hD hS hA [0, 1, 2] hC
                        refine va_calli (va_runV (As := [.int (cV 0), .int (bV 0)]) (rest := []) ⟨hx, hb, hml, hown, hts⟩ (c_X4_nextRoute l dC dI k H.size qR vz248 az249 (cV 0) (bV 0) (by show 0 ≤ (cV 0).toInt ∧ (cV 0).toInt ≤ 7; omega)) (cwV 2 hts (gk_V (wl_mem 20 rfl) (wl_mem 21 rfl) (wl_mem 22 rfl) (wl_mem 5 rfl) (fun w h => List.mem_cons_of_mem _ (List.mem_append_right _ (List.mem_append_right _ (List.mem_append_right _ (List.mem_append_right _ (List.mem_append_right _ (List.mem_append_right _ (List.mem_append_right _ (List.mem_append_right _ (List.mem_append_right _ (List.mem_append_left _ h))))))))))) wkg_c_X4_nextRoute) rfl rfl rfl (by decide +kernel) ⟨Nat.le_of_ble_eq_true rfl, Nat.le_of_ble_eq_true rfl⟩) ⟨fun a U g mk q => by obtain ⟨q0, q1, qP, qK, qD⟩ := q; exact ⟨q0, q1, qP, va_K.moved (u := U) (U := U.calling g mk a) (Vm.Alike.refl U.vm) qK, qD⟩, va_recv hK hPc (ci := 4) (q0 := 0) rfl rfl, fun U hU hW => ⟨rfl, by rw [hU], by rw [hU]; exact hPc, va_K.moved hW.alike hK, hDc.weaken (fun _ _ _ _ => trivial)⟩⟩ rfl rfl hl.1 rfl (lv_room (Nat.le_of_ble_eq_true rfl)) dX4_tryRoutes_106 ⟨Nat.le_of_ble_eq_true rfl, Nat.le_of_ble_eq_true rfl⟩) hS (fun q _ h => hFc q h) hFc (fun rz252 u t H1 locs ht hvm gz251 hB hz1 hk1 hS => ?_)
                        obtain ⟨vz253, az254, hP1⟩ := hB
                        rw [ht] at hP1
                        obtain ⟨hP, hD⟩ := w_callC hP hD hk1 hP1 [0] rfl rfl (fun _ h => absurd h List.not_mem_nil) rfl
                        clear hPc hC hDc hFc hk1 hP1
                        generalize H1 = H at hP hS ⊢
                        have hP : va_P (dC, dI) vwCl (List.flatten [(wSearch qR k vz253 az254), (wState (sY 0) k (vz226 0) (nz225 0) (az224 0)), (wState (sY 1) k (vz226 1) (nz225 1) (az224 1)), (wState (sY 2) k (vz226 2) (nz225 2) (az224 2)), (wState (sY 3) k (vz226 3) (nz225 3) (az224 3)), (wState (sY 4) k (vz226 4) (nz225 4) (az224 4)), (wState (sY 5) k (vz226 5) (nz225 5) (az224 5)), (wState (sY 6) k (vz226 6) (nz225 6) (az224 6)), (wState (sY 7) k (vz226 7) (nz225 7) (az224 7)), (wPlan qP k vP az223 eP)] ++ List.flatten [(wStoO qY k (qV 0) (qP 0) (sY 0 0) (sY 1 0) (sY 2 0) (sY 3 0) (sY 4 0) (sY 5 0) (sY 6 0) (sY 7 0)), (wValley qV k vV bV cV wV aV eV)]) H := hP
                        have hD : va_D A (List.flatten [(wSearch qR k vz253 az254), (wState (sY 0) k (vz226 0) (nz225 0) (az224 0)), (wState (sY 1) k (vz226 1) (nz225 1) (az224 1)), (wState (sY 2) k (vz226 2) (nz225 2) (az224 2)), (wState (sY 3) k (vz226 3) (nz225 3) (az224 3)), (wState (sY 4) k (vz226 4) (nz225 4) (az224 4)), (wState (sY 5) k (vz226 5) (nz225 5) (az224 5)), (wState (sY 6) k (vz226 6) (nz225 6) (az224 6)), (wState (sY 7) k (vz226 7) (nz225 7) (az224 7)), (wPlan qP k vP az223 eP)] ++ List.flatten [(wStoO qY k (qV 0) (qP 0) (sY 0 0) (sY 1 0) (sY 2 0) (sY 3 0) (sY 4 0) (sY 5 0) (sY 6 0) (sY 7 0)), (wValley qV k vV bV cV wV aV eV)]) := hD
                        refine W.widen (k := 0) (n := 0) (Nat.le_refl 0) (Nat.le_refl 0) ?_
                        have pz255 := gz251
                        have pz255 : (-1) ≤ rz252.toInt ∧ rz252.toInt ≤ 6 := pz255
                        refine lv_istore_n (lv' := [(3, .int rz252), (0, .ref (qR 0)), (1, .ref (qY 0)), (2, .int (cV 0)), (4, .int xz188), (5, .int xz227)]) hx hb dX4_tryRoutes_109 rfl hl (by decide) rfl (fun ls hl => ?_)
                        obtain ⟨xz256, exz256⟩ : ∃ y : Int32, y = xz188 + Int32.ofInt (1) := ⟨_, rfl⟩
                        have fxz256 : xz256.toInt = xz188.toInt + (1) := by rw [exz256]; exact fb_addI (y := Int32.ofInt (1)) (by show -2147483648 ≤ xz188.toInt + (1); omega) (by show xz188.toInt + (1) < 2147483648; omega)
                        refine lv_iinc (v := xz256) (lv' := [(4, .int xz256), (3, .int rz252), (0, .ref (qR 0)), (1, .ref (qY 0)), (2, .int (cV 0)), (5, .int xz227)]) hx hb dX4_tryRoutes_110 hl (k := 4) rfl exz256.symm (by decide) rfl (fun ls hl => ?_)
                        refine lv_goto (tgt := 37) hx hb dX4_tryRoutes_113 (by decide) ?_
                        exact ih37 H locs ls az223 az254 vz253 az224 nz225 vz226 rz252 xz256 (by show (2147483647 - xz256.toInt).toNat < n9_37; omega) hnz225 (by show 0 ≤ xz256.toInt; omega) hP hD hS (lv_sub hl [2, 3, 4, 1, 0] rfl)
                      · skip
                        refine W.eq (g2 := F0 m 94 ls [.ref (sY 2 0), .ref (qR 0)]) rfl ?_
                        have hPc := hP.sub (ws' := (List.flatten [(wSearch qR k vz183 az182)] ++ List.flatten [(wState (sY 2) k (vz226 2) (nz225 2) (az224 2))])) [0, 1, 2, 25, 26, 27, 28, 29, 30, 31, 32, 33, 34, 35] rfl
                        have hC : [0, 1, 2, 25, 26, 27, 28, 29, 30, 31, 32, 33, 34, 35].map (fun i => (List.flatten [(wSearch qR k vz183 az182), (wState (sY 0) k (vz226 0) (nz225 0) (az224 0)), (wState (sY 1) k (vz226 1) (nz225 1) (az224 1)), (wState (sY 2) k (vz226 2) (nz225 2) (az224 2)), (wState (sY 3) k (vz226 3) (nz225 3) (az224 3)), (wState (sY 4) k (vz226 4) (nz225 4) (az224 4)), (wState (sY 5) k (vz226 5) (nz225 5) (az224 5)), (wState (sY 6) k (vz226 6) (nz225 6) (az224 6)), (wState (sY 7) k (vz226 7) (nz225 7) (az224 7)), (wPlan qP k vP az223 eP)] ++ List.flatten [(wStoO qY k (qV 0) (qP 0) (sY 0 0) (sY 1 0) (sY 2 0) (sY 3 0) (sY 4 0) (sY 5 0) (sY 6 0) (sY 7 0)), (wValley qV k vV bV cV wV aV eV)])[i]?) = (List.flatten [(wSearch qR k vz183 az182)] ++ List.flatten [(wState (sY 2) k (vz226 2) (nz225 2) (az224 2))]).map some := rfl
                        have hDc := hD.sub [0, 1, 2, 25, 26, 27, 28, 29, 30, 31, 32, 33, 34, 35] (by decide) hC
                        have hFc := va_free hD hS hA [0, 1, 2, 25, 26, 27, 28, 29, 30, 31, 32, 33, 34, 35] hC
                        refine va_callv (va_runV (As := [.ref (sY 2 0)]) (rest := []) ⟨hx, hb, hml, hown, hts⟩ (c_X4_weigh l dC dI k H.size qR vz183 az182 (sY 2) (vz226 2) (nz225 2) (az224 2) (hnz225 2)) (cwV 1 hts (gk_V (wl_mem 16 rfl) (wl_mem 17 rfl) (wl_mem 18 rfl) (wl_mem 5 rfl) (fun w h => List.mem_cons_of_mem _ (List.mem_append_right _ (List.mem_append_right _ (List.mem_append_right _ (List.mem_append_right _ (List.mem_append_right _ (List.mem_append_right _ (List.mem_append_right _ (List.mem_append_right _ (List.mem_append_left _ h)))))))))) wkg_c_X4_weigh) rfl rfl rfl (by decide +kernel) ⟨Nat.le_of_ble_eq_true rfl, Nat.le_of_ble_eq_true rfl⟩) ⟨fun a U g mk q => by obtain ⟨q0, q1, qP, qK, qD⟩ := q; exact ⟨q0, q1, qP, va_K.moved (u := U) (U := U.calling g mk a) (Vm.Alike.refl U.vm) qK, qD⟩, va_recv hK hPc (ci := 4) (q0 := 0) rfl rfl, fun U hU hW => ⟨rfl, by rw [hU], by rw [hU]; exact hPc, va_K.moved hW.alike hK, hDc.weaken (fun _ _ _ _ => trivial)⟩⟩ rfl rfl hl.1 rfl (lv_room (Nat.le_of_ble_eq_true rfl)) dX4_tryRoutes_94 ⟨Nat.le_of_ble_eq_true rfl, Nat.le_of_ble_eq_true rfl⟩) hS (fun q _ h => hFc q h) hFc (fun u t H1 locs ht hvm gz257 hB hz1 hk1 hS => ?_)
                        obtain ⟨vz259, az260, hP1⟩ := hB
                        rw [ht] at hP1
                        obtain ⟨hP, hD⟩ := w_callC hP hD hk1 hP1 [0] rfl rfl (wk_memC [3] rfl) rfl
                        clear hPc hC hDc hFc hk1 hP1
                        generalize H1 = H at hP hS ⊢
                        have hP : va_P (dC, dI) vwCl (List.flatten [(wSearch qR k vz259 az260), (wState (sY 0) k (vz226 0) (nz225 0) (az224 0)), (wState (sY 1) k (vz226 1) (nz225 1) (az224 1)), (wState (sY 2) k (vz226 2) (nz225 2) (az224 2)), (wState (sY 3) k (vz226 3) (nz225 3) (az224 3)), (wState (sY 4) k (vz226 4) (nz225 4) (az224 4)), (wState (sY 5) k (vz226 5) (nz225 5) (az224 5)), (wState (sY 6) k (vz226 6) (nz225 6) (az224 6)), (wState (sY 7) k (vz226 7) (nz225 7) (az224 7)), (wPlan qP k vP az223 eP)] ++ List.flatten [(wStoO qY k (qV 0) (qP 0) (sY 0 0) (sY 1 0) (sY 2 0) (sY 3 0) (sY 4 0) (sY 5 0) (sY 6 0) (sY 7 0)), (wValley qV k vV bV cV wV aV eV)]) H := hP
                        have hD : va_D A (List.flatten [(wSearch qR k vz259 az260), (wState (sY 0) k (vz226 0) (nz225 0) (az224 0)), (wState (sY 1) k (vz226 1) (nz225 1) (az224 1)), (wState (sY 2) k (vz226 2) (nz225 2) (az224 2)), (wState (sY 3) k (vz226 3) (nz225 3) (az224 3)), (wState (sY 4) k (vz226 4) (nz225 4) (az224 4)), (wState (sY 5) k (vz226 5) (nz225 5) (az224 5)), (wState (sY 6) k (vz226 6) (nz225 6) (az224 6)), (wState (sY 7) k (vz226 7) (nz225 7) (az224 7)), (wPlan qP k vP az223 eP)] ++ List.flatten [(wStoO qY k (qV 0) (qP 0) (sY 0 0) (sY 1 0) (sY 2 0) (sY 3 0) (sY 4 0) (sY 5 0) (sY 6 0) (sY 7 0)), (wValley qV k vV bV cV wV aV eV)]) := hD
                        refine W.widen (k := 0) (n := 0) (Nat.le_refl 0) (Nat.le_refl 0) ?_
                        refine lv_aload_n hx hb dX4_tryRoutes_97 rfl (lv_at hl 0 rfl) ?_
                        refine lv_iload_n hx hb dX4_tryRoutes_98 rfl (lv_at hl 2 rfl) ?_
                        refine lv_aload_n hx hb dX4_tryRoutes_99 rfl (lv_at hl 1 rfl) ?_
                        refine va_get (D := (dC, dI)) (ci := 8) (v := .ref (qV 0)) (C := RX8) (T := TX8) (N := 4) hx hb hts (fun w h => List.mem_cons_of_mem _ (List.mem_append_right _ (List.mem_append_left _ h))) hown hK hP 94 rfl rfl 0 (by decide) (hts (.fieldLink RX4 18 "SagMemory$Story" "valley" "LSagMemory$Valley;") (wl_mem 0 rfl)) (fun _ h9 => h9) rfl dX4_tryRoutes_100 ?_
                        refine va_get (D := (dC, dI)) (ci := 10) (v := .int (bV 0)) (C := RX10) (T := TX10) (N := 16) hx hb hts (fun w h => List.mem_cons_of_mem _ (List.mem_append_right _ (List.mem_append_right _ (List.mem_append_left _ h)))) hown hK hP 96 rfl rfl 11 (by decide) (hts (.fieldLink RX4 58 "SagMemory$Valley" "bridges" "I") (wl_mem 19 rfl)) (fun _ h9 => h9) rfl dX4_tryRoutes_103 ?_
                        have bz261 := hbV 0
                        have hPc := hP.sub (ws' := (List.flatten [(wSearch qR k vz259 az260)] ++ List.flatten ([] : List va_W))) [0, 1, 2] rfl
                        have hC : [0, 1, 2].map (fun i => (List.flatten [(wSearch qR k vz259 az260), (wState (sY 0) k (vz226 0) (nz225 0) (az224 0)), (wState (sY 1) k (vz226 1) (nz225 1) (az224 1)), (wState (sY 2) k (vz226 2) (nz225 2) (az224 2)), (wState (sY 3) k (vz226 3) (nz225 3) (az224 3)), (wState (sY 4) k (vz226 4) (nz225 4) (az224 4)), (wState (sY 5) k (vz226 5) (nz225 5) (az224 5)), (wState (sY 6) k (vz226 6) (nz225 6) (az224 6)), (wState (sY 7) k (vz226 7) (nz225 7) (az224 7)), (wPlan qP k vP az223 eP)] ++ List.flatten [(wStoO qY k (qV 0) (qP 0) (sY 0 0) (sY 1 0) (sY 2 0) (sY 3 0) (sY 4 0) (sY 5 0) (sY 6 0) (sY 7 0)), (wValley qV k vV bV cV wV aV eV)])[i]?) = (List.flatten [(wSearch qR k vz259 az260)] ++ List.flatten ([] : List va_W)).map some := rfl
                        have hDc := hD.sub [0, 1, 2] (by decide) hC
                        have hFc := va_free hD hS hA [0, 1, 2] hC
                        refine va_calli (va_runV (As := [.int (cV 0), .int (bV 0)]) (rest := []) ⟨hx, hb, hml, hown, hts⟩ (c_X4_nextRoute l dC dI k H.size qR vz259 az260 (cV 0) (bV 0) (by show 0 ≤ (cV 0).toInt ∧ (cV 0).toInt ≤ 7; omega)) (cwV 2 hts (gk_V (wl_mem 20 rfl) (wl_mem 21 rfl) (wl_mem 22 rfl) (wl_mem 5 rfl) (fun w h => List.mem_cons_of_mem _ (List.mem_append_right _ (List.mem_append_right _ (List.mem_append_right _ (List.mem_append_right _ (List.mem_append_right _ (List.mem_append_right _ (List.mem_append_right _ (List.mem_append_right _ (List.mem_append_right _ (List.mem_append_left _ h))))))))))) wkg_c_X4_nextRoute) rfl rfl rfl (by decide +kernel) ⟨Nat.le_of_ble_eq_true rfl, Nat.le_of_ble_eq_true rfl⟩) ⟨fun a U g mk q => by obtain ⟨q0, q1, qP, qK, qD⟩ := q; exact ⟨q0, q1, qP, va_K.moved (u := U) (U := U.calling g mk a) (Vm.Alike.refl U.vm) qK, qD⟩, va_recv hK hPc (ci := 4) (q0 := 0) rfl rfl, fun U hU hW => ⟨rfl, by rw [hU], by rw [hU]; exact hPc, va_K.moved hW.alike hK, hDc.weaken (fun _ _ _ _ => trivial)⟩⟩ rfl rfl hl.1 rfl (lv_room (Nat.le_of_ble_eq_true rfl)) dX4_tryRoutes_106 ⟨Nat.le_of_ble_eq_true rfl, Nat.le_of_ble_eq_true rfl⟩) hS (fun q _ h => hFc q h) hFc (fun rz263 u t H1 locs ht hvm gz262 hB hz1 hk1 hS => ?_)
                        obtain ⟨vz264, az265, hP1⟩ := hB
                        rw [ht] at hP1
                        obtain ⟨hP, hD⟩ := w_callC hP hD hk1 hP1 [0] rfl rfl (fun _ h => absurd h List.not_mem_nil) rfl
                        clear hPc hC hDc hFc hk1 hP1
                        generalize H1 = H at hP hS ⊢
                        have hP : va_P (dC, dI) vwCl (List.flatten [(wSearch qR k vz264 az265), (wState (sY 0) k (vz226 0) (nz225 0) (az224 0)), (wState (sY 1) k (vz226 1) (nz225 1) (az224 1)), (wState (sY 2) k (vz226 2) (nz225 2) (az224 2)), (wState (sY 3) k (vz226 3) (nz225 3) (az224 3)), (wState (sY 4) k (vz226 4) (nz225 4) (az224 4)), (wState (sY 5) k (vz226 5) (nz225 5) (az224 5)), (wState (sY 6) k (vz226 6) (nz225 6) (az224 6)), (wState (sY 7) k (vz226 7) (nz225 7) (az224 7)), (wPlan qP k vP az223 eP)] ++ List.flatten [(wStoO qY k (qV 0) (qP 0) (sY 0 0) (sY 1 0) (sY 2 0) (sY 3 0) (sY 4 0) (sY 5 0) (sY 6 0) (sY 7 0)), (wValley qV k vV bV cV wV aV eV)]) H := hP
                        have hD : va_D A (List.flatten [(wSearch qR k vz264 az265), (wState (sY 0) k (vz226 0) (nz225 0) (az224 0)), (wState (sY 1) k (vz226 1) (nz225 1) (az224 1)), (wState (sY 2) k (vz226 2) (nz225 2) (az224 2)), (wState (sY 3) k (vz226 3) (nz225 3) (az224 3)), (wState (sY 4) k (vz226 4) (nz225 4) (az224 4)), (wState (sY 5) k (vz226 5) (nz225 5) (az224 5)), (wState (sY 6) k (vz226 6) (nz225 6) (az224 6)), (wState (sY 7) k (vz226 7) (nz225 7) (az224 7)), (wPlan qP k vP az223 eP)] ++ List.flatten [(wStoO qY k (qV 0) (qP 0) (sY 0 0) (sY 1 0) (sY 2 0) (sY 3 0) (sY 4 0) (sY 5 0) (sY 6 0) (sY 7 0)), (wValley qV k vV bV cV wV aV eV)]) := hD
                        refine W.widen (k := 0) (n := 0) (Nat.le_refl 0) (Nat.le_refl 0) ?_
                        have pz266 := gz262
                        have pz266 : (-1) ≤ rz263.toInt ∧ rz263.toInt ≤ 6 := pz266
                        refine lv_istore_n (lv' := [(3, .int rz263), (0, .ref (qR 0)), (1, .ref (qY 0)), (2, .int (cV 0)), (4, .int xz188), (5, .int xz227)]) hx hb dX4_tryRoutes_109 rfl hl (by decide) rfl (fun ls hl => ?_)
                        obtain ⟨xz267, exz267⟩ : ∃ y : Int32, y = xz188 + Int32.ofInt (1) := ⟨_, rfl⟩
                        have fxz267 : xz267.toInt = xz188.toInt + (1) := by rw [exz267]; exact fb_addI (y := Int32.ofInt (1)) (by show -2147483648 ≤ xz188.toInt + (1); omega) (by show xz188.toInt + (1) < 2147483648; omega)
                        refine lv_iinc (v := xz267) (lv' := [(4, .int xz267), (3, .int rz263), (0, .ref (qR 0)), (1, .ref (qY 0)), (2, .int (cV 0)), (5, .int xz227)]) hx hb dX4_tryRoutes_110 hl (k := 4) rfl exz267.symm (by decide) rfl (fun ls hl => ?_)
                        refine lv_goto (tgt := 37) hx hb dX4_tryRoutes_113 (by decide) ?_
                        exact ih37 H locs ls az223 az265 vz264 az224 nz225 vz226 rz263 xz267 (by show (2147483647 - xz267.toInt).toNat < n9_37; omega) hnz225 (by show 0 ≤ xz267.toInt; omega) hP hD hS (lv_sub hl [2, 3, 4, 1, 0] rfl)
                      · skip
                        refine W.eq (g2 := F0 m 94 ls [.ref (sY 3 0), .ref (qR 0)]) rfl ?_
                        have hPc := hP.sub (ws' := (List.flatten [(wSearch qR k vz183 az182)] ++ List.flatten [(wState (sY 3) k (vz226 3) (nz225 3) (az224 3))])) [0, 1, 2, 36, 37, 38, 39, 40, 41, 42, 43, 44, 45, 46] rfl
                        have hC : [0, 1, 2, 36, 37, 38, 39, 40, 41, 42, 43, 44, 45, 46].map (fun i => (List.flatten [(wSearch qR k vz183 az182), (wState (sY 0) k (vz226 0) (nz225 0) (az224 0)), (wState (sY 1) k (vz226 1) (nz225 1) (az224 1)), (wState (sY 2) k (vz226 2) (nz225 2) (az224 2)), (wState (sY 3) k (vz226 3) (nz225 3) (az224 3)), (wState (sY 4) k (vz226 4) (nz225 4) (az224 4)), (wState (sY 5) k (vz226 5) (nz225 5) (az224 5)), (wState (sY 6) k (vz226 6) (nz225 6) (az224 6)), (wState (sY 7) k (vz226 7) (nz225 7) (az224 7)), (wPlan qP k vP az223 eP)] ++ List.flatten [(wStoO qY k (qV 0) (qP 0) (sY 0 0) (sY 1 0) (sY 2 0) (sY 3 0) (sY 4 0) (sY 5 0) (sY 6 0) (sY 7 0)), (wValley qV k vV bV cV wV aV eV)])[i]?) = (List.flatten [(wSearch qR k vz183 az182)] ++ List.flatten [(wState (sY 3) k (vz226 3) (nz225 3) (az224 3))]).map some := rfl
                        have hDc := hD.sub [0, 1, 2, 36, 37, 38, 39, 40, 41, 42, 43, 44, 45, 46] (by decide) hC
                        have hFc := va_free hD hS hA [0, 1, 2, 36, 37, 38, 39, 40, 41, 42, 43, 44, 45, 46] hC
                        refine va_callv (va_runV (As := [.ref (sY 3 0)]) (rest := []) ⟨hx, hb, hml, hown, hts⟩ (c_X4_weigh l dC dI k H.size qR vz183 az182 (sY 3) (vz226 3) (nz225 3) (az224 3) (hnz225 3)) (cwV 1 hts (gk_V (wl_mem 16 rfl) (wl_mem 17 rfl) (wl_mem 18 rfl) (wl_mem 5 rfl) (fun w h => List.mem_cons_of_mem _ (List.mem_append_right _ (List.mem_append_right _ (List.mem_append_right _ (List.mem_append_right _ (List.mem_append_right _ (List.mem_append_right _ (List.mem_append_right _ (List.mem_append_right _ (List.mem_append_left _ h)))))))))) wkg_c_X4_weigh) rfl rfl rfl (by decide +kernel) ⟨Nat.le_of_ble_eq_true rfl, Nat.le_of_ble_eq_true rfl⟩) ⟨fun a U g mk q => by obtain ⟨q0, q1, qP, qK, qD⟩ := q; exact ⟨q0, q1, qP, va_K.moved (u := U) (U := U.calling g mk a) (Vm.Alike.refl U.vm) qK, qD⟩, va_recv hK hPc (ci := 4) (q0 := 0) rfl rfl, fun U hU hW => ⟨rfl, by rw [hU], by rw [hU]; exact hPc, va_K.moved hW.alike hK, hDc.weaken (fun _ _ _ _ => trivial)⟩⟩ rfl rfl hl.1 rfl (lv_room (Nat.le_of_ble_eq_true rfl)) dX4_tryRoutes_94 ⟨Nat.le_of_ble_eq_true rfl, Nat.le_of_ble_eq_true rfl⟩) hS (fun q _ h => hFc q h) hFc (fun u t H1 locs ht hvm gz268 hB hz1 hk1 hS => ?_)
                        obtain ⟨vz270, az271, hP1⟩ := hB
                        rw [ht] at hP1
                        obtain ⟨hP, hD⟩ := w_callC hP hD hk1 hP1 [0] rfl rfl (wk_memC [4] rfl) rfl
                        clear hPc hC hDc hFc hk1 hP1
                        generalize H1 = H at hP hS ⊢
                        have hP : va_P (dC, dI) vwCl (List.flatten [(wSearch qR k vz270 az271), (wState (sY 0) k (vz226 0) (nz225 0) (az224 0)), (wState (sY 1) k (vz226 1) (nz225 1) (az224 1)), (wState (sY 2) k (vz226 2) (nz225 2) (az224 2)), (wState (sY 3) k (vz226 3) (nz225 3) (az224 3)), (wState (sY 4) k (vz226 4) (nz225 4) (az224 4)), (wState (sY 5) k (vz226 5) (nz225 5) (az224 5)), (wState (sY 6) k (vz226 6) (nz225 6) (az224 6)), (wState (sY 7) k (vz226 7) (nz225 7) (az224 7)), (wPlan qP k vP az223 eP)] ++ List.flatten [(wStoO qY k (qV 0) (qP 0) (sY 0 0) (sY 1 0) (sY 2 0) (sY 3 0) (sY 4 0) (sY 5 0) (sY 6 0) (sY 7 0)), (wValley qV k vV bV cV wV aV eV)]) H := hP
                        have hD : va_D A (List.flatten [(wSearch qR k vz270 az271), (wState (sY 0) k (vz226 0) (nz225 0) (az224 0)), (wState (sY 1) k (vz226 1) (nz225 1) (az224 1)), (wState (sY 2) k (vz226 2) (nz225 2) (az224 2)), (wState (sY 3) k (vz226 3) (nz225 3) (az224 3)), (wState (sY 4) k (vz226 4) (nz225 4) (az224 4)), (wState (sY 5) k (vz226 5) (nz225 5) (az224 5)), (wState (sY 6) k (vz226 6) (nz225 6) (az224 6)), (wState (sY 7) k (vz226 7) (nz225 7) (az224 7)), (wPlan qP k vP az223 eP)] ++ List.flatten [(wStoO qY k (qV 0) (qP 0) (sY 0 0) (sY 1 0) (sY 2 0) (sY 3 0) (sY 4 0) (sY 5 0) (sY 6 0) (sY 7 0)), (wValley qV k vV bV cV wV aV eV)]) := hD
                        refine W.widen (k := 0) (n := 0) (Nat.le_refl 0) (Nat.le_refl 0) ?_
                        refine lv_aload_n hx hb dX4_tryRoutes_97 rfl (lv_at hl 0 rfl) ?_
                        refine lv_iload_n hx hb dX4_tryRoutes_98 rfl (lv_at hl 2 rfl) ?_
                        refine lv_aload_n hx hb dX4_tryRoutes_99 rfl (lv_at hl 1 rfl) ?_
                        refine va_get (D := (dC, dI)) (ci := 8) (v := .ref (qV 0)) (C := RX8) (T := TX8) (N := 4) hx hb hts (fun w h => List.mem_cons_of_mem _ (List.mem_append_right _ (List.mem_append_left _ h))) hown hK hP 94 rfl rfl 0 (by decide) (hts (.fieldLink RX4 18 "SagMemory$Story" "valley" "LSagMemory$Valley;") (wl_mem 0 rfl)) (fun _ h9 => h9) rfl dX4_tryRoutes_100 ?_
                        refine va_get (D := (dC, dI)) (ci := 10) (v := .int (bV 0)) (C := RX10) (T := TX10) (N := 16) hx hb hts (fun w h => List.mem_cons_of_mem _ (List.mem_append_right _ (List.mem_append_right _ (List.mem_append_left _ h)))) hown hK hP 96 rfl rfl 11 (by decide) (hts (.fieldLink RX4 58 "SagMemory$Valley" "bridges" "I") (wl_mem 19 rfl)) (fun _ h9 => h9) rfl dX4_tryRoutes_103 ?_
                        have bz272 := hbV 0
                        have hPc := hP.sub (ws' := (List.flatten [(wSearch qR k vz270 az271)] ++ List.flatten ([] : List va_W))) [0, 1, 2] rfl
                        have hC : [0, 1, 2].map (fun i => (List.flatten [(wSearch qR k vz270 az271), (wState (sY 0) k (vz226 0) (nz225 0) (az224 0)), (wState (sY 1) k (vz226 1) (nz225 1) (az224 1)), (wState (sY 2) k (vz226 2) (nz225 2) (az224 2)), (wState (sY 3) k (vz226 3) (nz225 3) (az224 3)), (wState (sY 4) k (vz226 4) (nz225 4) (az224 4)), (wState (sY 5) k (vz226 5) (nz225 5) (az224 5)), (wState (sY 6) k (vz226 6) (nz225 6) (az224 6)), (wState (sY 7) k (vz226 7) (nz225 7) (az224 7)), (wPlan qP k vP az223 eP)] ++ List.flatten [(wStoO qY k (qV 0) (qP 0) (sY 0 0) (sY 1 0) (sY 2 0) (sY 3 0) (sY 4 0) (sY 5 0) (sY 6 0) (sY 7 0)), (wValley qV k vV bV cV wV aV eV)])[i]?) = (List.flatten [(wSearch qR k vz270 az271)] ++ List.flatten ([] : List va_W)).map some := rfl
                        have hDc := hD.sub [0, 1, 2] (by decide) hC
                        have hFc := va_free hD hS hA [0, 1, 2] hC
                        refine va_calli (va_runV (As := [.int (cV 0), .int (bV 0)]) (rest := []) ⟨hx, hb, hml, hown, hts⟩ (c_X4_nextRoute l dC dI k H.size qR vz270 az271 (cV 0) (bV 0) (by show 0 ≤ (cV 0).toInt ∧ (cV 0).toInt ≤ 7; omega)) (cwV 2 hts (gk_V (wl_mem 20 rfl) (wl_mem 21 rfl) (wl_mem 22 rfl) (wl_mem 5 rfl) (fun w h => List.mem_cons_of_mem _ (List.mem_append_right _ (List.mem_append_right _ (List.mem_append_right _ (List.mem_append_right _ (List.mem_append_right _ (List.mem_append_right _ (List.mem_append_right _ (List.mem_append_right _ (List.mem_append_right _ (List.mem_append_left _ h))))))))))) wkg_c_X4_nextRoute) rfl rfl rfl (by decide +kernel) ⟨Nat.le_of_ble_eq_true rfl, Nat.le_of_ble_eq_true rfl⟩) ⟨fun a U g mk q => by obtain ⟨q0, q1, qP, qK, qD⟩ := q; exact ⟨q0, q1, qP, va_K.moved (u := U) (U := U.calling g mk a) (Vm.Alike.refl U.vm) qK, qD⟩, va_recv hK hPc (ci := 4) (q0 := 0) rfl rfl, fun U hU hW => ⟨rfl, by rw [hU], by rw [hU]; exact hPc, va_K.moved hW.alike hK, hDc.weaken (fun _ _ _ _ => trivial)⟩⟩ rfl rfl hl.1 rfl (lv_room (Nat.le_of_ble_eq_true rfl)) dX4_tryRoutes_106 ⟨Nat.le_of_ble_eq_true rfl, Nat.le_of_ble_eq_true rfl⟩) hS (fun q _ h => hFc q h) hFc (fun rz274 u t H1 locs ht hvm gz273 hB hz1 hk1 hS => ?_)
                        obtain ⟨vz275, az276, hP1⟩ := hB
                        rw [ht] at hP1
                        obtain ⟨hP, hD⟩ := w_callC hP hD hk1 hP1 [0] rfl rfl (fun _ h => absurd h List.not_mem_nil) rfl
                        clear hPc hC hDc hFc hk1 hP1
                        generalize H1 = H at hP hS ⊢
                        have hP : va_P (dC, dI) vwCl (List.flatten [(wSearch qR k vz275 az276), (wState (sY 0) k (vz226 0) (nz225 0) (az224 0)), (wState (sY 1) k (vz226 1) (nz225 1) (az224 1)), (wState (sY 2) k (vz226 2) (nz225 2) (az224 2)), (wState (sY 3) k (vz226 3) (nz225 3) (az224 3)), (wState (sY 4) k (vz226 4) (nz225 4) (az224 4)), (wState (sY 5) k (vz226 5) (nz225 5) (az224 5)), (wState (sY 6) k (vz226 6) (nz225 6) (az224 6)), (wState (sY 7) k (vz226 7) (nz225 7) (az224 7)), (wPlan qP k vP az223 eP)] ++ List.flatten [(wStoO qY k (qV 0) (qP 0) (sY 0 0) (sY 1 0) (sY 2 0) (sY 3 0) (sY 4 0) (sY 5 0) (sY 6 0) (sY 7 0)), (wValley qV k vV bV cV wV aV eV)]) H := hP
                        have hD : va_D A (List.flatten [(wSearch qR k vz275 az276), (wState (sY 0) k (vz226 0) (nz225 0) (az224 0)), (wState (sY 1) k (vz226 1) (nz225 1) (az224 1)), (wState (sY 2) k (vz226 2) (nz225 2) (az224 2)), (wState (sY 3) k (vz226 3) (nz225 3) (az224 3)), (wState (sY 4) k (vz226 4) (nz225 4) (az224 4)), (wState (sY 5) k (vz226 5) (nz225 5) (az224 5)), (wState (sY 6) k (vz226 6) (nz225 6) (az224 6)), (wState (sY 7) k (vz226 7) (nz225 7) (az224 7)), (wPlan qP k vP az223 eP)] ++ List.flatten [(wStoO qY k (qV 0) (qP 0) (sY 0 0) (sY 1 0) (sY 2 0) (sY 3 0) (sY 4 0) (sY 5 0) (sY 6 0) (sY 7 0)), (wValley qV k vV bV cV wV aV eV)]) := hD
                        refine W.widen (k := 0) (n := 0) (Nat.le_refl 0) (Nat.le_refl 0) ?_
                        have pz277 := gz273
                        have pz277 : (-1) ≤ rz274.toInt ∧ rz274.toInt ≤ 6 := pz277
                        refine lv_istore_n (lv' := [(3, .int rz274), (0, .ref (qR 0)), (1, .ref (qY 0)), (2, .int (cV 0)), (4, .int xz188), (5, .int xz227)]) hx hb dX4_tryRoutes_109 rfl hl (by decide) rfl (fun ls hl => ?_)
                        obtain ⟨xz278, exz278⟩ : ∃ y : Int32, y = xz188 + Int32.ofInt (1) := ⟨_, rfl⟩
                        have fxz278 : xz278.toInt = xz188.toInt + (1) := by rw [exz278]; exact fb_addI (y := Int32.ofInt (1)) (by show -2147483648 ≤ xz188.toInt + (1); omega) (by show xz188.toInt + (1) < 2147483648; omega)
                        refine lv_iinc (v := xz278) (lv' := [(4, .int xz278), (3, .int rz274), (0, .ref (qR 0)), (1, .ref (qY 0)), (2, .int (cV 0)), (5, .int xz227)]) hx hb dX4_tryRoutes_110 hl (k := 4) rfl exz278.symm (by decide) rfl (fun ls hl => ?_)
                        refine lv_goto (tgt := 37) hx hb dX4_tryRoutes_113 (by decide) ?_
                        exact ih37 H locs ls az223 az276 vz275 az224 nz225 vz226 rz274 xz278 (by show (2147483647 - xz278.toInt).toNat < n9_37; omega) hnz225 (by show 0 ≤ xz278.toInt; omega) hP hD hS (lv_sub hl [2, 3, 4, 1, 0] rfl)
                      · skip
                        refine W.eq (g2 := F0 m 94 ls [.ref (sY 4 0), .ref (qR 0)]) rfl ?_
                        have hPc := hP.sub (ws' := (List.flatten [(wSearch qR k vz183 az182)] ++ List.flatten [(wState (sY 4) k (vz226 4) (nz225 4) (az224 4))])) [0, 1, 2, 47, 48, 49, 50, 51, 52, 53, 54, 55, 56, 57] rfl
                        have hC : [0, 1, 2, 47, 48, 49, 50, 51, 52, 53, 54, 55, 56, 57].map (fun i => (List.flatten [(wSearch qR k vz183 az182), (wState (sY 0) k (vz226 0) (nz225 0) (az224 0)), (wState (sY 1) k (vz226 1) (nz225 1) (az224 1)), (wState (sY 2) k (vz226 2) (nz225 2) (az224 2)), (wState (sY 3) k (vz226 3) (nz225 3) (az224 3)), (wState (sY 4) k (vz226 4) (nz225 4) (az224 4)), (wState (sY 5) k (vz226 5) (nz225 5) (az224 5)), (wState (sY 6) k (vz226 6) (nz225 6) (az224 6)), (wState (sY 7) k (vz226 7) (nz225 7) (az224 7)), (wPlan qP k vP az223 eP)] ++ List.flatten [(wStoO qY k (qV 0) (qP 0) (sY 0 0) (sY 1 0) (sY 2 0) (sY 3 0) (sY 4 0) (sY 5 0) (sY 6 0) (sY 7 0)), (wValley qV k vV bV cV wV aV eV)])[i]?) = (List.flatten [(wSearch qR k vz183 az182)] ++ List.flatten [(wState (sY 4) k (vz226 4) (nz225 4) (az224 4))]).map some := rfl
                        have hDc := hD.sub [0, 1, 2, 47, 48, 49, 50, 51, 52, 53, 54, 55, 56, 57] (by decide) hC
                        have hFc := va_free hD hS hA [0, 1, 2, 47, 48, 49, 50, 51, 52, 53, 54, 55, 56, 57] hC
                        refine va_callv (va_runV (As := [.ref (sY 4 0)]) (rest := []) ⟨hx, hb, hml, hown, hts⟩ (c_X4_weigh l dC dI k H.size qR vz183 az182 (sY 4) (vz226 4) (nz225 4) (az224 4) (hnz225 4)) (cwV 1 hts (gk_V (wl_mem 16 rfl) (wl_mem 17 rfl) (wl_mem 18 rfl) (wl_mem 5 rfl) (fun w h => List.mem_cons_of_mem _ (List.mem_append_right _ (List.mem_append_right _ (List.mem_append_right _ (List.mem_append_right _ (List.mem_append_right _ (List.mem_append_right _ (List.mem_append_right _ (List.mem_append_right _ (List.mem_append_left _ h)))))))))) wkg_c_X4_weigh) rfl rfl rfl (by decide +kernel) ⟨Nat.le_of_ble_eq_true rfl, Nat.le_of_ble_eq_true rfl⟩) ⟨fun a U g mk q => by obtain ⟨q0, q1, qP, qK, qD⟩ := q; exact ⟨q0, q1, qP, va_K.moved (u := U) (U := U.calling g mk a) (Vm.Alike.refl U.vm) qK, qD⟩, va_recv hK hPc (ci := 4) (q0 := 0) rfl rfl, fun U hU hW => ⟨rfl, by rw [hU], by rw [hU]; exact hPc, va_K.moved hW.alike hK, hDc.weaken (fun _ _ _ _ => trivial)⟩⟩ rfl rfl hl.1 rfl (lv_room (Nat.le_of_ble_eq_true rfl)) dX4_tryRoutes_94 ⟨Nat.le_of_ble_eq_true rfl, Nat.le_of_ble_eq_true rfl⟩) hS (fun q _ h => hFc q h) hFc (fun u t H1 locs ht hvm gz279 hB hz1 hk1 hS => ?_)
                        obtain ⟨vz281, az282, hP1⟩ := hB
                        rw [ht] at hP1
                        obtain ⟨hP, hD⟩ := w_callC hP hD hk1 hP1 [0] rfl rfl (wk_memC [5] rfl) rfl
                        clear hPc hC hDc hFc hk1 hP1
                        generalize H1 = H at hP hS ⊢
                        have hP : va_P (dC, dI) vwCl (List.flatten [(wSearch qR k vz281 az282), (wState (sY 0) k (vz226 0) (nz225 0) (az224 0)), (wState (sY 1) k (vz226 1) (nz225 1) (az224 1)), (wState (sY 2) k (vz226 2) (nz225 2) (az224 2)), (wState (sY 3) k (vz226 3) (nz225 3) (az224 3)), (wState (sY 4) k (vz226 4) (nz225 4) (az224 4)), (wState (sY 5) k (vz226 5) (nz225 5) (az224 5)), (wState (sY 6) k (vz226 6) (nz225 6) (az224 6)), (wState (sY 7) k (vz226 7) (nz225 7) (az224 7)), (wPlan qP k vP az223 eP)] ++ List.flatten [(wStoO qY k (qV 0) (qP 0) (sY 0 0) (sY 1 0) (sY 2 0) (sY 3 0) (sY 4 0) (sY 5 0) (sY 6 0) (sY 7 0)), (wValley qV k vV bV cV wV aV eV)]) H := hP
                        have hD : va_D A (List.flatten [(wSearch qR k vz281 az282), (wState (sY 0) k (vz226 0) (nz225 0) (az224 0)), (wState (sY 1) k (vz226 1) (nz225 1) (az224 1)), (wState (sY 2) k (vz226 2) (nz225 2) (az224 2)), (wState (sY 3) k (vz226 3) (nz225 3) (az224 3)), (wState (sY 4) k (vz226 4) (nz225 4) (az224 4)), (wState (sY 5) k (vz226 5) (nz225 5) (az224 5)), (wState (sY 6) k (vz226 6) (nz225 6) (az224 6)), (wState (sY 7) k (vz226 7) (nz225 7) (az224 7)), (wPlan qP k vP az223 eP)] ++ List.flatten [(wStoO qY k (qV 0) (qP 0) (sY 0 0) (sY 1 0) (sY 2 0) (sY 3 0) (sY 4 0) (sY 5 0) (sY 6 0) (sY 7 0)), (wValley qV k vV bV cV wV aV eV)]) := hD
                        refine W.widen (k := 0) (n := 0) (Nat.le_refl 0) (Nat.le_refl 0) ?_
                        refine lv_aload_n hx hb dX4_tryRoutes_97 rfl (lv_at hl 0 rfl) ?_
                        refine lv_iload_n hx hb dX4_tryRoutes_98 rfl (lv_at hl 2 rfl) ?_
                        refine lv_aload_n hx hb dX4_tryRoutes_99 rfl (lv_at hl 1 rfl) ?_
                        refine va_get (D := (dC, dI)) (ci := 8) (v := .ref (qV 0)) (C := RX8) (T := TX8) (N := 4) hx hb hts (fun w h => List.mem_cons_of_mem _ (List.mem_append_right _ (List.mem_append_left _ h))) hown hK hP 94 rfl rfl 0 (by decide) (hts (.fieldLink RX4 18 "SagMemory$Story" "valley" "LSagMemory$Valley;") (wl_mem 0 rfl)) (fun _ h9 => h9) rfl dX4_tryRoutes_100 ?_
                        refine va_get (D := (dC, dI)) (ci := 10) (v := .int (bV 0)) (C := RX10) (T := TX10) (N := 16) hx hb hts (fun w h => List.mem_cons_of_mem _ (List.mem_append_right _ (List.mem_append_right _ (List.mem_append_left _ h)))) hown hK hP 96 rfl rfl 11 (by decide) (hts (.fieldLink RX4 58 "SagMemory$Valley" "bridges" "I") (wl_mem 19 rfl)) (fun _ h9 => h9) rfl dX4_tryRoutes_103 ?_
                        have bz283 := hbV 0
                        have hPc := hP.sub (ws' := (List.flatten [(wSearch qR k vz281 az282)] ++ List.flatten ([] : List va_W))) [0, 1, 2] rfl
                        have hC : [0, 1, 2].map (fun i => (List.flatten [(wSearch qR k vz281 az282), (wState (sY 0) k (vz226 0) (nz225 0) (az224 0)), (wState (sY 1) k (vz226 1) (nz225 1) (az224 1)), (wState (sY 2) k (vz226 2) (nz225 2) (az224 2)), (wState (sY 3) k (vz226 3) (nz225 3) (az224 3)), (wState (sY 4) k (vz226 4) (nz225 4) (az224 4)), (wState (sY 5) k (vz226 5) (nz225 5) (az224 5)), (wState (sY 6) k (vz226 6) (nz225 6) (az224 6)), (wState (sY 7) k (vz226 7) (nz225 7) (az224 7)), (wPlan qP k vP az223 eP)] ++ List.flatten [(wStoO qY k (qV 0) (qP 0) (sY 0 0) (sY 1 0) (sY 2 0) (sY 3 0) (sY 4 0) (sY 5 0) (sY 6 0) (sY 7 0)), (wValley qV k vV bV cV wV aV eV)])[i]?) = (List.flatten [(wSearch qR k vz281 az282)] ++ List.flatten ([] : List va_W)).map some := rfl
                        have hDc := hD.sub [0, 1, 2] (by decide) hC
                        have hFc := va_free hD hS hA [0, 1, 2] hC
                        refine va_calli (va_runV (As := [.int (cV 0), .int (bV 0)]) (rest := []) ⟨hx, hb, hml, hown, hts⟩ (c_X4_nextRoute l dC dI k H.size qR vz281 az282 (cV 0) (bV 0) (by show 0 ≤ (cV 0).toInt ∧ (cV 0).toInt ≤ 7; omega)) (cwV 2 hts (gk_V (wl_mem 20 rfl) (wl_mem 21 rfl) (wl_mem 22 rfl) (wl_mem 5 rfl) (fun w h => List.mem_cons_of_mem _ (List.mem_append_right _ (List.mem_append_right _ (List.mem_append_right _ (List.mem_append_right _ (List.mem_append_right _ (List.mem_append_right _ (List.mem_append_right _ (List.mem_append_right _ (List.mem_append_right _ (List.mem_append_left _ h))))))))))) wkg_c_X4_nextRoute) rfl rfl rfl (by decide +kernel) ⟨Nat.le_of_ble_eq_true rfl, Nat.le_of_ble_eq_true rfl⟩) ⟨fun a U g mk q => by obtain ⟨q0, q1, qP, qK, qD⟩ := q; exact ⟨q0, q1, qP, va_K.moved (u := U) (U := U.calling g mk a) (Vm.Alike.refl U.vm) qK, qD⟩, va_recv hK hPc (ci := 4) (q0 := 0) rfl rfl, fun U hU hW => ⟨rfl, by rw [hU], by rw [hU]; exact hPc, va_K.moved hW.alike hK, hDc.weaken (fun _ _ _ _ => trivial)⟩⟩ rfl rfl hl.1 rfl (lv_room (Nat.le_of_ble_eq_true rfl)) dX4_tryRoutes_106 ⟨Nat.le_of_ble_eq_true rfl, Nat.le_of_ble_eq_true rfl⟩) hS (fun q _ h => hFc q h) hFc (fun rz285 u t H1 locs ht hvm gz284 hB hz1 hk1 hS => ?_)
                        obtain ⟨vz286, az287, hP1⟩ := hB
                        rw [ht] at hP1
                        obtain ⟨hP, hD⟩ := w_callC hP hD hk1 hP1 [0] rfl rfl (fun _ h => absurd h List.not_mem_nil) rfl
                        clear hPc hC hDc hFc hk1 hP1
                        generalize H1 = H at hP hS ⊢
                        have hP : va_P (dC, dI) vwCl (List.flatten [(wSearch qR k vz286 az287), (wState (sY 0) k (vz226 0) (nz225 0) (az224 0)), (wState (sY 1) k (vz226 1) (nz225 1) (az224 1)), (wState (sY 2) k (vz226 2) (nz225 2) (az224 2)), (wState (sY 3) k (vz226 3) (nz225 3) (az224 3)), (wState (sY 4) k (vz226 4) (nz225 4) (az224 4)), (wState (sY 5) k (vz226 5) (nz225 5) (az224 5)), (wState (sY 6) k (vz226 6) (nz225 6) (az224 6)), (wState (sY 7) k (vz226 7) (nz225 7) (az224 7)), (wPlan qP k vP az223 eP)] ++ List.flatten [(wStoO qY k (qV 0) (qP 0) (sY 0 0) (sY 1 0) (sY 2 0) (sY 3 0) (sY 4 0) (sY 5 0) (sY 6 0) (sY 7 0)), (wValley qV k vV bV cV wV aV eV)]) H := hP
                        have hD : va_D A (List.flatten [(wSearch qR k vz286 az287), (wState (sY 0) k (vz226 0) (nz225 0) (az224 0)), (wState (sY 1) k (vz226 1) (nz225 1) (az224 1)), (wState (sY 2) k (vz226 2) (nz225 2) (az224 2)), (wState (sY 3) k (vz226 3) (nz225 3) (az224 3)), (wState (sY 4) k (vz226 4) (nz225 4) (az224 4)), (wState (sY 5) k (vz226 5) (nz225 5) (az224 5)), (wState (sY 6) k (vz226 6) (nz225 6) (az224 6)), (wState (sY 7) k (vz226 7) (nz225 7) (az224 7)), (wPlan qP k vP az223 eP)] ++ List.flatten [(wStoO qY k (qV 0) (qP 0) (sY 0 0) (sY 1 0) (sY 2 0) (sY 3 0) (sY 4 0) (sY 5 0) (sY 6 0) (sY 7 0)), (wValley qV k vV bV cV wV aV eV)]) := hD
                        refine W.widen (k := 0) (n := 0) (Nat.le_refl 0) (Nat.le_refl 0) ?_
                        have pz288 := gz284
                        have pz288 : (-1) ≤ rz285.toInt ∧ rz285.toInt ≤ 6 := pz288
                        refine lv_istore_n (lv' := [(3, .int rz285), (0, .ref (qR 0)), (1, .ref (qY 0)), (2, .int (cV 0)), (4, .int xz188), (5, .int xz227)]) hx hb dX4_tryRoutes_109 rfl hl (by decide) rfl (fun ls hl => ?_)
                        obtain ⟨xz289, exz289⟩ : ∃ y : Int32, y = xz188 + Int32.ofInt (1) := ⟨_, rfl⟩
                        have fxz289 : xz289.toInt = xz188.toInt + (1) := by rw [exz289]; exact fb_addI (y := Int32.ofInt (1)) (by show -2147483648 ≤ xz188.toInt + (1); omega) (by show xz188.toInt + (1) < 2147483648; omega)
                        refine lv_iinc (v := xz289) (lv' := [(4, .int xz289), (3, .int rz285), (0, .ref (qR 0)), (1, .ref (qY 0)), (2, .int (cV 0)), (5, .int xz227)]) hx hb dX4_tryRoutes_110 hl (k := 4) rfl exz289.symm (by decide) rfl (fun ls hl => ?_)
                        refine lv_goto (tgt := 37) hx hb dX4_tryRoutes_113 (by decide) ?_
                        exact ih37 H locs ls az223 az287 vz286 az224 nz225 vz226 rz285 xz289 (by show (2147483647 - xz289.toInt).toNat < n9_37; omega) hnz225 (by show 0 ≤ xz289.toInt; omega) hP hD hS (lv_sub hl [2, 3, 4, 1, 0] rfl)
                      · skip
                        refine W.eq (g2 := F0 m 94 ls [.ref (sY 5 0), .ref (qR 0)]) rfl ?_
                        have hPc := hP.sub (ws' := (List.flatten [(wSearch qR k vz183 az182)] ++ List.flatten [(wState (sY 5) k (vz226 5) (nz225 5) (az224 5))])) [0, 1, 2, 58, 59, 60, 61, 62, 63, 64, 65, 66, 67, 68] rfl
                        have hC : [0, 1, 2, 58, 59, 60, 61, 62, 63, 64, 65, 66, 67, 68].map (fun i => (List.flatten [(wSearch qR k vz183 az182), (wState (sY 0) k (vz226 0) (nz225 0) (az224 0)), (wState (sY 1) k (vz226 1) (nz225 1) (az224 1)), (wState (sY 2) k (vz226 2) (nz225 2) (az224 2)), (wState (sY 3) k (vz226 3) (nz225 3) (az224 3)), (wState (sY 4) k (vz226 4) (nz225 4) (az224 4)), (wState (sY 5) k (vz226 5) (nz225 5) (az224 5)), (wState (sY 6) k (vz226 6) (nz225 6) (az224 6)), (wState (sY 7) k (vz226 7) (nz225 7) (az224 7)), (wPlan qP k vP az223 eP)] ++ List.flatten [(wStoO qY k (qV 0) (qP 0) (sY 0 0) (sY 1 0) (sY 2 0) (sY 3 0) (sY 4 0) (sY 5 0) (sY 6 0) (sY 7 0)), (wValley qV k vV bV cV wV aV eV)])[i]?) = (List.flatten [(wSearch qR k vz183 az182)] ++ List.flatten [(wState (sY 5) k (vz226 5) (nz225 5) (az224 5))]).map some := rfl
                        have hDc := hD.sub [0, 1, 2, 58, 59, 60, 61, 62, 63, 64, 65, 66, 67, 68] (by decide) hC
                        have hFc := va_free hD hS hA [0, 1, 2, 58, 59, 60, 61, 62, 63, 64, 65, 66, 67, 68] hC
                        refine va_callv (va_runV (As := [.ref (sY 5 0)]) (rest := []) ⟨hx, hb, hml, hown, hts⟩ (c_X4_weigh l dC dI k H.size qR vz183 az182 (sY 5) (vz226 5) (nz225 5) (az224 5) (hnz225 5)) (cwV 1 hts (gk_V (wl_mem 16 rfl) (wl_mem 17 rfl) (wl_mem 18 rfl) (wl_mem 5 rfl) (fun w h => List.mem_cons_of_mem _ (List.mem_append_right _ (List.mem_append_right _ (List.mem_append_right _ (List.mem_append_right _ (List.mem_append_right _ (List.mem_append_right _ (List.mem_append_right _ (List.mem_append_right _ (List.mem_append_left _ h)))))))))) wkg_c_X4_weigh) rfl rfl rfl (by decide +kernel) ⟨Nat.le_of_ble_eq_true rfl, Nat.le_of_ble_eq_true rfl⟩) ⟨fun a U g mk q => by obtain ⟨q0, q1, qP, qK, qD⟩ := q; exact ⟨q0, q1, qP, va_K.moved (u := U) (U := U.calling g mk a) (Vm.Alike.refl U.vm) qK, qD⟩, va_recv hK hPc (ci := 4) (q0 := 0) rfl rfl, fun U hU hW => ⟨rfl, by rw [hU], by rw [hU]; exact hPc, va_K.moved hW.alike hK, hDc.weaken (fun _ _ _ _ => trivial)⟩⟩ rfl rfl hl.1 rfl (lv_room (Nat.le_of_ble_eq_true rfl)) dX4_tryRoutes_94 ⟨Nat.le_of_ble_eq_true rfl, Nat.le_of_ble_eq_true rfl⟩) hS (fun q _ h => hFc q h) hFc (fun u t H1 locs ht hvm gz290 hB hz1 hk1 hS => ?_)
                        obtain ⟨vz292, az293, hP1⟩ := hB
                        rw [ht] at hP1
                        obtain ⟨hP, hD⟩ := w_callC hP hD hk1 hP1 [0] rfl rfl (wk_memC [6] rfl) rfl
                        clear hPc hC hDc hFc hk1 hP1
                        generalize H1 = H at hP hS ⊢
                        have hP : va_P (dC, dI) vwCl (List.flatten [(wSearch qR k vz292 az293), (wState (sY 0) k (vz226 0) (nz225 0) (az224 0)), (wState (sY 1) k (vz226 1) (nz225 1) (az224 1)), (wState (sY 2) k (vz226 2) (nz225 2) (az224 2)), (wState (sY 3) k (vz226 3) (nz225 3) (az224 3)), (wState (sY 4) k (vz226 4) (nz225 4) (az224 4)), (wState (sY 5) k (vz226 5) (nz225 5) (az224 5)), (wState (sY 6) k (vz226 6) (nz225 6) (az224 6)), (wState (sY 7) k (vz226 7) (nz225 7) (az224 7)), (wPlan qP k vP az223 eP)] ++ List.flatten [(wStoO qY k (qV 0) (qP 0) (sY 0 0) (sY 1 0) (sY 2 0) (sY 3 0) (sY 4 0) (sY 5 0) (sY 6 0) (sY 7 0)), (wValley qV k vV bV cV wV aV eV)]) H := hP
                        have hD : va_D A (List.flatten [(wSearch qR k vz292 az293), (wState (sY 0) k (vz226 0) (nz225 0) (az224 0)), (wState (sY 1) k (vz226 1) (nz225 1) (az224 1)), (wState (sY 2) k (vz226 2) (nz225 2) (az224 2)), (wState (sY 3) k (vz226 3) (nz225 3) (az224 3)), (wState (sY 4) k (vz226 4) (nz225 4) (az224 4)), (wState (sY 5) k (vz226 5) (nz225 5) (az224 5)), (wState (sY 6) k (vz226 6) (nz225 6) (az224 6)), (wState (sY 7) k (vz226 7) (nz225 7) (az224 7)), (wPlan qP k vP az223 eP)] ++ List.flatten [(wStoO qY k (qV 0) (qP 0) (sY 0 0) (sY 1 0) (sY 2 0) (sY 3 0) (sY 4 0) (sY 5 0) (sY 6 0) (sY 7 0)), (wValley qV k vV bV cV wV aV eV)]) := hD
                        refine W.widen (k := 0) (n := 0) (Nat.le_refl 0) (Nat.le_refl 0) ?_
                        refine lv_aload_n hx hb dX4_tryRoutes_97 rfl (lv_at hl 0 rfl) ?_
                        refine lv_iload_n hx hb dX4_tryRoutes_98 rfl (lv_at hl 2 rfl) ?_
                        refine lv_aload_n hx hb dX4_tryRoutes_99 rfl (lv_at hl 1 rfl) ?_
                        refine va_get (D := (dC, dI)) (ci := 8) (v := .ref (qV 0)) (C := RX8) (T := TX8) (N := 4) hx hb hts (fun w h => List.mem_cons_of_mem _ (List.mem_append_right _ (List.mem_append_left _ h))) hown hK hP 94 rfl rfl 0 (by decide) (hts (.fieldLink RX4 18 "SagMemory$Story" "valley" "LSagMemory$Valley;") (wl_mem 0 rfl)) (fun _ h9 => h9) rfl dX4_tryRoutes_100 ?_
                        refine va_get (D := (dC, dI)) (ci := 10) (v := .int (bV 0)) (C := RX10) (T := TX10) (N := 16) hx hb hts (fun w h => List.mem_cons_of_mem _ (List.mem_append_right _ (List.mem_append_right _ (List.mem_append_left _ h)))) hown hK hP 96 rfl rfl 11 (by decide) (hts (.fieldLink RX4 58 "SagMemory$Valley" "bridges" "I") (wl_mem 19 rfl)) (fun _ h9 => h9) rfl dX4_tryRoutes_103 ?_
                        have bz294 := hbV 0
                        have hPc := hP.sub (ws' := (List.flatten [(wSearch qR k vz292 az293)] ++ List.flatten ([] : List va_W))) [0, 1, 2] rfl
                        have hC : [0, 1, 2].map (fun i => (List.flatten [(wSearch qR k vz292 az293), (wState (sY 0) k (vz226 0) (nz225 0) (az224 0)), (wState (sY 1) k (vz226 1) (nz225 1) (az224 1)), (wState (sY 2) k (vz226 2) (nz225 2) (az224 2)), (wState (sY 3) k (vz226 3) (nz225 3) (az224 3)), (wState (sY 4) k (vz226 4) (nz225 4) (az224 4)), (wState (sY 5) k (vz226 5) (nz225 5) (az224 5)), (wState (sY 6) k (vz226 6) (nz225 6) (az224 6)), (wState (sY 7) k (vz226 7) (nz225 7) (az224 7)), (wPlan qP k vP az223 eP)] ++ List.flatten [(wStoO qY k (qV 0) (qP 0) (sY 0 0) (sY 1 0) (sY 2 0) (sY 3 0) (sY 4 0) (sY 5 0) (sY 6 0) (sY 7 0)), (wValley qV k vV bV cV wV aV eV)])[i]?) = (List.flatten [(wSearch qR k vz292 az293)] ++ List.flatten ([] : List va_W)).map some := rfl
                        have hDc := hD.sub [0, 1, 2] (by decide) hC
                        have hFc := va_free hD hS hA [0, 1, 2] hC
                        refine va_calli (va_runV (As := [.int (cV 0), .int (bV 0)]) (rest := []) ⟨hx, hb, hml, hown, hts⟩ (c_X4_nextRoute l dC dI k H.size qR vz292 az293 (cV 0) (bV 0) (by show 0 ≤ (cV 0).toInt ∧ (cV 0).toInt ≤ 7; omega)) (cwV 2 hts (gk_V (wl_mem 20 rfl) (wl_mem 21 rfl) (wl_mem 22 rfl) (wl_mem 5 rfl) (fun w h => List.mem_cons_of_mem _ (List.mem_append_right _ (List.mem_append_right _ (List.mem_append_right _ (List.mem_append_right _ (List.mem_append_right _ (List.mem_append_right _ (List.mem_append_right _ (List.mem_append_right _ (List.mem_append_right _ (List.mem_append_left _ h))))))))))) wkg_c_X4_nextRoute) rfl rfl rfl (by decide +kernel) ⟨Nat.le_of_ble_eq_true rfl, Nat.le_of_ble_eq_true rfl⟩) ⟨fun a U g mk q => by obtain ⟨q0, q1, qP, qK, qD⟩ := q; exact ⟨q0, q1, qP, va_K.moved (u := U) (U := U.calling g mk a) (Vm.Alike.refl U.vm) qK, qD⟩, va_recv hK hPc (ci := 4) (q0 := 0) rfl rfl, fun U hU hW => ⟨rfl, by rw [hU], by rw [hU]; exact hPc, va_K.moved hW.alike hK, hDc.weaken (fun _ _ _ _ => trivial)⟩⟩ rfl rfl hl.1 rfl (lv_room (Nat.le_of_ble_eq_true rfl)) dX4_tryRoutes_106 ⟨Nat.le_of_ble_eq_true rfl, Nat.le_of_ble_eq_true rfl⟩) hS (fun q _ h => hFc q h) hFc (fun rz296 u t H1 locs ht hvm gz295 hB hz1 hk1 hS => ?_)
                        obtain ⟨vz297, az298, hP1⟩ := hB
                        rw [ht] at hP1
                        obtain ⟨hP, hD⟩ := w_callC hP hD hk1 hP1 [0] rfl rfl (fun _ h => absurd h List.not_mem_nil) rfl
                        clear hPc hC hDc hFc hk1 hP1
                        generalize H1 = H at hP hS ⊢
                        have hP : va_P (dC, dI) vwCl (List.flatten [(wSearch qR k vz297 az298), (wState (sY 0) k (vz226 0) (nz225 0) (az224 0)), (wState (sY 1) k (vz226 1) (nz225 1) (az224 1)), (wState (sY 2) k (vz226 2) (nz225 2) (az224 2)), (wState (sY 3) k (vz226 3) (nz225 3) (az224 3)), (wState (sY 4) k (vz226 4) (nz225 4) (az224 4)), (wState (sY 5) k (vz226 5) (nz225 5) (az224 5)), (wState (sY 6) k (vz226 6) (nz225 6) (az224 6)), (wState (sY 7) k (vz226 7) (nz225 7) (az224 7)), (wPlan qP k vP az223 eP)] ++ List.flatten [(wStoO qY k (qV 0) (qP 0) (sY 0 0) (sY 1 0) (sY 2 0) (sY 3 0) (sY 4 0) (sY 5 0) (sY 6 0) (sY 7 0)), (wValley qV k vV bV cV wV aV eV)]) H := hP
                        have hD : va_D A (List.flatten [(wSearch qR k vz297 az298), (wState (sY 0) k (vz226 0) (nz225 0) (az224 0)), (wState (sY 1) k (vz226 1) (nz225 1) (az224 1)), (wState (sY 2) k (vz226 2) (nz225 2) (az224 2)), (wState (sY 3) k (vz226 3) (nz225 3) (az224 3)), (wState (sY 4) k (vz226 4) (nz225 4) (az224 4)), (wState (sY 5) k (vz226 5) (nz225 5) (az224 5)), (wState (sY 6) k (vz226 6) (nz225 6) (az224 6)), (wState (sY 7) k (vz226 7) (nz225 7) (az224 7)), (wPlan qP k vP az223 eP)] ++ List.flatten [(wStoO qY k (qV 0) (qP 0) (sY 0 0) (sY 1 0) (sY 2 0) (sY 3 0) (sY 4 0) (sY 5 0) (sY 6 0) (sY 7 0)), (wValley qV k vV bV cV wV aV eV)]) := hD
                        refine W.widen (k := 0) (n := 0) (Nat.le_refl 0) (Nat.le_refl 0) ?_
                        have pz299 := gz295
                        have pz299 : (-1) ≤ rz296.toInt ∧ rz296.toInt ≤ 6 := pz299
                        refine lv_istore_n (lv' := [(3, .int rz296), (0, .ref (qR 0)), (1, .ref (qY 0)), (2, .int (cV 0)), (4, .int xz188), (5, .int xz227)]) hx hb dX4_tryRoutes_109 rfl hl (by decide) rfl (fun ls hl => ?_)
                        obtain ⟨xz300, exz300⟩ : ∃ y : Int32, y = xz188 + Int32.ofInt (1) := ⟨_, rfl⟩
                        have fxz300 : xz300.toInt = xz188.toInt + (1) := by rw [exz300]; exact fb_addI (y := Int32.ofInt (1)) (by show -2147483648 ≤ xz188.toInt + (1); omega) (by show xz188.toInt + (1) < 2147483648; omega)
                        refine lv_iinc (v := xz300) (lv' := [(4, .int xz300), (3, .int rz296), (0, .ref (qR 0)), (1, .ref (qY 0)), (2, .int (cV 0)), (5, .int xz227)]) hx hb dX4_tryRoutes_110 hl (k := 4) rfl exz300.symm (by decide) rfl (fun ls hl => ?_)
                        refine lv_goto (tgt := 37) hx hb dX4_tryRoutes_113 (by decide) ?_
                        exact ih37 H locs ls az223 az298 vz297 az224 nz225 vz226 rz296 xz300 (by show (2147483647 - xz300.toInt).toNat < n9_37; omega) hnz225 (by show 0 ≤ xz300.toInt; omega) hP hD hS (lv_sub hl [2, 3, 4, 1, 0] rfl)
                      · skip
                        refine W.eq (g2 := F0 m 94 ls [.ref (sY 6 0), .ref (qR 0)]) rfl ?_
                        have hPc := hP.sub (ws' := (List.flatten [(wSearch qR k vz183 az182)] ++ List.flatten [(wState (sY 6) k (vz226 6) (nz225 6) (az224 6))])) [0, 1, 2, 69, 70, 71, 72, 73, 74, 75, 76, 77, 78, 79] rfl
                        have hC : [0, 1, 2, 69, 70, 71, 72, 73, 74, 75, 76, 77, 78, 79].map (fun i => (List.flatten [(wSearch qR k vz183 az182), (wState (sY 0) k (vz226 0) (nz225 0) (az224 0)), (wState (sY 1) k (vz226 1) (nz225 1) (az224 1)), (wState (sY 2) k (vz226 2) (nz225 2) (az224 2)), (wState (sY 3) k (vz226 3) (nz225 3) (az224 3)), (wState (sY 4) k (vz226 4) (nz225 4) (az224 4)), (wState (sY 5) k (vz226 5) (nz225 5) (az224 5)), (wState (sY 6) k (vz226 6) (nz225 6) (az224 6)), (wState (sY 7) k (vz226 7) (nz225 7) (az224 7)), (wPlan qP k vP az223 eP)] ++ List.flatten [(wStoO qY k (qV 0) (qP 0) (sY 0 0) (sY 1 0) (sY 2 0) (sY 3 0) (sY 4 0) (sY 5 0) (sY 6 0) (sY 7 0)), (wValley qV k vV bV cV wV aV eV)])[i]?) = (List.flatten [(wSearch qR k vz183 az182)] ++ List.flatten [(wState (sY 6) k (vz226 6) (nz225 6) (az224 6))]).map some := rfl
                        have hDc := hD.sub [0, 1, 2, 69, 70, 71, 72, 73, 74, 75, 76, 77, 78, 79] (by decide) hC
                        have hFc := va_free hD hS hA [0, 1, 2, 69, 70, 71, 72, 73, 74, 75, 76, 77, 78, 79] hC
                        refine va_callv (va_runV (As := [.ref (sY 6 0)]) (rest := []) ⟨hx, hb, hml, hown, hts⟩ (c_X4_weigh l dC dI k H.size qR vz183 az182 (sY 6) (vz226 6) (nz225 6) (az224 6) (hnz225 6)) (cwV 1 hts (gk_V (wl_mem 16 rfl) (wl_mem 17 rfl) (wl_mem 18 rfl) (wl_mem 5 rfl) (fun w h => List.mem_cons_of_mem _ (List.mem_append_right _ (List.mem_append_right _ (List.mem_append_right _ (List.mem_append_right _ (List.mem_append_right _ (List.mem_append_right _ (List.mem_append_right _ (List.mem_append_right _ (List.mem_append_left _ h)))))))))) wkg_c_X4_weigh) rfl rfl rfl (by decide +kernel) ⟨Nat.le_of_ble_eq_true rfl, Nat.le_of_ble_eq_true rfl⟩) ⟨fun a U g mk q => by obtain ⟨q0, q1, qP, qK, qD⟩ := q; exact ⟨q0, q1, qP, va_K.moved (u := U) (U := U.calling g mk a) (Vm.Alike.refl U.vm) qK, qD⟩, va_recv hK hPc (ci := 4) (q0 := 0) rfl rfl, fun U hU hW => ⟨rfl, by rw [hU], by rw [hU]; exact hPc, va_K.moved hW.alike hK, hDc.weaken (fun _ _ _ _ => trivial)⟩⟩ rfl rfl hl.1 rfl (lv_room (Nat.le_of_ble_eq_true rfl)) dX4_tryRoutes_94 ⟨Nat.le_of_ble_eq_true rfl, Nat.le_of_ble_eq_true rfl⟩) hS (fun q _ h => hFc q h) hFc (fun u t H1 locs ht hvm gz301 hB hz1 hk1 hS => ?_)
                        obtain ⟨vz303, az304, hP1⟩ := hB
                        rw [ht] at hP1
                        obtain ⟨hP, hD⟩ := w_callC hP hD hk1 hP1 [0] rfl rfl (wk_memC [7] rfl) rfl
                        clear hPc hC hDc hFc hk1 hP1
                        generalize H1 = H at hP hS ⊢
                        have hP : va_P (dC, dI) vwCl (List.flatten [(wSearch qR k vz303 az304), (wState (sY 0) k (vz226 0) (nz225 0) (az224 0)), (wState (sY 1) k (vz226 1) (nz225 1) (az224 1)), (wState (sY 2) k (vz226 2) (nz225 2) (az224 2)), (wState (sY 3) k (vz226 3) (nz225 3) (az224 3)), (wState (sY 4) k (vz226 4) (nz225 4) (az224 4)), (wState (sY 5) k (vz226 5) (nz225 5) (az224 5)), (wState (sY 6) k (vz226 6) (nz225 6) (az224 6)), (wState (sY 7) k (vz226 7) (nz225 7) (az224 7)), (wPlan qP k vP az223 eP)] ++ List.flatten [(wStoO qY k (qV 0) (qP 0) (sY 0 0) (sY 1 0) (sY 2 0) (sY 3 0) (sY 4 0) (sY 5 0) (sY 6 0) (sY 7 0)), (wValley qV k vV bV cV wV aV eV)]) H := hP
                        have hD : va_D A (List.flatten [(wSearch qR k vz303 az304), (wState (sY 0) k (vz226 0) (nz225 0) (az224 0)), (wState (sY 1) k (vz226 1) (nz225 1) (az224 1)), (wState (sY 2) k (vz226 2) (nz225 2) (az224 2)), (wState (sY 3) k (vz226 3) (nz225 3) (az224 3)), (wState (sY 4) k (vz226 4) (nz225 4) (az224 4)), (wState (sY 5) k (vz226 5) (nz225 5) (az224 5)), (wState (sY 6) k (vz226 6) (nz225 6) (az224 6)), (wState (sY 7) k (vz226 7) (nz225 7) (az224 7)), (wPlan qP k vP az223 eP)] ++ List.flatten [(wStoO qY k (qV 0) (qP 0) (sY 0 0) (sY 1 0) (sY 2 0) (sY 3 0) (sY 4 0) (sY 5 0) (sY 6 0) (sY 7 0)), (wValley qV k vV bV cV wV aV eV)]) := hD
                        refine W.widen (k := 0) (n := 0) (Nat.le_refl 0) (Nat.le_refl 0) ?_
                        refine lv_aload_n hx hb dX4_tryRoutes_97 rfl (lv_at hl 0 rfl) ?_
                        refine lv_iload_n hx hb dX4_tryRoutes_98 rfl (lv_at hl 2 rfl) ?_
                        refine lv_aload_n hx hb dX4_tryRoutes_99 rfl (lv_at hl 1 rfl) ?_
                        refine va_get (D := (dC, dI)) (ci := 8) (v := .ref (qV 0)) (C := RX8) (T := TX8) (N := 4) hx hb hts (fun w h => List.mem_cons_of_mem _ (List.mem_append_right _ (List.mem_append_left _ h))) hown hK hP 94 rfl rfl 0 (by decide) (hts (.fieldLink RX4 18 "SagMemory$Story" "valley" "LSagMemory$Valley;") (wl_mem 0 rfl)) (fun _ h9 => h9) rfl dX4_tryRoutes_100 ?_
                        refine va_get (D := (dC, dI)) (ci := 10) (v := .int (bV 0)) (C := RX10) (T := TX10) (N := 16) hx hb hts (fun w h => List.mem_cons_of_mem _ (List.mem_append_right _ (List.mem_append_right _ (List.mem_append_left _ h)))) hown hK hP 96 rfl rfl 11 (by decide) (hts (.fieldLink RX4 58 "SagMemory$Valley" "bridges" "I") (wl_mem 19 rfl)) (fun _ h9 => h9) rfl dX4_tryRoutes_103 ?_
                        have bz305 := hbV 0
                        have hPc := hP.sub (ws' := (List.flatten [(wSearch qR k vz303 az304)] ++ List.flatten ([] : List va_W))) [0, 1, 2] rfl
                        have hC : [0, 1, 2].map (fun i => (List.flatten [(wSearch qR k vz303 az304), (wState (sY 0) k (vz226 0) (nz225 0) (az224 0)), (wState (sY 1) k (vz226 1) (nz225 1) (az224 1)), (wState (sY 2) k (vz226 2) (nz225 2) (az224 2)), (wState (sY 3) k (vz226 3) (nz225 3) (az224 3)), (wState (sY 4) k (vz226 4) (nz225 4) (az224 4)), (wState (sY 5) k (vz226 5) (nz225 5) (az224 5)), (wState (sY 6) k (vz226 6) (nz225 6) (az224 6)), (wState (sY 7) k (vz226 7) (nz225 7) (az224 7)), (wPlan qP k vP az223 eP)] ++ List.flatten [(wStoO qY k (qV 0) (qP 0) (sY 0 0) (sY 1 0) (sY 2 0) (sY 3 0) (sY 4 0) (sY 5 0) (sY 6 0) (sY 7 0)), (wValley qV k vV bV cV wV aV eV)])[i]?) = (List.flatten [(wSearch qR k vz303 az304)] ++ List.flatten ([] : List va_W)).map some := rfl
                        have hDc := hD.sub [0, 1, 2] (by decide) hC
                        have hFc := va_free hD hS hA [0, 1, 2] hC
                        refine va_calli (va_runV (As := [.int (cV 0), .int (bV 0)]) (rest := []) ⟨hx, hb, hml, hown, hts⟩ (c_X4_nextRoute l dC dI k H.size qR vz303 az304 (cV 0) (bV 0) (by show 0 ≤ (cV 0).toInt ∧ (cV 0).toInt ≤ 7; omega)) (cwV 2 hts (gk_V (wl_mem 20 rfl) (wl_mem 21 rfl) (wl_mem 22 rfl) (wl_mem 5 rfl) (fun w h => List.mem_cons_of_mem _ (List.mem_append_right _ (List.mem_append_right _ (List.mem_append_right _ (List.mem_append_right _ (List.mem_append_right _ (List.mem_append_right _ (List.mem_append_right _ (List.mem_append_right _ (List.mem_append_right _ (List.mem_append_left _ h))))))))))) wkg_c_X4_nextRoute) rfl rfl rfl (by decide +kernel) ⟨Nat.le_of_ble_eq_true rfl, Nat.le_of_ble_eq_true rfl⟩) ⟨fun a U g mk q => by obtain ⟨q0, q1, qP, qK, qD⟩ := q; exact ⟨q0, q1, qP, va_K.moved (u := U) (U := U.calling g mk a) (Vm.Alike.refl U.vm) qK, qD⟩, va_recv hK hPc (ci := 4) (q0 := 0) rfl rfl, fun U hU hW => ⟨rfl, by rw [hU], by rw [hU]; exact hPc, va_K.moved hW.alike hK, hDc.weaken (fun _ _ _ _ => trivial)⟩⟩ rfl rfl hl.1 rfl (lv_room (Nat.le_of_ble_eq_true rfl)) dX4_tryRoutes_106 ⟨Nat.le_of_ble_eq_true rfl, Nat.le_of_ble_eq_true rfl⟩) hS (fun q _ h => hFc q h) hFc (fun rz307 u t H1 locs ht hvm gz306 hB hz1 hk1 hS => ?_)
                        obtain ⟨vz308, az309, hP1⟩ := hB
                        rw [ht] at hP1
                        obtain ⟨hP, hD⟩ := w_callC hP hD hk1 hP1 [0] rfl rfl (fun _ h => absurd h List.not_mem_nil) rfl
                        clear hPc hC hDc hFc hk1 hP1
                        generalize H1 = H at hP hS ⊢
                        have hP : va_P (dC, dI) vwCl (List.flatten [(wSearch qR k vz308 az309), (wState (sY 0) k (vz226 0) (nz225 0) (az224 0)), (wState (sY 1) k (vz226 1) (nz225 1) (az224 1)), (wState (sY 2) k (vz226 2) (nz225 2) (az224 2)), (wState (sY 3) k (vz226 3) (nz225 3) (az224 3)), (wState (sY 4) k (vz226 4) (nz225 4) (az224 4)), (wState (sY 5) k (vz226 5) (nz225 5) (az224 5)), (wState (sY 6) k (vz226 6) (nz225 6) (az224 6)), (wState (sY 7) k (vz226 7) (nz225 7) (az224 7)), (wPlan qP k vP az223 eP)] ++ List.flatten [(wStoO qY k (qV 0) (qP 0) (sY 0 0) (sY 1 0) (sY 2 0) (sY 3 0) (sY 4 0) (sY 5 0) (sY 6 0) (sY 7 0)), (wValley qV k vV bV cV wV aV eV)]) H := hP
                        have hD : va_D A (List.flatten [(wSearch qR k vz308 az309), (wState (sY 0) k (vz226 0) (nz225 0) (az224 0)), (wState (sY 1) k (vz226 1) (nz225 1) (az224 1)), (wState (sY 2) k (vz226 2) (nz225 2) (az224 2)), (wState (sY 3) k (vz226 3) (nz225 3) (az224 3)), (wState (sY 4) k (vz226 4) (nz225 4) (az224 4)), (wState (sY 5) k (vz226 5) (nz225 5) (az224 5)), (wState (sY 6) k (vz226 6) (nz225 6) (az224 6)), (wState (sY 7) k (vz226 7) (nz225 7) (az224 7)), (wPlan qP k vP az223 eP)] ++ List.flatten [(wStoO qY k (qV 0) (qP 0) (sY 0 0) (sY 1 0) (sY 2 0) (sY 3 0) (sY 4 0) (sY 5 0) (sY 6 0) (sY 7 0)), (wValley qV k vV bV cV wV aV eV)]) := hD
                        refine W.widen (k := 0) (n := 0) (Nat.le_refl 0) (Nat.le_refl 0) ?_
                        have pz310 := gz306
                        have pz310 : (-1) ≤ rz307.toInt ∧ rz307.toInt ≤ 6 := pz310
                        refine lv_istore_n (lv' := [(3, .int rz307), (0, .ref (qR 0)), (1, .ref (qY 0)), (2, .int (cV 0)), (4, .int xz188), (5, .int xz227)]) hx hb dX4_tryRoutes_109 rfl hl (by decide) rfl (fun ls hl => ?_)
                        obtain ⟨xz311, exz311⟩ : ∃ y : Int32, y = xz188 + Int32.ofInt (1) := ⟨_, rfl⟩
                        have fxz311 : xz311.toInt = xz188.toInt + (1) := by rw [exz311]; exact fb_addI (y := Int32.ofInt (1)) (by show -2147483648 ≤ xz188.toInt + (1); omega) (by show xz188.toInt + (1) < 2147483648; omega)
                        refine lv_iinc (v := xz311) (lv' := [(4, .int xz311), (3, .int rz307), (0, .ref (qR 0)), (1, .ref (qY 0)), (2, .int (cV 0)), (5, .int xz227)]) hx hb dX4_tryRoutes_110 hl (k := 4) rfl exz311.symm (by decide) rfl (fun ls hl => ?_)
                        refine lv_goto (tgt := 37) hx hb dX4_tryRoutes_113 (by decide) ?_
                        exact ih37 H locs ls az223 az309 vz308 az224 nz225 vz226 rz307 xz311 (by show (2147483647 - xz311.toInt).toNat < n9_37; omega) hnz225 (by show 0 ≤ xz311.toInt; omega) hP hD hS (lv_sub hl [2, 3, 4, 1, 0] rfl)
                      · skip
                        refine W.eq (g2 := F0 m 94 ls [.ref (sY 7 0), .ref (qR 0)]) rfl ?_
                        have hPc := hP.sub (ws' := (List.flatten [(wSearch qR k vz183 az182)] ++ List.flatten [(wState (sY 7) k (vz226 7) (nz225 7) (az224 7))])) [0, 1, 2, 80, 81, 82, 83, 84, 85, 86, 87, 88, 89, 90] rfl
                        have hC : [0, 1, 2, 80, 81, 82, 83, 84, 85, 86, 87, 88, 89, 90].map (fun i => (List.flatten [(wSearch qR k vz183 az182), (wState (sY 0) k (vz226 0) (nz225 0) (az224 0)), (wState (sY 1) k (vz226 1) (nz225 1) (az224 1)), (wState (sY 2) k (vz226 2) (nz225 2) (az224 2)), (wState (sY 3) k (vz226 3) (nz225 3) (az224 3)), (wState (sY 4) k (vz226 4) (nz225 4) (az224 4)), (wState (sY 5) k (vz226 5) (nz225 5) (az224 5)), (wState (sY 6) k (vz226 6) (nz225 6) (az224 6)), (wState (sY 7) k (vz226 7) (nz225 7) (az224 7)), (wPlan qP k vP az223 eP)] ++ List.flatten [(wStoO qY k (qV 0) (qP 0) (sY 0 0) (sY 1 0) (sY 2 0) (sY 3 0) (sY 4 0) (sY 5 0) (sY 6 0) (sY 7 0)), (wValley qV k vV bV cV wV aV eV)])[i]?) = (List.flatten [(wSearch qR k vz183 az182)] ++ List.flatten [(wState (sY 7) k (vz226 7) (nz225 7) (az224 7))]).map some := rfl
                        have hDc := hD.sub [0, 1, 2, 80, 81, 82, 83, 84, 85, 86, 87, 88, 89, 90] (by decide) hC
                        have hFc := va_free hD hS hA [0, 1, 2, 80, 81, 82, 83, 84, 85, 86, 87, 88, 89, 90] hC
                        refine va_callv (va_runV (As := [.ref (sY 7 0)]) (rest := []) ⟨hx, hb, hml, hown, hts⟩ (c_X4_weigh l dC dI k H.size qR vz183 az182 (sY 7) (vz226 7) (nz225 7) (az224 7) (hnz225 7)) (cwV 1 hts (gk_V (wl_mem 16 rfl) (wl_mem 17 rfl) (wl_mem 18 rfl) (wl_mem 5 rfl) (fun w h => List.mem_cons_of_mem _ (List.mem_append_right _ (List.mem_append_right _ (List.mem_append_right _ (List.mem_append_right _ (List.mem_append_right _ (List.mem_append_right _ (List.mem_append_right _ (List.mem_append_right _ (List.mem_append_left _ h)))))))))) wkg_c_X4_weigh) rfl rfl rfl (by decide +kernel) ⟨Nat.le_of_ble_eq_true rfl, Nat.le_of_ble_eq_true rfl⟩) ⟨fun a U g mk q => by obtain ⟨q0, q1, qP, qK, qD⟩ := q; exact ⟨q0, q1, qP, va_K.moved (u := U) (U := U.calling g mk a) (Vm.Alike.refl U.vm) qK, qD⟩, va_recv hK hPc (ci := 4) (q0 := 0) rfl rfl, fun U hU hW => ⟨rfl, by rw [hU], by rw [hU]; exact hPc, va_K.moved hW.alike hK, hDc.weaken (fun _ _ _ _ => trivial)⟩⟩ rfl rfl hl.1 rfl (lv_room (Nat.le_of_ble_eq_true rfl)) dX4_tryRoutes_94 ⟨Nat.le_of_ble_eq_true rfl, Nat.le_of_ble_eq_true rfl⟩) hS (fun q _ h => hFc q h) hFc (fun u t H1 locs ht hvm gz312 hB hz1 hk1 hS => ?_)
                        obtain ⟨vz314, az315, hP1⟩ := hB
                        rw [ht] at hP1
                        obtain ⟨hP, hD⟩ := w_callC hP hD hk1 hP1 [0] rfl rfl (wk_memC [8] rfl) rfl
                        clear hPc hC hDc hFc hk1 hP1
                        generalize H1 = H at hP hS ⊢
                        have hP : va_P (dC, dI) vwCl (List.flatten [(wSearch qR k vz314 az315), (wState (sY 0) k (vz226 0) (nz225 0) (az224 0)), (wState (sY 1) k (vz226 1) (nz225 1) (az224 1)), (wState (sY 2) k (vz226 2) (nz225 2) (az224 2)), (wState (sY 3) k (vz226 3) (nz225 3) (az224 3)), (wState (sY 4) k (vz226 4) (nz225 4) (az224 4)), (wState (sY 5) k (vz226 5) (nz225 5) (az224 5)), (wState (sY 6) k (vz226 6) (nz225 6) (az224 6)), (wState (sY 7) k (vz226 7) (nz225 7) (az224 7)), (wPlan qP k vP az223 eP)] ++ List.flatten [(wStoO qY k (qV 0) (qP 0) (sY 0 0) (sY 1 0) (sY 2 0) (sY 3 0) (sY 4 0) (sY 5 0) (sY 6 0) (sY 7 0)), (wValley qV k vV bV cV wV aV eV)]) H := hP
                        have hD : va_D A (List.flatten [(wSearch qR k vz314 az315), (wState (sY 0) k (vz226 0) (nz225 0) (az224 0)), (wState (sY 1) k (vz226 1) (nz225 1) (az224 1)), (wState (sY 2) k (vz226 2) (nz225 2) (az224 2)), (wState (sY 3) k (vz226 3) (nz225 3) (az224 3)), (wState (sY 4) k (vz226 4) (nz225 4) (az224 4)), (wState (sY 5) k (vz226 5) (nz225 5) (az224 5)), (wState (sY 6) k (vz226 6) (nz225 6) (az224 6)), (wState (sY 7) k (vz226 7) (nz225 7) (az224 7)), (wPlan qP k vP az223 eP)] ++ List.flatten [(wStoO qY k (qV 0) (qP 0) (sY 0 0) (sY 1 0) (sY 2 0) (sY 3 0) (sY 4 0) (sY 5 0) (sY 6 0) (sY 7 0)), (wValley qV k vV bV cV wV aV eV)]) := hD
                        refine W.widen (k := 0) (n := 0) (Nat.le_refl 0) (Nat.le_refl 0) ?_
                        refine lv_aload_n hx hb dX4_tryRoutes_97 rfl (lv_at hl 0 rfl) ?_
                        refine lv_iload_n hx hb dX4_tryRoutes_98 rfl (lv_at hl 2 rfl) ?_
                        refine lv_aload_n hx hb dX4_tryRoutes_99 rfl (lv_at hl 1 rfl) ?_
                        refine va_get (D := (dC, dI)) (ci := 8) (v := .ref (qV 0)) (C := RX8) (T := TX8) (N := 4) hx hb hts (fun w h => List.mem_cons_of_mem _ (List.mem_append_right _ (List.mem_append_left _ h))) hown hK hP 94 rfl rfl 0 (by decide) (hts (.fieldLink RX4 18 "SagMemory$Story" "valley" "LSagMemory$Valley;") (wl_mem 0 rfl)) (fun _ h9 => h9) rfl dX4_tryRoutes_100 ?_
                        refine va_get (D := (dC, dI)) (ci := 10) (v := .int (bV 0)) (C := RX10) (T := TX10) (N := 16) hx hb hts (fun w h => List.mem_cons_of_mem _ (List.mem_append_right _ (List.mem_append_right _ (List.mem_append_left _ h)))) hown hK hP 96 rfl rfl 11 (by decide) (hts (.fieldLink RX4 58 "SagMemory$Valley" "bridges" "I") (wl_mem 19 rfl)) (fun _ h9 => h9) rfl dX4_tryRoutes_103 ?_
                        have bz316 := hbV 0
                        have hPc := hP.sub (ws' := (List.flatten [(wSearch qR k vz314 az315)] ++ List.flatten ([] : List va_W))) [0, 1, 2] rfl
                        have hC : [0, 1, 2].map (fun i => (List.flatten [(wSearch qR k vz314 az315), (wState (sY 0) k (vz226 0) (nz225 0) (az224 0)), (wState (sY 1) k (vz226 1) (nz225 1) (az224 1)), (wState (sY 2) k (vz226 2) (nz225 2) (az224 2)), (wState (sY 3) k (vz226 3) (nz225 3) (az224 3)), (wState (sY 4) k (vz226 4) (nz225 4) (az224 4)), (wState (sY 5) k (vz226 5) (nz225 5) (az224 5)), (wState (sY 6) k (vz226 6) (nz225 6) (az224 6)), (wState (sY 7) k (vz226 7) (nz225 7) (az224 7)), (wPlan qP k vP az223 eP)] ++ List.flatten [(wStoO qY k (qV 0) (qP 0) (sY 0 0) (sY 1 0) (sY 2 0) (sY 3 0) (sY 4 0) (sY 5 0) (sY 6 0) (sY 7 0)), (wValley qV k vV bV cV wV aV eV)])[i]?) = (List.flatten [(wSearch qR k vz314 az315)] ++ List.flatten ([] : List va_W)).map some := rfl
                        have hDc := hD.sub [0, 1, 2] (by decide) hC
                        have hFc := va_free hD hS hA [0, 1, 2] hC
                        refine va_calli (va_runV (As := [.int (cV 0), .int (bV 0)]) (rest := []) ⟨hx, hb, hml, hown, hts⟩ (c_X4_nextRoute l dC dI k H.size qR vz314 az315 (cV 0) (bV 0) (by show 0 ≤ (cV 0).toInt ∧ (cV 0).toInt ≤ 7; omega)) (cwV 2 hts (gk_V (wl_mem 20 rfl) (wl_mem 21 rfl) (wl_mem 22 rfl) (wl_mem 5 rfl) (fun w h => List.mem_cons_of_mem _ (List.mem_append_right _ (List.mem_append_right _ (List.mem_append_right _ (List.mem_append_right _ (List.mem_append_right _ (List.mem_append_right _ (List.mem_append_right _ (List.mem_append_right _ (List.mem_append_right _ (List.mem_append_left _ h))))))))))) wkg_c_X4_nextRoute) rfl rfl rfl (by decide +kernel) ⟨Nat.le_of_ble_eq_true rfl, Nat.le_of_ble_eq_true rfl⟩) ⟨fun a U g mk q => by obtain ⟨q0, q1, qP, qK, qD⟩ := q; exact ⟨q0, q1, qP, va_K.moved (u := U) (U := U.calling g mk a) (Vm.Alike.refl U.vm) qK, qD⟩, va_recv hK hPc (ci := 4) (q0 := 0) rfl rfl, fun U hU hW => ⟨rfl, by rw [hU], by rw [hU]; exact hPc, va_K.moved hW.alike hK, hDc.weaken (fun _ _ _ _ => trivial)⟩⟩ rfl rfl hl.1 rfl (lv_room (Nat.le_of_ble_eq_true rfl)) dX4_tryRoutes_106 ⟨Nat.le_of_ble_eq_true rfl, Nat.le_of_ble_eq_true rfl⟩) hS (fun q _ h => hFc q h) hFc (fun rz318 u t H1 locs ht hvm gz317 hB hz1 hk1 hS => ?_)
                        obtain ⟨vz319, az320, hP1⟩ := hB
                        rw [ht] at hP1
                        obtain ⟨hP, hD⟩ := w_callC hP hD hk1 hP1 [0] rfl rfl (fun _ h => absurd h List.not_mem_nil) rfl
                        clear hPc hC hDc hFc hk1 hP1
                        generalize H1 = H at hP hS ⊢
                        have hP : va_P (dC, dI) vwCl (List.flatten [(wSearch qR k vz319 az320), (wState (sY 0) k (vz226 0) (nz225 0) (az224 0)), (wState (sY 1) k (vz226 1) (nz225 1) (az224 1)), (wState (sY 2) k (vz226 2) (nz225 2) (az224 2)), (wState (sY 3) k (vz226 3) (nz225 3) (az224 3)), (wState (sY 4) k (vz226 4) (nz225 4) (az224 4)), (wState (sY 5) k (vz226 5) (nz225 5) (az224 5)), (wState (sY 6) k (vz226 6) (nz225 6) (az224 6)), (wState (sY 7) k (vz226 7) (nz225 7) (az224 7)), (wPlan qP k vP az223 eP)] ++ List.flatten [(wStoO qY k (qV 0) (qP 0) (sY 0 0) (sY 1 0) (sY 2 0) (sY 3 0) (sY 4 0) (sY 5 0) (sY 6 0) (sY 7 0)), (wValley qV k vV bV cV wV aV eV)]) H := hP
                        have hD : va_D A (List.flatten [(wSearch qR k vz319 az320), (wState (sY 0) k (vz226 0) (nz225 0) (az224 0)), (wState (sY 1) k (vz226 1) (nz225 1) (az224 1)), (wState (sY 2) k (vz226 2) (nz225 2) (az224 2)), (wState (sY 3) k (vz226 3) (nz225 3) (az224 3)), (wState (sY 4) k (vz226 4) (nz225 4) (az224 4)), (wState (sY 5) k (vz226 5) (nz225 5) (az224 5)), (wState (sY 6) k (vz226 6) (nz225 6) (az224 6)), (wState (sY 7) k (vz226 7) (nz225 7) (az224 7)), (wPlan qP k vP az223 eP)] ++ List.flatten [(wStoO qY k (qV 0) (qP 0) (sY 0 0) (sY 1 0) (sY 2 0) (sY 3 0) (sY 4 0) (sY 5 0) (sY 6 0) (sY 7 0)), (wValley qV k vV bV cV wV aV eV)]) := hD
                        refine W.widen (k := 0) (n := 0) (Nat.le_refl 0) (Nat.le_refl 0) ?_
                        have pz321 := gz317
                        have pz321 : (-1) ≤ rz318.toInt ∧ rz318.toInt ≤ 6 := pz321
                        refine lv_istore_n (lv' := [(3, .int rz318), (0, .ref (qR 0)), (1, .ref (qY 0)), (2, .int (cV 0)), (4, .int xz188), (5, .int xz227)]) hx hb dX4_tryRoutes_109 rfl hl (by decide) rfl (fun ls hl => ?_)
                        obtain ⟨xz322, exz322⟩ : ∃ y : Int32, y = xz188 + Int32.ofInt (1) := ⟨_, rfl⟩
                        have fxz322 : xz322.toInt = xz188.toInt + (1) := by rw [exz322]; exact fb_addI (y := Int32.ofInt (1)) (by show -2147483648 ≤ xz188.toInt + (1); omega) (by show xz188.toInt + (1) < 2147483648; omega)
                        refine lv_iinc (v := xz322) (lv' := [(4, .int xz322), (3, .int rz318), (0, .ref (qR 0)), (1, .ref (qY 0)), (2, .int (cV 0)), (5, .int xz227)]) hx hb dX4_tryRoutes_110 hl (k := 4) rfl exz322.symm (by decide) rfl (fun ls hl => ?_)
                        refine lv_goto (tgt := 37) hx hb dX4_tryRoutes_113 (by decide) ?_
                        exact ih37 H locs ls az223 az320 vz319 az224 nz225 vz226 rz318 xz322 (by show (2147483647 - xz322.toInt).toNat < n9_37; omega) hnz225 (by show 0 ≤ xz322.toInt; omega) hP hD hS (lv_sub hl [2, 3, 4, 1, 0] rfl)
                    · skip
                      have bz323 := fb_rng xz227
                      have zz324 : ¬ (cV 0).toInt ≤ xz227.toInt := fun h9 => cz230 (zi_le.mpr h9)
                      refine lv_aload_n hx hb dX4_tryRoutes_58 rfl (lv_at hl 1 rfl) ?_
                      refine va_get (D := (dC, dI)) (ci := 8) (v := .ref (qP 0)) (C := RX8) (T := TX8) (N := 4) hx hb hts (fun w h => List.mem_cons_of_mem _ (List.mem_append_right _ (List.mem_append_left _ h))) hown hK hP 94 rfl rfl 1 (by decide) (hts (.fieldLink RX4 49 "SagMemory$Story" "plan" "LSagMemory$Plan;") (wl_mem 7 rfl)) (fun _ h9 => h9) rfl dX4_tryRoutes_59 ?_
                      refine va_get (D := (dC, dI)) (ci := 3) (v := .ref (qP 2)) (C := RX3) (T := TX3) (N := 4) hx hb hts (fun w h => List.mem_cons_of_mem _ (List.mem_append_right _ (List.mem_append_right _ (List.mem_append_right _ (List.mem_append_right _ (List.mem_append_right _ (List.mem_append_left _ h))))))) hown hK hP 91 rfl rfl 1 (by decide) (hts (.fieldLink RX4 53 "SagMemory$Plan" "ways" "[I") (wl_mem 8 rfl)) (fun _ h9 => h9) rfl dX4_tryRoutes_62 ?_
                      refine lv_iload hx hb dX4_tryRoutes_65 (lv_at hl 4 rfl) ?_
                      refine lv_aload_n hx hb dX4_tryRoutes_67 rfl (lv_at hl 0 rfl) ?_
                      refine va_get (D := (dC, dI)) (ci := 4) (v := .ref (qR 1)) (C := RX4) (T := TX4) (N := 6) hx hb hts (fun w h => List.mem_cons_of_mem _ (List.mem_append_right _ (List.mem_append_right _ (List.mem_append_right _ (List.mem_append_right _ (List.mem_append_left _ h)))))) hown hK hP 0 rfl rfl 0 (by decide) (hts (.fieldLink RX4 9 "SagMemory$Search" "tried" "[I") (wl_mem 6 rfl)) (fun _ h9 => h9) rfl dX4_tryRoutes_68 ?_
                      refine lv_iload hx hb dX4_tryRoutes_71 (lv_at hl 4 rfl) ?_
                      refine va_iald hx hb hK hP 1 0 rfl rfl (vp_in_iff.mpr ⟨by omega, by omega⟩) dX4_tryRoutes_73 ?_
                      refine lv_topi (fun xz325 exz325 => ?_)
                      refine va_iast hx hb hK hP hD hS 93 0 rfl rfl (vp_in_iff.mpr ⟨by omega, by omega⟩) dX4_tryRoutes_74 (fun H locs hP hD hS => ?_)
                      obtain ⟨fz326, efz326, hP, hD⟩ : ∃ fz326 : Nat → Int32, fz326 = upd (az223 0) xz227.toNatClampNeg xz325 ∧ va_P (dC, dI) vwCl (List.flatten [(wSearch qR k vz183 az182), (wState (sY 0) k (vz226 0) (nz225 0) (az224 0)), (wState (sY 1) k (vz226 1) (nz225 1) (az224 1)), (wState (sY 2) k (vz226 2) (nz225 2) (az224 2)), (wState (sY 3) k (vz226 3) (nz225 3) (az224 3)), (wState (sY 4) k (vz226 4) (nz225 4) (az224 4)), (wState (sY 5) k (vz226 5) (nz225 5) (az224 5)), (wState (sY 6) k (vz226 6) (nz225 6) (az224 6)), (wState (sY 7) k (vz226 7) (nz225 7) (az224 7)), (wPlan qP k vP (va_up az223 0 fz326) eP)] ++ List.flatten [(wStoO qY k (qV 0) (qP 0) (sY 0 0) (sY 1 0) (sY 2 0) (sY 3 0) (sY 4 0) (sY 5 0) (sY 6 0) (sY 7 0)), (wValley qV k vV bV cV wV aV eV)]) H ∧ va_D A (List.flatten [(wSearch qR k vz183 az182), (wState (sY 0) k (vz226 0) (nz225 0) (az224 0)), (wState (sY 1) k (vz226 1) (nz225 1) (az224 1)), (wState (sY 2) k (vz226 2) (nz225 2) (az224 2)), (wState (sY 3) k (vz226 3) (nz225 3) (az224 3)), (wState (sY 4) k (vz226 4) (nz225 4) (az224 4)), (wState (sY 5) k (vz226 5) (nz225 5) (az224 5)), (wState (sY 6) k (vz226 6) (nz225 6) (az224 6)), (wState (sY 7) k (vz226 7) (nz225 7) (az224 7)), (wPlan qP k vP (va_up az223 0 fz326) eP)] ++ List.flatten [(wStoO qY k (qV 0) (qP 0) (sY 0 0) (sY 1 0) (sY 2 0) (sY 3 0) (sY 4 0) (sY 5 0) (sY 6 0) (sY 7 0)), (wValley qV k vV bV cV wV aV eV)]) := ⟨_, rfl, hP, hD⟩
                      have kfz326 : fz326 xz227.toNatClampNeg = xz325 := by rw [efz326]; exact pk_us
                      refine lv_aload_n hx hb dX4_tryRoutes_75 rfl (lv_at hl 1 rfl) ?_
                      refine lv_iload hx hb dX4_tryRoutes_76 (lv_at hl 4 rfl) ?_
                      refine lv_iload hx hb dX4_tryRoutes_78 (lv_at hl 4 rfl) ?_
                      have hPc : va_P (dC, dI) vwCl (List.flatten [(wState (sY 0) k (vz226 0) (nz225 0) (az224 0)), (wState (sY 1) k (vz226 1) (nz225 1) (az224 1)), (wState (sY 2) k (vz226 2) (nz225 2) (az224 2)), (wState (sY 3) k (vz226 3) (nz225 3) (az224 3)), (wState (sY 4) k (vz226 4) (nz225 4) (az224 4)), (wState (sY 5) k (vz226 5) (nz225 5) (az224 5)), (wState (sY 6) k (vz226 6) (nz225 6) (az224 6)), (wState (sY 7) k (vz226 7) (nz225 7) (az224 7))] ++ List.flatten [(wStoO qY k (qV 0) (qP 0) (sY 0 0) (sY 1 0) (sY 2 0) (sY 3 0) (sY 4 0) (sY 5 0) (sY 6 0) (sY 7 0)), (wValley qV k vV bV cV wV aV eV), (wPlan qP k vP (va_up az223 0 fz326) eP)]) H := wc_subP hP [1, 2, 3, 4, 5, 6, 7, 8, 10, 11, 9] rfl
                      have hDc : va_D A (List.flatten [(wState (sY 0) k (vz226 0) (nz225 0) (az224 0)), (wState (sY 1) k (vz226 1) (nz225 1) (az224 1)), (wState (sY 2) k (vz226 2) (nz225 2) (az224 2)), (wState (sY 3) k (vz226 3) (nz225 3) (az224 3)), (wState (sY 4) k (vz226 4) (nz225 4) (az224 4)), (wState (sY 5) k (vz226 5) (nz225 5) (az224 5)), (wState (sY 6) k (vz226 6) (nz225 6) (az224 6)), (wState (sY 7) k (vz226 7) (nz225 7) (az224 7))] ++ List.flatten [(wStoO qY k (qV 0) (qP 0) (sY 0 0) (sY 1 0) (sY 2 0) (sY 3 0) (sY 4 0) (sY 5 0) (sY 6 0) (sY 7 0)), (wValley qV k vV bV cV wV aV eV), (wPlan qP k vP (va_up az223 0 fz326) eP)]) := wc_subD hD [1, 2, 3, 4, 5, 6, 7, 8, 10, 11, 9] rfl rfl
                      have hFc := wc_free hDc hS hA
                      refine va_callv (va_runV (As := [.int xz227, .int xz227]) (rest := []) ⟨hx, hb, hml, hown, hts⟩ (c_X8_step l dC dI k H.size qY sY vz226 nz225 az224 qV vV bV cV wV aV eV qP vP (va_up az223 0 fz326) eP xz227 xz227 hnz225 hbV hcV hwV heV heP) (cwV 2 hts (gk_V (wl_mem 9 rfl) (wl_mem 10 rfl) (wl_mem 11 rfl) (wl_mem 12 rfl) (fun w h => List.mem_cons_of_mem _ (List.mem_append_right _ (List.mem_append_right _ (List.mem_append_right _ (List.mem_append_right _ (List.mem_append_right _ (List.mem_append_right _ (List.mem_append_left _ h)))))))) wkg_c_X8_step) rfl rfl rfl (by decide +kernel) ⟨Nat.le_of_ble_eq_true rfl, Nat.le_of_ble_eq_true rfl⟩) ⟨fun a U g mk q => by obtain ⟨q0, q1, qP, qK, qD⟩ := q; exact ⟨q0, q1, qP, va_K.moved (u := U) (U := U.calling g mk a) (Vm.Alike.refl U.vm) qK, qD⟩, va_recv hK hPc (ci := 8) (q0 := 88) rfl rfl, fun U hU hW => ⟨rfl, by rw [hU], by rw [hU]; exact hPc, va_K.moved hW.alike hK, hDc.weaken (fun _ _ _ _ => trivial)⟩⟩ rfl rfl hl.1 rfl (lv_room (Nat.le_of_ble_eq_true rfl)) dX4_tryRoutes_80 ⟨Nat.le_of_ble_eq_true rfl, Nat.le_of_ble_eq_true rfl⟩) hS (fun q _ h => hFc q h) hFc (fun u t H1 locs ht hvm gz327 hB hz1 hk1 hS => ?_)
                      obtain ⟨vz329, nz330, az331, hnz330, hP1⟩ := hB
                      rw [ht] at hP1
                      obtain ⟨hP, hD⟩ := w_callC hP hD hk1 hP1 [1, 2, 3, 4, 5, 6, 7, 8] rfl rfl (wk_memC [10, 11, 9] rfl) rfl
                      clear hPc hDc hFc hk1 hP1
                      generalize H1 = H at hP hS ⊢
                      have hP : va_P (dC, dI) vwCl (List.flatten [(wSearch qR k vz183 az182), (wState (sY 0) k (vz329 0) (nz330 0) (az331 0)), (wState (sY 1) k (vz329 1) (nz330 1) (az331 1)), (wState (sY 2) k (vz329 2) (nz330 2) (az331 2)), (wState (sY 3) k (vz329 3) (nz330 3) (az331 3)), (wState (sY 4) k (vz329 4) (nz330 4) (az331 4)), (wState (sY 5) k (vz329 5) (nz330 5) (az331 5)), (wState (sY 6) k (vz329 6) (nz330 6) (az331 6)), (wState (sY 7) k (vz329 7) (nz330 7) (az331 7)), (wPlan qP k vP (va_up az223 0 fz326) eP)] ++ List.flatten [(wStoO qY k (qV 0) (qP 0) (sY 0 0) (sY 1 0) (sY 2 0) (sY 3 0) (sY 4 0) (sY 5 0) (sY 6 0) (sY 7 0)), (wValley qV k vV bV cV wV aV eV)]) H := hP
                      have hD : va_D A (List.flatten [(wSearch qR k vz183 az182), (wState (sY 0) k (vz329 0) (nz330 0) (az331 0)), (wState (sY 1) k (vz329 1) (nz330 1) (az331 1)), (wState (sY 2) k (vz329 2) (nz330 2) (az331 2)), (wState (sY 3) k (vz329 3) (nz330 3) (az331 3)), (wState (sY 4) k (vz329 4) (nz330 4) (az331 4)), (wState (sY 5) k (vz329 5) (nz330 5) (az331 5)), (wState (sY 6) k (vz329 6) (nz330 6) (az331 6)), (wState (sY 7) k (vz329 7) (nz330 7) (az331 7)), (wPlan qP k vP (va_up az223 0 fz326) eP)] ++ List.flatten [(wStoO qY k (qV 0) (qP 0) (sY 0 0) (sY 1 0) (sY 2 0) (sY 3 0) (sY 4 0) (sY 5 0) (sY 6 0) (sY 7 0)), (wValley qV k vV bV cV wV aV eV)]) := hD
                      refine W.widen (k := 0) (n := 0) (Nat.le_refl 0) (Nat.le_refl 0) ?_
                      obtain ⟨xz332, exz332⟩ : ∃ y : Int32, y = xz227 + Int32.ofInt (1) := ⟨_, rfl⟩
                      have fxz332 : xz332.toInt = xz227.toInt + (1) := by rw [exz332]; exact fb_addI (y := Int32.ofInt (1)) (by show -2147483648 ≤ xz227.toInt + (1); omega) (by show xz227.toInt + (1) < 2147483648; omega)
                      refine lv_iinc (v := xz332) (lv' := [(5, .int xz332), (0, .ref (qR 0)), (1, .ref (qY 0)), (2, .int (cV 0)), (4, .int xz188)]) hx hb dX4_tryRoutes_83 hl (k := 4) rfl exz332.symm (by decide) rfl (fun ls hl => ?_)
                      refine lv_goto (tgt := 52) hx hb dX4_tryRoutes_86 (by decide) ?_
                      exact ih52 H locs ls (va_up az223 0 fz326) az331 nz330 vz329 xz332 (by show (2147483647 - xz332.toInt).toNat < n9_52; omega) hnz330 (by show 0 ≤ xz332.toInt; omega) hP hD hS (lv_sub hl [1, 2, 3, 4, 0] rfl)
                exact lp52_kz228 _ H locs ls az181 az184 nz185 vz186 xz187 (Nat.lt_succ_self _) hnz185 (by show 0 ≤ xz187.toInt; omega) hP hD hS (lv_sub hl [1, 2, 3, 5, 0] rfl)
        exact lp37_kz189 _ H locs ls aP az22 vz4 aY nY vY (0 : Int32) (0 : Int32) (Nat.lt_succ_self _) hnY (by show 0 ≤ (0 : Int); omega) hP hD hS (lv_sub hl [2, 3, 4, 1, 0] rfl)
      · skip
        have bz333 := fb_rng xz23
        have zz334 : ¬ (cV 0).toInt ≤ xz23.toInt := fun h9 => cz26 (zi_le.mpr h9)
        refine lv_aload_n hx hb dX4_tryRoutes_19 rfl (lv_at hl 0 rfl) ?_
        refine va_get (D := (dC, dI)) (ci := 4) (v := .ref (qR 1)) (C := RX4) (T := TX4) (N := 6) hx hb hts (fun w h => List.mem_cons_of_mem _ (List.mem_append_right _ (List.mem_append_right _ (List.mem_append_right _ (List.mem_append_right _ (List.mem_append_left _ h)))))) hown hK hP 0 rfl rfl 0 (by decide) (hts (.fieldLink RX4 9 "SagMemory$Search" "tried" "[I") (wl_mem 6 rfl)) (fun _ h9 => h9) rfl dX4_tryRoutes_20 ?_
        refine lv_iload_n hx hb dX4_tryRoutes_23 rfl (lv_at hl 3 rfl) ?_
        refine lv_iconst (v := 0) hx hb dX4_tryRoutes_24 (by decide) ?_
        refine va_iast hx hb hK hP hD hS 1 0 rfl rfl (vp_in_iff.mpr ⟨by omega, by omega⟩) dX4_tryRoutes_25 (fun H locs hP hD hS => ?_)
        obtain ⟨fz335, efz335, hP, hD⟩ : ∃ fz335 : Nat → Int32, fz335 = upd (az22 0) xz23.toNatClampNeg (0 : Int32) ∧ va_P (dC, dI) vwCl (List.flatten [(wSearch qR k vz4 (va_up az22 0 fz335)), (wState (sY 0) k (vY 0) (nY 0) (aY 0)), (wState (sY 1) k (vY 1) (nY 1) (aY 1)), (wState (sY 2) k (vY 2) (nY 2) (aY 2)), (wState (sY 3) k (vY 3) (nY 3) (aY 3)), (wState (sY 4) k (vY 4) (nY 4) (aY 4)), (wState (sY 5) k (vY 5) (nY 5) (aY 5)), (wState (sY 6) k (vY 6) (nY 6) (aY 6)), (wState (sY 7) k (vY 7) (nY 7) (aY 7)), (wPlan qP k vP aP eP)] ++ List.flatten [(wStoO qY k (qV 0) (qP 0) (sY 0 0) (sY 1 0) (sY 2 0) (sY 3 0) (sY 4 0) (sY 5 0) (sY 6 0) (sY 7 0)), (wValley qV k vV bV cV wV aV eV)]) H ∧ va_D A (List.flatten [(wSearch qR k vz4 (va_up az22 0 fz335)), (wState (sY 0) k (vY 0) (nY 0) (aY 0)), (wState (sY 1) k (vY 1) (nY 1) (aY 1)), (wState (sY 2) k (vY 2) (nY 2) (aY 2)), (wState (sY 3) k (vY 3) (nY 3) (aY 3)), (wState (sY 4) k (vY 4) (nY 4) (aY 4)), (wState (sY 5) k (vY 5) (nY 5) (aY 5)), (wState (sY 6) k (vY 6) (nY 6) (aY 6)), (wState (sY 7) k (vY 7) (nY 7) (aY 7)), (wPlan qP k vP aP eP)] ++ List.flatten [(wStoO qY k (qV 0) (qP 0) (sY 0 0) (sY 1 0) (sY 2 0) (sY 3 0) (sY 4 0) (sY 5 0) (sY 6 0) (sY 7 0)), (wValley qV k vV bV cV wV aV eV)]) := ⟨_, rfl, hP, hD⟩
        have kfz335 : fz335 xz23.toNatClampNeg = (0 : Int32) := by rw [efz335]; exact pk_us
        obtain ⟨xz336, exz336⟩ : ∃ y : Int32, y = xz23 + Int32.ofInt (1) := ⟨_, rfl⟩
        have fxz336 : xz336.toInt = xz23.toInt + (1) := by rw [exz336]; exact fb_addI (y := Int32.ofInt (1)) (by show -2147483648 ≤ xz23.toInt + (1); omega) (by show xz23.toInt + (1) < 2147483648; omega)
        refine lv_iinc (v := xz336) (lv' := [(3, .int xz336), (0, .ref (qR 0)), (1, .ref (qY 0)), (2, .int (cV 0))]) hx hb dX4_tryRoutes_26 hl (k := 3) rfl exz336.symm (by decide) rfl (fun ls hl => ?_)
        refine lv_goto (tgt := 14) hx hb dX4_tryRoutes_29 (by decide) ?_
        exact ih14 H locs ls (va_up az22 0 fz335) xz336 (by show (2147483647 - xz336.toInt).toNat < n9_14; omega) (by show 0 ≤ xz336.toInt; omega) hP hD hS (lv_sub hl [1, 2, 3, 0] rfl)
  exact lp14_kz24 _ H locs ls az5 (0 : Int32) (Nat.lt_succ_self _) (by show 0 ≤ (0 : Int); omega) hP hD hS (lv_sub hl [2, 3, 1, 0] rfl)
