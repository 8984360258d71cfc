def wk_c_X8_behind : List Cond := .code yX8_behind cX8_behind 2 (some (.object "SagMemory$State")) :: ([.fieldLink RX8 12 "SagMemory$Story" "start" "LSagMemory$State;", .fieldLink RX8 18 "SagMemory$Story" "states" "[LSagMemory$State;"] ++ (wsX80 ++ []))
theorem wkg_c_X8_behind : wk_c_X8_behind.all goodWord = true := by decide +kernel
set_option maxHeartbeats 4000000 in
set_option maxRecDepth 100000 in
theorem c_X8_behind (l : Launch) (dC : Nat → ClassId) (dI : Nat → Nat → Nat) (k : Nat → ClassId) (qY : Nat → Nat) (sY : Nat → Nat → Nat) (valleyY : Nat) (planY : Nat) (vY : Nat → Nat → Int32) (nY : Nat → Nat → Int32) (aY : Nat → Nat → Nat → Int32) (p1 : Int32) (hnY : ∀ t9, Rg 0 8 (nY t9)) : Met l yX8_behind wk_c_X8_behind ({ frames := 0, cells := 0, slots := 0, locals := 0 }) (va_Pc [.ref (qY 0), .int p1] (fun U => va_P (dC, dI) vwCl (List.flatten [(wStoO qY k valleyY planY (sY 0 0) (sY 1 0) (sY 2 0) (sY 3 0) (sY 4 0) (sY 5 0) (sY 6 0) (sY 7 0)), (wState (sY 0) k (vY 0) (nY 0) (aY 0)), (wState (sY 1) k (vY 1) (nY 1) (aY 1)), (wState (sY 2) k (vY 2) (nY 2) (aY 2)), (wState (sY 3) k (vY 3) (nY 3) (aY 3)), (wState (sY 4) k (vY 4) (nY 4) (aY 4)), (wState (sY 5) k (vY 5) (nY 5) (aY 5)), (wState (sY 6) k (vY 6) (nY 6) (aY 6)), (wState (sY 7) k (vY 7) (nY 7) (aY 7))]) U.heap ∧ va_K (dC, dI) vwCl (tK k) U)) (va_Sr (fun r : Nat => (r = 0 ∧ p1 < (0 : Int32)) ∨ (r = 0 ∧ ¬ p1 < (0 : Int32) ∧ (7 : Int32) ≤ p1) ∨ (r = 1 ∧ ¬ p1 < (0 : Int32) ∧ ¬ (7 : Int32) ≤ p1 ∧ p1 = (0 : Int32)) ∨ (r = 2 ∧ ¬ p1 < (0 : Int32) ∧ ¬ (7 : Int32) ≤ p1 ∧ p1 = (1 : Int32)) ∨ (r = 3 ∧ ¬ p1 < (0 : Int32) ∧ ¬ (7 : Int32) ≤ p1 ∧ p1 = (2 : Int32)) ∨ (r = 4 ∧ ¬ p1 < (0 : Int32) ∧ ¬ (7 : Int32) ≤ p1 ∧ p1 = (3 : Int32)) ∨ (r = 5 ∧ ¬ p1 < (0 : Int32) ∧ ¬ (7 : Int32) ≤ p1 ∧ p1 = (4 : Int32)) ∨ (r = 6 ∧ ¬ p1 < (0 : Int32) ∧ ¬ (7 : Int32) ≤ p1 ∧ p1 = (5 : Int32)) ∨ (r = 7 ∧ ¬ p1 < (0 : Int32) ∧ ¬ (7 : Int32) ≤ p1 ∧ p1 = (6 : Int32))) (fun r => .ref (sY r 0))) 0 0 (fun _ => False) := by
  refine Met.ofW (cc := cX8_behind) (maxL := 2) (ret := (some (.object "SagMemory$State"))) (by decide) rfl ?_
  intro p e s m args below meth c s₁ B hml hv
  obtain ⟨rfl, hP, hK⟩ := hv
  have hx := B.exec
  have hb := B.bytes
  have hr := B.returns
  have hts := atoms_spec (ws := wk_c_X8_behind) B.pre
  have hown : s.vm.findClass RX8 = some m.cls := findClass_of_methodNamed B.named
  have hlocks := B.notSynchronized
  have hP : va_P (dC, dI) vwCl (List.flatten [(wStoO qY k valleyY planY (sY 0 0) (sY 1 0) (sY 2 0) (sY 3 0) (sY 4 0) (sY 5 0) (sY 6 0) (sY 7 0)), (wState (sY 0) k (vY 0) (nY 0) (aY 0)), (wState (sY 1) k (vY 1) (nY 1) (aY 1)), (wState (sY 2) k (vY 2) (nY 2) (aY 2)), (wState (sY 3) k (vY 3) (nY 3) (aY 3)), (wState (sY 4) k (vY 4) (nY 4) (aY 4)), (wState (sY 5) k (vY 5) (nY 5) (aY 5)), (wState (sY 6) k (vY 6) (nY 6) (aY 6)), (wState (sY 7) k (vY 7) (nY 7) (aY 7))]) s.heap := hP
  have hl := lv_entry ([.ref (qY 0), .int p1]) (n := 2) (Nat.le_of_ble_eq_true rfl)
  rw [lg_entry_eq]
  generalize (lg_sl ([.ref (qY 0), .int p1]) ++ List.replicate (2 - (lg_sl ([.ref (qY 0), .int p1])).length) Slot.unset).toArray = ls at hl ⊢
  have hl : lv_has ls 2 [(0, .ref (qY 0)), (1, .int p1)] := hl
  refine w_gen (fun Q hQ => ?_)
  refine lv_iload_n hx hb dX8_behind_0 rfl (lv_at hl 1 rfl) ?_
  refine lv_if_lt (tgt := 19) hx hb dX8_behind_1 (by decide) (fun cz1 => ?_) (fun cz1 => ?_)
  · skip
    have bz2 := fb_rng p1
    have zz3 : p1.toInt < (0 : Int) := zi_lt.mp cz1
    refine lv_aload_n hx hb dX8_behind_19 rfl (lv_at hl 0 rfl) ?_
    refine va_get (D := (dC, dI)) (ci := 8) (v := .ref (sY 0 0)) (C := RX8) (T := TX8) (N := 4) hx hb hts (fun w h => List.mem_cons_of_mem _ (List.mem_append_right _ (List.mem_append_left _ h))) hown hK hP 0 rfl rfl 2 (by decide) (hts (.fieldLink RX8 12 "SagMemory$Story" "start" "LSagMemory$State;") (wl_mem 0 rfl)) (fun _ h9 => h9) rfl dX8_behind_20 ?_
    rw [hQ]
    exact W.aret hx hb hr (Or.inl ⟨_, rfl⟩) (Or.inr ⟨_, rfl⟩) (fun t ht hW => ⟨0, rfl, Or.inl ⟨rfl, cz1⟩, ht⟩) (fun _ h => absurd h List.not_mem_nil) dX8_behind_23
  · skip
    have bz4 := fb_rng p1
    have zz5 : ¬ p1.toInt < (0 : Int) := fun h9 => cz1 (zi_lt.mpr h9)
    refine lv_iload_n hx hb dX8_behind_4 rfl (lv_at hl 1 rfl) ?_
    refine lv_bipush (v := 7) hx hb dX8_behind_5 (by decide) ?_
    refine lv_icmp_ge (tgt := 19) hx hb dX8_behind_7 (by decide) (fun cz6 => ?_) (fun cz6 => ?_)
    · skip
      have zz7 : (7 : Int) ≤ p1.toInt := zi_le.mp cz6
      refine lv_aload_n hx hb dX8_behind_19 rfl (lv_at hl 0 rfl) ?_
      refine va_get (D := (dC, dI)) (ci := 8) (v := .ref (sY 0 0)) (C := RX8) (T := TX8) (N := 4) hx hb hts (fun w h => List.mem_cons_of_mem _ (List.mem_append_right _ (List.mem_append_left _ h))) hown hK hP 0 rfl rfl 2 (by decide) (hts (.fieldLink RX8 12 "SagMemory$Story" "start" "LSagMemory$State;") (wl_mem 0 rfl)) (fun _ h9 => h9) rfl dX8_behind_20 ?_
      rw [hQ]
      exact W.aret hx hb hr (Or.inl ⟨_, rfl⟩) (Or.inr ⟨_, rfl⟩) (fun t ht hW => ⟨0, rfl, Or.inr (Or.inl ⟨rfl, cz1, cz6⟩), ht⟩) (fun _ h => absurd h List.not_mem_nil) dX8_behind_23
    · skip
      have zz8 : ¬ (7 : Int) ≤ p1.toInt := fun h9 => cz6 (zi_le.mpr h9)
      refine lv_aload_n hx hb dX8_behind_10 rfl (lv_at hl 0 rfl) ?_
      refine va_get (D := (dC, dI)) (ci := 8) (v := .ref (qY 1)) (C := RX8) (T := TX8) (N := 4) hx hb hts (fun w h => List.mem_cons_of_mem _ (List.mem_append_right _ (List.mem_append_left _ h))) hown hK hP 0 rfl rfl 3 (by decide) (hts (.fieldLink RX8 18 "SagMemory$Story" "states" "[LSagMemory$State;") (wl_mem 1 rfl)) (fun _ h9 => h9) rfl dX8_behind_11 ?_
      refine lv_iload_n hx hb dX8_behind_14 rfl (lv_at hl 1 rfl) ?_
      rcases (show p1 = 0 ∨ p1 = 1 ∨ p1 = 2 ∨ p1 = 3 ∨ p1 = 4 ∨ p1 = 5 ∨ p1 = 6 by simp only [zi_eq]; show p1.toInt = 0 ∨ p1.toInt = 1 ∨ p1.toInt = 2 ∨ p1.toInt = 3 ∨ p1.toInt = 4 ∨ p1.toInt = 5 ∨ p1.toInt = 6; omega) with cz9 | cz9 | cz9 | cz9 | cz9 | cz9 | cz9
      · skip
        have zz10 : p1.toInt = (0 : Int) := zi_eq.mp cz9
        refine W.eq (g2 := F0 m 15 ls [.int 0, .ref (qY 1)]) (by rw [cz9]) ?_
        refine va_aldq hx hb hK hP 1 5 rfl rfl (by unfold vp_in; decide) dX8_behind_15 ?_
        refine W.eq (g2 := F0 m 16 ls [.ref (sY 1 0)]) rfl ?_
        refine lv_goto (tgt := 23) hx hb dX8_behind_16 (by decide) ?_
        rw [hQ]
        exact W.aret hx hb hr (Or.inl ⟨_, rfl⟩) (Or.inr ⟨_, rfl⟩) (fun t ht hW => ⟨1, rfl, Or.inr (Or.inr (Or.inl ⟨rfl, cz1, cz6, cz9⟩)), ht⟩) (fun _ h => absurd h List.not_mem_nil) dX8_behind_23
      · skip
        have zz11 : p1.toInt = (1 : Int) := zi_eq.mp cz9
        refine W.eq (g2 := F0 m 15 ls [.int 1, .ref (qY 1)]) (by rw [cz9]) ?_
        refine va_aldq hx hb hK hP 1 5 rfl rfl (by unfold vp_in; decide) dX8_behind_15 ?_
        refine W.eq (g2 := F0 m 16 ls [.ref (sY 2 0)]) rfl ?_
        refine lv_goto (tgt := 23) hx hb dX8_behind_16 (by decide) ?_
        rw [hQ]
        exact W.aret hx hb hr (Or.inl ⟨_, rfl⟩) (Or.inr ⟨_, rfl⟩) (fun t ht hW => ⟨2, rfl, Or.inr (Or.inr (Or.inr (Or.inl ⟨rfl, cz1, cz6, cz9⟩))), ht⟩) (fun _ h => absurd h List.not_mem_nil) dX8_behind_23
      · skip
        have zz12 : p1.toInt = (2 : Int) := zi_eq.mp cz9
        refine W.eq (g2 := F0 m 15 ls [.int 2, .ref (qY 1)]) (by rw [cz9]) ?_
        refine va_aldq hx hb hK hP 1 5 rfl rfl (by unfold vp_in; decide) dX8_behind_15 ?_
        refine W.eq (g2 := F0 m 16 ls [.ref (sY 3 0)]) rfl ?_
        refine lv_goto (tgt := 23) hx hb dX8_behind_16 (by decide) ?_
        rw [hQ]
        exact W.aret hx hb hr (Or.inl ⟨_, rfl⟩) (Or.inr ⟨_, rfl⟩) (fun t ht hW => ⟨3, rfl, Or.inr (Or.inr (Or.inr (Or.inr (Or.inl ⟨rfl, cz1, cz6, cz9⟩)))), ht⟩) (fun _ h => absurd h List.not_mem_nil) dX8_behind_23
      · skip
        have zz13 : p1.toInt = (3 : Int) := zi_eq.mp cz9
        refine W.eq (g2 := F0 m 15 ls [.int 3, .ref (qY 1)]) (by rw [cz9]) ?_
        refine va_aldq hx hb hK hP 1 5 rfl rfl (by unfold vp_in; decide) dX8_behind_15 ?_
        refine W.eq (g2 := F0 m 16 ls [.ref (sY 4 0)]) rfl ?_
        refine lv_goto (tgt := 23) hx hb dX8_behind_16 (by decide) ?_
        rw [hQ]
        exact W.aret hx hb hr (Or.inl ⟨_, rfl⟩) (Or.inr ⟨_, rfl⟩) (fun t ht hW => ⟨4, rfl, Or.inr (Or.inr (Or.inr (Or.inr (Or.inr (Or.inl ⟨rfl, cz1, cz6, cz9⟩))))), ht⟩) (fun _ h => absurd h List.not_mem_nil) dX8_behind_23
      · skip
        have zz14 : p1.toInt = (4 : Int) := zi_eq.mp cz9
        refine W.eq (g2 := F0 m 15 ls [.int 4, .ref (qY 1)]) (by rw [cz9]) ?_
        refine va_aldq hx hb hK hP 1 5 rfl rfl (by unfold vp_in; decide) dX8_behind_15 ?_
        refine W.eq (g2 := F0 m 16 ls [.ref (sY 5 0)]) rfl ?_
        refine lv_goto (tgt := 23) hx hb dX8_behind_16 (by decide) ?_
        rw [hQ]
        exact W.aret hx hb hr (Or.inl ⟨_, rfl⟩) (Or.inr ⟨_, rfl⟩) (fun t ht hW => ⟨5, rfl, Or.inr (Or.inr (Or.inr (Or.inr (Or.inr (Or.inr (Or.inl ⟨rfl, cz1, cz6, cz9⟩)))))), ht⟩) (fun _ h => absurd h List.not_mem_nil) dX8_behind_23
      · skip
        have zz15 : p1.toInt = (5 : Int) := zi_eq.mp cz9
        refine W.eq (g2 := F0 m 15 ls [.int 5, .ref (qY 1)]) (by rw [cz9]) ?_
        refine va_aldq hx hb hK hP 1 5 rfl rfl (by unfold vp_in; decide) dX8_behind_15 ?_
        refine W.eq (g2 := F0 m 16 ls [.ref (sY 6 0)]) rfl ?_
        refine lv_goto (tgt := 23) hx hb dX8_behind_16 (by decide) ?_
        rw [hQ]
        exact W.aret hx hb hr (Or.inl ⟨_, rfl⟩) (Or.inr ⟨_, rfl⟩) (fun t ht hW => ⟨6, rfl, Or.inr (Or.inr (Or.inr (Or.inr (Or.inr (Or.inr (Or.inr (Or.inl ⟨rfl, cz1, cz6, cz9⟩))))))), ht⟩) (fun _ h => absurd h List.not_mem_nil) dX8_behind_23
      · skip
        have zz16 : p1.toInt = (6 : Int) := zi_eq.mp cz9
        refine W.eq (g2 := F0 m 15 ls [.int 6, .ref (qY 1)]) (by rw [cz9]) ?_
        refine va_aldq hx hb hK hP 1 5 rfl rfl (by unfold vp_in; decide) dX8_behind_15 ?_
        refine W.eq (g2 := F0 m 16 ls [.ref (sY 7 0)]) rfl ?_
        refine lv_goto (tgt := 23) hx hb dX8_behind_16 (by decide) ?_
        rw [hQ]
        exact W.aret hx hb hr (Or.inl ⟨_, rfl⟩) (Or.inr ⟨_, rfl⟩) (fun t ht hW => ⟨7, rfl, Or.inr (Or.inr (Or.inr (Or.inr (Or.inr (Or.inr (Or.inr (Or.inr (⟨rfl, cz1, cz6, cz9⟩)))))))), ht⟩) (fun _ h => absurd h List.not_mem_nil) dX8_behind_23
def wk_c_X8_atEnd : List Cond := .code yX8_atEnd cX8_atEnd 1 (some (.object "SagMemory$State")) :: ([.fieldLink RX8 22 "SagMemory$Story" "valley" "LSagMemory$Valley;", .fieldLink RX8 30 "SagMemory$Valley" "carts" "I", .methodLink RX8 44 yX8_behind, .instanceMethod yX8_behind, .selects RX8 yX8_behind yX8_behind, .initialized RX8] ++ (wsX80 ++ (wsX100 ++ (wk_c_X8_behind ++ []))))
theorem wkg_c_X8_atEnd : wk_c_X8_atEnd.all goodWord = true := by decide +kernel
set_option maxHeartbeats 4000000 in
set_option maxRecDepth 100000 in
theorem c_X8_atEnd (l : Launch) (dC : Nat → ClassId) (dI : Nat → Nat → Nat) (k : Nat → ClassId) (qY : Nat → Nat) (sY : Nat → Nat → Nat) (planY : Nat) (vY : Nat → Nat → Int32) (nY : Nat → Nat → Int32) (aY : Nat → Nat → Nat → Int32) (qV : Nat → Nat) (vV : Nat → Int32) (bV : Nat → Int32) (cV : Nat → Int32) (wV : Nat → Int32) (aV : Nat → Nat → Int32) (eV : Nat → Nat → Int32) (hnY : ∀ t9, Rg 0 8 (nY t9)) (hbV : Rg 0 3 bV) (hcV : Rg 0 7 cV) (hwV : Rg 0 5 wV) (heV : RgA 0 99 eV) : Met l yX8_atEnd wk_c_X8_atEnd ({ frames := 1, cells := 0, slots := 0, locals := 21 }) (va_Pc [.ref (qY 0)] (fun U => va_P (dC, dI) vwCl (List.flatten [(wStoO qY k (qV 0) planY (sY 0 0) (sY 1 0) (sY 2 0) (sY 3 0) (sY 4 0) (sY 5 0) (sY 6 0) (sY 7 0)), (wState (sY 0) k (vY 0) (nY 0) (aY 0)), (wState (sY 1) k (vY 1) (nY 1) (aY 1)), (wState (sY 2) k (vY 2) (nY 2) (aY 2)), (wState (sY 3) k (vY 3) (nY 3) (aY 3)), (wState (sY 4) k (vY 4) (nY 4) (aY 4)), (wState (sY 5) k (vY 5) (nY 5) (aY 5)), (wState (sY 6) k (vY 6) (nY 6) (aY 6)), (wState (sY 7) k (vY 7) (nY 7) (aY 7)), (wValley qV k vV bV cV wV aV eV)]) U.heap ∧ va_K (dC, dI) vwCl (tK k) U)) (va_Sr (fun r : Nat => (r = 0) ∨ (r = 1) ∨ (r = 2) ∨ (r = 3) ∨ (r = 4) ∨ (r = 5) ∨ (r = 6) ∨ (r = 7)) (fun r => .ref (sY r 0))) 0 0 (fun _ => False) := by
  refine Met.ofW (cc := cX8_atEnd) (maxL := 1) (ret := (some (.object "SagMemory$State"))) (by decide) rfl ?_
  intro p e s m args below meth c s₁ B hml hv
  obtain ⟨rfl, hP, hK⟩ := hv
  have hx := B.exec
  have hb := B.bytes
  have hr := B.returns
  have hts := atoms_spec (ws := wk_c_X8_atEnd) B.pre
  have hown : s.vm.findClass RX8 = some m.cls := findClass_of_methodNamed B.named
  have hlocks := B.notSynchronized
  have hP : va_P (dC, dI) vwCl (List.flatten [(wStoO qY k (qV 0) planY (sY 0 0) (sY 1 0) (sY 2 0) (sY 3 0) (sY 4 0) (sY 5 0) (sY 6 0) (sY 7 0)), (wState (sY 0) k (vY 0) (nY 0) (aY 0)), (wState (sY 1) k (vY 1) (nY 1) (aY 1)), (wState (sY 2) k (vY 2) (nY 2) (aY 2)), (wState (sY 3) k (vY 3) (nY 3) (aY 3)), (wState (sY 4) k (vY 4) (nY 4) (aY 4)), (wState (sY 5) k (vY 5) (nY 5) (aY 5)), (wState (sY 6) k (vY 6) (nY 6) (aY 6)), (wState (sY 7) k (vY 7) (nY 7) (aY 7)), (wValley qV k vV bV cV wV aV eV)]) s.heap := hP
  have hl := lv_entry ([.ref (qY 0)]) (n := 1) (Nat.le_of_ble_eq_true rfl)
  rw [lg_entry_eq]
  generalize (lg_sl ([.ref (qY 0)]) ++ List.replicate (1 - (lg_sl ([.ref (qY 0)])).length) Slot.unset).toArray = ls at hl ⊢
  have hl : lv_has ls 1 [(0, .ref (qY 0))] := hl
  refine w_gen (fun Q hQ => ?_)
  refine lv_aload_n hx hb dX8_atEnd_0 rfl (lv_at hl 0 rfl) ?_
  refine lv_aload_n hx hb dX8_atEnd_1 rfl (lv_at hl 0 rfl) ?_
  refine va_get (D := (dC, dI)) (ci := 8) (v := .ref (qV 0)) (C := RX8) (T := TX8) (N := 4) hx hb hts (fun w h => List.mem_cons_of_mem _ (List.mem_append_right _ (List.mem_append_left _ h))) hown hK hP 0 rfl rfl 0 (by decide) (hts (.fieldLink RX8 22 "SagMemory$Story" "valley" "LSagMemory$Valley;") (wl_mem 0 rfl)) (fun _ h9 => h9) rfl dX8_atEnd_2 ?_
  refine va_get (D := (dC, dI)) (ci := 10) (v := .int (cV 0)) (C := RX10) (T := TX10) (N := 16) hx hb hts (fun w h => List.mem_cons_of_mem _ (List.mem_append_right _ (List.mem_append_right _ (List.mem_append_left _ h)))) hown hK hP 90 rfl rfl 12 (by decide) (hts (.fieldLink RX8 30 "SagMemory$Valley" "carts" "I") (wl_mem 1 rfl)) (fun _ h9 => h9) rfl dX8_atEnd_5 ?_
  have bz1 := hcV 0
  refine lv_iconst (v := 1) hx hb dX8_atEnd_8 (by decide) ?_
  refine lv_isub hx hb dX8_atEnd_9 ?_
  refine lv_topi (fun xz2 exz2 => ?_)
  have fxz2 : xz2.toInt = (cV 0).toInt - (1 : Int) := by rw [exz2]; exact fb_subI (x := (cV 0)) (y := (1 : Int32)) (by show -2147483648 ≤ (cV 0).toInt - (1 : Int); omega) (by show (cV 0).toInt - (1 : Int) < 2147483648; omega)
  have hPc : va_P (dC, dI) vwCl (List.flatten [(wStoO qY k (qV 0) planY (sY 0 0) (sY 1 0) (sY 2 0) (sY 3 0) (sY 4 0) (sY 5 0) (sY 6 0) (sY 7 0)), (wState (sY 0) k (vY 0) (nY 0) (aY 0)), (wState (sY 1) k (vY 1) (nY 1) (aY 1)), (wState (sY 2) k (vY 2) (nY 2) (aY 2)), (wState (sY 3) k (vY 3) (nY 3) (aY 3)), (wState (sY 4) k (vY 4) (nY 4) (aY 4)), (wState (sY 5) k (vY 5) (nY 5) (aY 5)), (wState (sY 6) k (vY 6) (nY 6) (aY 6)), (wState (sY 7) k (vY 7) (nY 7) (aY 7))]) s.heap := wc_subP0 hP [0, 1, 2, 3, 4, 5, 6, 7, 8] rfl
  refine va_csr (va_Run.run (va_runV (As := [.int xz2]) (rest := []) ⟨hx, hb, hml, hown, hts⟩ (c_X8_behind l dC dI k qY sY (qV 0) planY vY nY aY xz2 hnY) (cwV 1 hts (gk_V (wl_mem 2 rfl) (wl_mem 3 rfl) (wl_mem 4 rfl) (wl_mem 5 rfl) (fun w h => List.mem_cons_of_mem _ (List.mem_append_right _ (List.mem_append_right _ (List.mem_append_right _ (List.mem_append_left _ h))))) wkg_c_X8_behind) rfl rfl rfl (by decide +kernel) ⟨Nat.le_of_ble_eq_true rfl, Nat.le_of_ble_eq_true rfl⟩) ⟨fun a U g mk q => by obtain ⟨q0, qP, qK⟩ := q; exact ⟨q0, qP, va_K.moved (u := U) (U := U.calling g mk a) (Vm.Alike.refl U.vm) qK⟩, va_recv hK hPc (ci := 8) (q0 := 0) rfl rfl, fun U hU hW => ⟨rfl, by rw [hU]; exact hPc, va_K.moved hW.alike hK⟩⟩ rfl rfl hl.1 rfl (lv_room (Nat.le_of_ble_eq_true rfl)) dX8_atEnd_10 ⟨Nat.le_of_ble_eq_true rfl, Nat.le_of_ble_eq_true rfl⟩)) (fun rz4 gz3 => ?_)
  clear hPc
  rcases gz3 with ⟨rfl, cz5⟩ | ⟨rfl, cz6, cz7⟩ | ⟨rfl, cz8, cz9, cz10⟩ | ⟨rfl, cz11, cz12, cz13⟩ | ⟨rfl, cz14, cz15, cz16⟩ | ⟨rfl, cz17, cz18, cz19⟩ | ⟨rfl, cz20, cz21, cz22⟩ | ⟨rfl, cz23, cz24, cz25⟩ | ⟨rfl, cz26, cz27, cz28⟩
  · skip
    have zz29 : xz2.toInt < (0 : Int) := zi_lt.mp cz5
    refine W.eq (g2 := F0 m 13 ls [.ref (sY 0 0)]) rfl ?_
    rw [hQ]
    exact W.aret hx hb hr (Or.inl ⟨_, rfl⟩) (Or.inr ⟨_, rfl⟩) (fun t ht hW => ⟨0, rfl, Or.inl rfl, ht⟩) (fun _ h => absurd h List.not_mem_nil) dX8_atEnd_13
  · skip
    have zz30 : ¬ xz2.toInt < (0 : Int) := fun h9 => cz6 (zi_lt.mpr h9)
    have zz31 : (7 : Int) ≤ xz2.toInt := zi_le.mp cz7
    omega
  · skip
    have zz32 : ¬ xz2.toInt < (0 : Int) := fun h9 => cz8 (zi_lt.mpr h9)
    have zz33 : ¬ (7 : Int) ≤ xz2.toInt := fun h9 => cz9 (zi_le.mpr h9)
    have zz34 : xz2.toInt = (0 : Int) := zi_eq.mp cz10
    refine W.eq (g2 := F0 m 13 ls [.ref (sY 1 0)]) rfl ?_
    rw [hQ]
    exact W.aret hx hb hr (Or.inl ⟨_, rfl⟩) (Or.inr ⟨_, rfl⟩) (fun t ht hW => ⟨1, rfl, Or.inr (Or.inl rfl), ht⟩) (fun _ h => absurd h List.not_mem_nil) dX8_atEnd_13
  · skip
    have zz35 : ¬ xz2.toInt < (0 : Int) := fun h9 => cz11 (zi_lt.mpr h9)
    have zz36 : ¬ (7 : Int) ≤ xz2.toInt := fun h9 => cz12 (zi_le.mpr h9)
    have zz37 : xz2.toInt = (1 : Int) := zi_eq.mp cz13
    refine W.eq (g2 := F0 m 13 ls [.ref (sY 2 0)]) rfl ?_
    rw [hQ]
    exact W.aret hx hb hr (Or.inl ⟨_, rfl⟩) (Or.inr ⟨_, rfl⟩) (fun t ht hW => ⟨2, rfl, Or.inr (Or.inr (Or.inl rfl)), ht⟩) (fun _ h => absurd h List.not_mem_nil) dX8_atEnd_13
  · skip
    have zz38 : ¬ xz2.toInt < (0 : Int) := fun h9 => cz14 (zi_lt.mpr h9)
    have zz39 : ¬ (7 : Int) ≤ xz2.toInt := fun h9 => cz15 (zi_le.mpr h9)
    have zz40 : xz2.toInt = (2 : Int) := zi_eq.mp cz16
    refine W.eq (g2 := F0 m 13 ls [.ref (sY 3 0)]) rfl ?_
    rw [hQ]
    exact W.aret hx hb hr (Or.inl ⟨_, rfl⟩) (Or.inr ⟨_, rfl⟩) (fun t ht hW => ⟨3, rfl, Or.inr (Or.inr (Or.inr (Or.inl rfl))), ht⟩) (fun _ h => absurd h List.not_mem_nil) dX8_atEnd_13
  · skip
    have zz41 : ¬ xz2.toInt < (0 : Int) := fun h9 => cz17 (zi_lt.mpr h9)
    have zz42 : ¬ (7 : Int) ≤ xz2.toInt := fun h9 => cz18 (zi_le.mpr h9)
    have zz43 : xz2.toInt = (3 : Int) := zi_eq.mp cz19
    refine W.eq (g2 := F0 m 13 ls [.ref (sY 4 0)]) rfl ?_
    rw [hQ]
    exact W.aret hx hb hr (Or.inl ⟨_, rfl⟩) (Or.inr ⟨_, rfl⟩) (fun t ht hW => ⟨4, rfl, Or.inr (Or.inr (Or.inr (Or.inr (Or.inl rfl)))), ht⟩) (fun _ h => absurd h List.not_mem_nil) dX8_atEnd_13
  · skip
    have zz44 : ¬ xz2.toInt < (0 : Int) := fun h9 => cz20 (zi_lt.mpr h9)
    have zz45 : ¬ (7 : Int) ≤ xz2.toInt := fun h9 => cz21 (zi_le.mpr h9)
    have zz46 : xz2.toInt = (4 : Int) := zi_eq.mp cz22
    refine W.eq (g2 := F0 m 13 ls [.ref (sY 5 0)]) rfl ?_
    rw [hQ]
    exact W.aret hx hb hr (Or.inl ⟨_, rfl⟩) (Or.inr ⟨_, rfl⟩) (fun t ht hW => ⟨5, rfl, Or.inr (Or.inr (Or.inr (Or.inr (Or.inr (Or.inl rfl))))), ht⟩) (fun _ h => absurd h List.not_mem_nil) dX8_atEnd_13
  · skip
    have zz47 : ¬ xz2.toInt < (0 : Int) := fun h9 => cz23 (zi_lt.mpr h9)
    have zz48 : ¬ (7 : Int) ≤ xz2.toInt := fun h9 => cz24 (zi_le.mpr h9)
    have zz49 : xz2.toInt = (5 : Int) := zi_eq.mp cz25
    refine W.eq (g2 := F0 m 13 ls [.ref (sY 6 0)]) rfl ?_
    rw [hQ]
    exact W.aret hx hb hr (Or.inl ⟨_, rfl⟩) (Or.inr ⟨_, rfl⟩) (fun t ht hW => ⟨6, rfl, Or.inr (Or.inr (Or.inr (Or.inr (Or.inr (Or.inr (Or.inl rfl)))))), ht⟩) (fun _ h => absurd h List.not_mem_nil) dX8_atEnd_13
  · skip
    have zz50 : ¬ xz2.toInt < (0 : Int) := fun h9 => cz26 (zi_lt.mpr h9)
    have zz51 : ¬ (7 : Int) ≤ xz2.toInt := fun h9 => cz27 (zi_le.mpr h9)
    have zz52 : xz2.toInt = (6 : Int) := zi_eq.mp cz28
    refine W.eq (g2 := F0 m 13 ls [.ref (sY 7 0)]) rfl ?_
    rw [hQ]
    exact W.aret hx hb hr (Or.inl ⟨_, rfl⟩) (Or.inr ⟨_, rfl⟩) (fun t ht hW => ⟨7, rfl, Or.inr (Or.inr (Or.inr (Or.inr (Or.inr (Or.inr (Or.inr (rfl))))))), ht⟩) (fun _ h => absurd h List.not_mem_nil) dX8_atEnd_13
def wk_c_X8_step : List Cond := .code yX8_step cX8_step 4 none :: ([.fieldLink RX8 22 "SagMemory$Story" "valley" "LSagMemory$Valley;", .methodLink RX8 40 yX10_hasCart, .instanceMethod yX10_hasCart, .selects RX10 yX10_hasCart yX10_hasCart, .initialized RX10, .fieldLink RX8 18 "SagMemory$Story" "states" "[LSagMemory$State;", .methodLink RX8 44 yX8_behind, .instanceMethod yX8_behind, .selects RX8 yX8_behind yX8_behind, .initialized RX8, .methodLink RX8 48 yX7_take, .instanceMethod yX7_take, .selects RX7 yX7_take yX7_take, .initialized RX7, .fieldLink RX8 26 "SagMemory$Story" "plan" "LSagMemory$Plan;", .fieldLink RX8 52 "SagMemory$Plan" "cold" "I", .fieldLink RX8 57 "SagMemory$Valley" "frost" "I", .methodLink RX8 60 yX7_chill, .instanceMethod yX7_chill, .selects RX7 yX7_chill yX7_chill, .fieldLink RX8 64 "SagMemory$Plan" "ways" "[I", .fieldLink RX8 68 "SagMemory$Plan" "loads" "[I", .fieldLink RX8 71 "SagMemory$Plan" "law" "I", .methodLink RX8 74 yX7_meet, .instanceMethod yX7_meet, .selects RX7 yX7_meet yX7_meet] ++ (wsX80 ++ (wk_c_X10_hasCart ++ (wk_c_X8_behind ++ (wk_c_X7_take ++ (wsX30 ++ (wsX100 ++ (wk_c_X7_chill ++ (wk_c_X7_meet ++ [])))))))))
theorem wkg_c_X8_step : wk_c_X8_step.all goodWord = true := by decide +kernel
set_option maxHeartbeats 4000000 in
set_option maxRecDepth 100000 in
theorem c_X8_step (l : Launch) (dC : Nat → ClassId) (dI : Nat → Nat → Nat) (k : Nat → ClassId) (sz : Nat) (qY : Nat → Nat) (sY : Nat → Nat → Nat) (vY : Nat → Nat → Int32) (nY : Nat → Nat → Int32) (aY : Nat → Nat → Nat → Int32) (qV : Nat → Nat) (vV : Nat → Int32) (bV : Nat → Int32) (cV : Nat → Int32) (wV : Nat → Int32) (aV : Nat → Nat → Int32) (eV : Nat → Nat → Int32) (qP : Nat → Nat) (vP : Nat → Int32) (aP : Nat → Nat → Int32) (eP : Nat → Nat → Int32) (p1 : Int32) (p2 : Int32) (hnY : ∀ t9, Rg 0 8 (nY t9)) (hbV : Rg 0 3 bV) (hcV : Rg 0 7 cV) (hwV : Rg 0 5 wV) (heV : RgA 0 99 eV) (heP : RgA 0 99 eP) : Met l yX8_step wk_c_X8_step ({ frames := 2, cells := 0, slots := 0, locals := 108 }) (va_Pc [.ref (qY 0), .int p1, .int p2] (fun U => U.heap.size = sz ∧ va_P (dC, dI) vwCl (List.flatten [(wState (sY 0) k (vY 0) (nY 0) (aY 0)), (wState (sY 1) k (vY 1) (nY 1) (aY 1)), (wState (sY 2) k (vY 2) (nY 2) (aY 2)), (wState (sY 3) k (vY 3) (nY 3) (aY 3)), (wState (sY 4) k (vY 4) (nY 4) (aY 4)), (wState (sY 5) k (vY 5) (nY 5) (aY 5)), (wState (sY 6) k (vY 6) (nY 6) (aY 6)), (wState (sY 7) k (vY 7) (nY 7) (aY 7))] ++ List.flatten [(wStoO qY k (qV 0) (qP 0) (sY 0 0) (sY 1 0) (sY 2 0) (sY 3 0) (sY 4 0) (sY 5 0) (sY 6 0) (sY 7 0)), (wValley qV k vV bV cV wV aV eV), (wPlan qP k vP aP eP)]) U.heap ∧ va_K (dC, dI) vwCl (tK k) U ∧ va_D (fun _ => True) (List.flatten [(wState (sY 0) k (vY 0) (nY 0) (aY 0)), (wState (sY 1) k (vY 1) (nY 1) (aY 1)), (wState (sY 2) k (vY 2) (nY 2) (aY 2)), (wState (sY 3) k (vY 3) (nY 3) (aY 3)), (wState (sY 4) k (vY 4) (nY 4) (aY 4)), (wState (sY 5) k (vY 5) (nY 5) (aY 5)), (wState (sY 6) k (vY 6) (nY 6) (aY 6)), (wState (sY 7) k (vY 7) (nY 7) (aY 7))] ++ List.flatten [(wStoO qY k (qV 0) (qP 0) (sY 0 0) (sY 1 0) (sY 2 0) (sY 3 0) (sY 4 0) (sY 5 0) (sY 6 0) (sY 7 0)), (wValley qV k vV bV cV wV aV eV), (wPlan qP k vP aP eP)]))) (va_Qv (fun _ : Unit => True) (fun (_ : Unit) (t : State) => ∃ (vY' : Nat → Nat → Int32) (nY' : Nat → Nat → Int32) (aY' : Nat → Nat → Nat → Int32), (∀ t9, Rg 0 8 (nY' t9)) ∧ va_P (dC, dI) vwCl (List.flatten [(wState (sY 0) k (vY' 0) (nY' 0) (aY' 0)), (wState (sY 1) k (vY' 1) (nY' 1) (aY' 1)), (wState (sY 2) k (vY' 2) (nY' 2) (aY' 2)), (wState (sY 3) k (vY' 3) (nY' 3) (aY' 3)), (wState (sY 4) k (vY' 4) (nY' 4) (aY' 4)), (wState (sY 5) k (vY' 5) (nY' 5) (aY' 5)), (wState (sY 6) k (vY' 6) (nY' 6) (aY' 6)), (wState (sY 7) k (vY' 7) (nY' 7) (aY' 7))] ++ List.flatten [(wStoO qY k (qV 0) (qP 0) (sY 0 0) (sY 1 0) (sY 2 0) (sY 3 0) (sY 4 0) (sY 5 0) (sY 6 0) (sY 7 0)), (wValley qV k vV bV cV wV aV eV), (wPlan qP k vP aP eP)]) t.heap) (va_A (List.flatten [(wState (sY 0) k (vY 0) (nY 0) (aY 0)), (wState (sY 1) k (vY 1) (nY 1) (aY 1)), (wState (sY 2) k (vY 2) (nY 2) (aY 2)), (wState (sY 3) k (vY 3) (nY 3) (aY 3)), (wState (sY 4) k (vY 4) (nY 4) (aY 4)), (wState (sY 5) k (vY 5) (nY 5) (aY 5)), (wState (sY 6) k (vY 6) (nY 6) (aY 6)), (wState (sY 7) k (vY 7) (nY 7) (aY 7))] ++ List.flatten [(wStoO qY k (qV 0) (qP 0) (sY 0 0) (sY 1 0) (sY 2 0) (sY 3 0) (sY 4 0) (sY 5 0) (sY 6 0) (sY 7 0)), (wValley qV k vV bV cV wV aV eV), (wPlan qP k vP aP eP)]) sz)) 0 0 (va_A (List.flatten [(wState (sY 0) k (vY 0) (nY 0) (aY 0)), (wState (sY 1) k (vY 1) (nY 1) (aY 1)), (wState (sY 2) k (vY 2) (nY 2) (aY 2)), (wState (sY 3) k (vY 3) (nY 3) (aY 3)), (wState (sY 4) k (vY 4) (nY 4) (aY 4)), (wState (sY 5) k (vY 5) (nY 5) (aY 5)), (wState (sY 6) k (vY 6) (nY 6) (aY 6)), (wState (sY 7) k (vY 7) (nY 7) (aY 7))] ++ List.flatten [(wStoO qY k (qV 0) (qP 0) (sY 0 0) (sY 1 0) (sY 2 0) (sY 3 0) (sY 4 0) (sY 5 0) (sY 6 0) (sY 7 0)), (wValley qV k vV bV cV wV aV eV), (wPlan qP k vP aP eP)]) sz) := by
  refine Met.ofW (cc := cX8_step) (maxL := 4) (ret := none) (by decide) rfl ?_
  intro p e s m args below meth c s₁ B hml hv
  obtain ⟨rfl, hsz, hP, hK, hD0⟩ := hv
  have hx := B.exec
  have hb := B.bytes
  have hr := B.returns
  have hts := atoms_spec (ws := wk_c_X8_step) B.pre
  have hown : s.vm.findClass RX8 = some m.cls := findClass_of_methodNamed B.named
  have hlocks := B.notSynchronized
  subst hsz
  have hD := hD0.self (sz := s.heap.size)
  generalize hAe : va_A (List.flatten [(wState (sY 0) k (vY 0) (nY 0) (aY 0)), (wState (sY 1) k (vY 1) (nY 1) (aY 1)), (wState (sY 2) k (vY 2) (nY 2) (aY 2)), (wState (sY 3) k (vY 3) (nY 3) (aY 3)), (wState (sY 4) k (vY 4) (nY 4) (aY 4)), (wState (sY 5) k (vY 5) (nY 5) (aY 5)), (wState (sY 6) k (vY 6) (nY 6) (aY 6)), (wState (sY 7) k (vY 7) (nY 7) (aY 7))] ++ List.flatten [(wStoO qY k (qV 0) (qP 0) (sY 0 0) (sY 1 0) (sY 2 0) (sY 3 0) (sY 4 0) (sY 5 0) (sY 6 0) (sY 7 0)), (wValley qV k vV bV cV wV aV eV), (wPlan qP k vP aP eP)]) s.heap.size = A at hD ⊢
  have hA : ∀ q : Nat, s.heap.size ≤ q → A q := fun q h => by rw [← hAe]; exact Or.inr h
  have hS : va_S A s.heap s.heap [] := va_S.rf
  have hP : va_P (dC, dI) vwCl (List.flatten [(wState (sY 0) k (vY 0) (nY 0) (aY 0)), (wState (sY 1) k (vY 1) (nY 1) (aY 1)), (wState (sY 2) k (vY 2) (nY 2) (aY 2)), (wState (sY 3) k (vY 3) (nY 3) (aY 3)), (wState (sY 4) k (vY 4) (nY 4) (aY 4)), (wState (sY 5) k (vY 5) (nY 5) (aY 5)), (wState (sY 6) k (vY 6) (nY 6) (aY 6)), (wState (sY 7) k (vY 7) (nY 7) (aY 7))] ++ List.flatten [(wStoO qY k (qV 0) (qP 0) (sY 0 0) (sY 1 0) (sY 2 0) (sY 3 0) (sY 4 0) (sY 5 0) (sY 6 0) (sY 7 0)), (wValley qV k vV bV cV wV aV eV), (wPlan qP k vP aP eP)]) s.heap := hP
  have hl := lv_entry ([.ref (qY 0), .int p1, .int p2]) (n := 4) (Nat.le_of_ble_eq_true rfl)
  rw [lg_entry_eq]
  generalize (lg_sl ([.ref (qY 0), .int p1, .int p2]) ++ List.replicate (4 - (lg_sl ([.ref (qY 0), .int p1, .int p2])).length) Slot.unset).toArray = ls at hl ⊢
  have hl : lv_has ls 4 [(0, .ref (qY 0)), (1, .int p1), (2, .int p2)] := hl
  refine w_gen (fun Q hQ => ?_)
  refine lv_aload_n hx hb dX8_step_0 rfl (lv_at hl 0 rfl) ?_
  refine va_get (D := (dC, dI)) (ci := 8) (v := .ref (qV 0)) (C := RX8) (T := TX8) (N := 4) hx hb hts (fun w h => List.mem_cons_of_mem _ (List.mem_append_right _ (List.mem_append_left _ h))) hown hK hP 88 rfl rfl 0 (by decide) (hts (.fieldLink RX8 22 "SagMemory$Story" "valley" "LSagMemory$Valley;") (wl_mem 0 rfl)) (fun _ h9 => h9) rfl dX8_step_1 ?_
  refine lv_iload_n hx hb dX8_step_4 rfl (lv_at hl 1 rfl) ?_
  have hPc := hP.sub (ws' := (List.flatten [(wValley qV k vV bV cV wV aV eV)])) [90, 91, 92, 93, 94, 95, 96, 97] rfl
  refine vp_callSi (va_Run.run (va_runV (As := [.int p1]) (rest := []) ⟨hx, hb, hml, hown, hts⟩ (c_X10_hasCart l dC dI k qV vV bV cV wV aV eV p1 hbV hcV hwV heV) (cwV 1 hts (gk_V (wl_mem 1 rfl) (wl_mem 2 rfl) (wl_mem 3 rfl) (wl_mem 4 rfl) (fun w h => List.mem_cons_of_mem _ (List.mem_append_right _ (List.mem_append_right _ (List.mem_append_left _ h)))) wkg_c_X10_hasCart) rfl rfl rfl (by decide +kernel) ⟨Nat.le_of_ble_eq_true rfl, Nat.le_of_ble_eq_true rfl⟩) ⟨fun a U g mk q => by obtain ⟨q0, qP, qK⟩ := q; exact ⟨q0, qP, va_K.moved (u := U) (U := U.calling g mk a) (Vm.Alike.refl U.vm) qK⟩, va_recv hK hPc (ci := 10) (q0 := 0) rfl rfl, fun U hU hW => ⟨rfl, by rw [hU]; exact hPc, va_K.moved hW.alike hK⟩⟩ rfl rfl hl.1 rfl (lv_room (Nat.le_of_ble_eq_true rfl)) dX8_step_5 ⟨Nat.le_of_ble_eq_true rfl, Nat.le_of_ble_eq_true rfl⟩)) (fun rz2 gz1 => ?_)
  clear hPc
  rcases gz1 with ⟨er, cz3⟩ | ⟨er, cz4, cz5⟩ | ⟨er, cz6, cz7⟩
  · obtain rfl := er.symm
    have bz8 := fb_rng p1
    have zz9 : p1.toInt < (0 : Int) := zi_lt.mp cz3
    refine lv_if_eq (tgt := 22) hx hb dX8_step_8 (by decide) (fun cz10 => ?_) (fun cz10 => ?_)
    · skip
      rw [hQ]
      exact W.vret hx hb hr (fun t ht hW => ⟨⟨(), rfl, trivial, vY, nY, aY, hnY, by rw [ht]; exact hP⟩, hS.F ht⟩) hS.2.2 dX8_step_22
    · skip
      exact absurd cz10 (by decide)
  · obtain rfl := er.symm
    have bz11 := fb_rng p1
    have zz12 : ¬ p1.toInt < (0 : Int) := fun h9 => cz4 (zi_lt.mpr h9)
    have bz13 := hcV 0
    have zz14 : (cV 0).toInt ≤ p1.toInt := zi_le.mp cz5
    refine lv_if_eq (tgt := 22) hx hb dX8_step_8 (by decide) (fun cz15 => ?_) (fun cz15 => ?_)
    · skip
      rw [hQ]
      exact W.vret hx hb hr (fun t ht hW => ⟨⟨(), rfl, trivial, vY, nY, aY, hnY, by rw [ht]; exact hP⟩, hS.F ht⟩) hS.2.2 dX8_step_22
    · skip
      exact absurd cz15 (by decide)
  · obtain rfl := er.symm
    have bz16 := fb_rng p1
    have zz17 : ¬ p1.toInt < (0 : Int) := fun h9 => cz6 (zi_lt.mpr h9)
    have bz18 := hcV 0
    have zz19 : ¬ (cV 0).toInt ≤ p1.toInt := fun h9 => cz7 (zi_le.mpr h9)
    refine lv_if_eq (tgt := 22) hx hb dX8_step_8 (by decide) (fun cz20 => ?_) (fun cz20 => ?_)
    · skip
      exact absurd cz20 (by decide)
    · skip
      refine lv_aload_n hx hb dX8_step_11 rfl (lv_at hl 0 rfl) ?_
      refine va_get (D := (dC, dI)) (ci := 8) (v := .ref (qV 0)) (C := RX8) (T := TX8) (N := 4) hx hb hts (fun w h => List.mem_cons_of_mem _ (List.mem_append_right _ (List.mem_append_left _ h))) hown hK hP 88 rfl rfl 0 (by decide) (hts (.fieldLink RX8 22 "SagMemory$Story" "valley" "LSagMemory$Valley;") (wl_mem 0 rfl)) (fun _ h9 => h9) rfl dX8_step_12 ?_
      refine lv_iload_n hx hb dX8_step_15 rfl (lv_at hl 2 rfl) ?_
      have hPc := hP.sub (ws' := (List.flatten [(wValley qV k vV bV cV wV aV eV)])) [90, 91, 92, 93, 94, 95, 96, 97] rfl
      refine vp_callSi (va_Run.run (va_runV (As := [.int p2]) (rest := []) ⟨hx, hb, hml, hown, hts⟩ (c_X10_hasCart l dC dI k qV vV bV cV wV aV eV p2 hbV hcV hwV heV) (cwV 1 hts (gk_V (wl_mem 1 rfl) (wl_mem 2 rfl) (wl_mem 3 rfl) (wl_mem 4 rfl) (fun w h => List.mem_cons_of_mem _ (List.mem_append_right _ (List.mem_append_right _ (List.mem_append_left _ h)))) wkg_c_X10_hasCart) rfl rfl rfl (by decide +kernel) ⟨Nat.le_of_ble_eq_true rfl, Nat.le_of_ble_eq_true rfl⟩) ⟨fun a U g mk q => by obtain ⟨q0, qP, qK⟩ := q; exact ⟨q0, qP, va_K.moved (u := U) (U := U.calling g mk a) (Vm.Alike.refl U.vm) qK⟩, va_recv hK hPc (ci := 10) (q0 := 0) rfl rfl, fun U hU hW => ⟨rfl, by rw [hU]; exact hPc, va_K.moved hW.alike hK⟩⟩ rfl rfl hl.1 rfl (lv_room (Nat.le_of_ble_eq_true rfl)) dX8_step_16 ⟨Nat.le_of_ble_eq_true rfl, Nat.le_of_ble_eq_true rfl⟩)) (fun rz22 gz21 => ?_)
      clear hPc
      rcases gz21 with ⟨er, cz23⟩ | ⟨er, cz24, cz25⟩ | ⟨er, cz26, cz27⟩
      · obtain rfl := er.symm
        have bz28 := fb_rng p2
        have zz29 : p2.toInt < (0 : Int) := zi_lt.mp cz23
        refine lv_if_ne (tgt := 23) hx hb dX8_step_19 (by decide) (fun cz30 => ?_) (fun cz30 => ?_)
        · skip
          exact absurd cz30 (by decide)
        · skip
          rw [hQ]
          exact W.vret hx hb hr (fun t ht hW => ⟨⟨(), rfl, trivial, vY, nY, aY, hnY, by rw [ht]; exact hP⟩, hS.F ht⟩) hS.2.2 dX8_step_22
      · obtain rfl := er.symm
        have bz31 := fb_rng p2
        have zz32 : ¬ p2.toInt < (0 : Int) := fun h9 => cz24 (zi_lt.mpr h9)
        have zz33 : (cV 0).toInt ≤ p2.toInt := zi_le.mp cz25
        refine lv_if_ne (tgt := 23) hx hb dX8_step_19 (by decide) (fun cz34 => ?_) (fun cz34 => ?_)
        · skip
          exact absurd cz34 (by decide)
        · skip
          rw [hQ]
          exact W.vret hx hb hr (fun t ht hW => ⟨⟨(), rfl, trivial, vY, nY, aY, hnY, by rw [ht]; exact hP⟩, hS.F ht⟩) hS.2.2 dX8_step_22
      · obtain rfl := er.symm
        have bz35 := fb_rng p2
        have zz36 : ¬ p2.toInt < (0 : Int) := fun h9 => cz26 (zi_lt.mpr h9)
        have zz37 : ¬ (cV 0).toInt ≤ p2.toInt := fun h9 => cz27 (zi_le.mpr h9)
        refine lv_if_ne (tgt := 23) hx hb dX8_step_19 (by decide) (fun cz38 => ?_) (fun cz38 => ?_)
        · skip
          refine lv_aload_n hx hb dX8_step_23 rfl (lv_at hl 0 rfl) ?_
          refine va_get (D := (dC, dI)) (ci := 8) (v := .ref (qY 1)) (C := RX8) (T := TX8) (N := 4) hx hb hts (fun w h => List.mem_cons_of_mem _ (List.mem_append_right _ (List.mem_append_left _ h))) hown hK hP 88 rfl rfl 3 (by decide) (hts (.fieldLink RX8 18 "SagMemory$Story" "states" "[LSagMemory$State;") (wl_mem 5 rfl)) (fun _ h9 => h9) rfl dX8_step_24 ?_
          refine lv_iload_n hx hb dX8_step_27 rfl (lv_at hl 1 rfl) ?_
          rcases (show p1 = 0 ∨ p1 = 1 ∨ p1 = 2 ∨ p1 = 3 ∨ p1 = 4 ∨ p1 = 5 ∨ p1 = 6 by simp only [zi_eq]; show p1.toInt = 0 ∨ p1.toInt = 1 ∨ p1.toInt = 2 ∨ p1.toInt = 3 ∨ p1.toInt = 4 ∨ p1.toInt = 5 ∨ p1.toInt = 6; omega) with cz39 | cz39 | cz39 | cz39 | cz39 | cz39 | cz39
          · skip
            have zz40 : p1.toInt = (0 : Int) := zi_eq.mp cz39
            refine W.eq (g2 := F0 m 28 ls [.int 0, .ref (qY 1)]) (by rw [cz39]) ?_
            refine va_aldq hx hb hK hP 89 5 rfl rfl (by unfold vp_in; decide) dX8_step_28 ?_
            refine W.eq (g2 := F0 m 29 ls [.ref (sY 1 0)]) rfl ?_
            refine lv_astore_n (lv' := [(3, .ref (sY 1 0)), (0, .ref (qY 0)), (1, .int p1), (2, .int p2)]) hx hb dX8_step_29 rfl hl (by decide) rfl (fun ls hl => ?_)
            refine lv_aload_n hx hb dX8_step_30 rfl (lv_at hl 0 rfl) ?_
            refine lv_aload_n hx hb dX8_step_31 rfl (lv_at hl 1 rfl) ?_
            refine lv_iload_n hx hb dX8_step_32 rfl (lv_at hl 2 rfl) ?_
            refine lv_iconst (v := 1) hx hb dX8_step_33 (by decide) ?_
            refine lv_isub hx hb dX8_step_34 ?_
            refine lv_topi (fun xz41 exz41 => ?_)
            have fxz41 : xz41.toInt = p1.toInt - (1 : Int) := by rw [exz41]; exact fb_subI (x := p1) (y := (1 : Int32)) (by show -2147483648 ≤ p1.toInt - (1 : Int); omega) (by show p1.toInt - (1 : Int) < 2147483648; omega)
            have hPc : va_P (dC, dI) vwCl (List.flatten [(wStoO qY k (qV 0) (qP 0) (sY 0 0) (sY 1 0) (sY 2 0) (sY 3 0) (sY 4 0) (sY 5 0) (sY 6 0) (sY 7 0)), (wState (sY 0) k (vY 0) (nY 0) (aY 0)), (wState (sY 1) k (vY 1) (nY 1) (aY 1)), (wState (sY 2) k (vY 2) (nY 2) (aY 2)), (wState (sY 3) k (vY 3) (nY 3) (aY 3)), (wState (sY 4) k (vY 4) (nY 4) (aY 4)), (wState (sY 5) k (vY 5) (nY 5) (aY 5)), (wState (sY 6) k (vY 6) (nY 6) (aY 6)), (wState (sY 7) k (vY 7) (nY 7) (aY 7))]) s.heap := wc_subP1 hP [8, 0, 1, 2, 3, 4, 5, 6, 7] rfl
            refine va_csr (va_Run.run (va_runV (As := [.int xz41]) (rest := [.ref (sY 1 0)]) ⟨hx, hb, hml, hown, hts⟩ (c_X8_behind l dC dI k qY sY (qV 0) (qP 0) vY nY aY xz41 hnY) (cwV 1 hts (gk_V (wl_mem 6 rfl) (wl_mem 7 rfl) (wl_mem 8 rfl) (wl_mem 9 rfl) (fun w h => List.mem_cons_of_mem _ (List.mem_append_right _ (List.mem_append_right _ (List.mem_append_right _ (List.mem_append_left _ h))))) wkg_c_X8_behind) rfl rfl rfl (by decide +kernel) ⟨Nat.le_of_ble_eq_true rfl, Nat.le_of_ble_eq_true rfl⟩) ⟨fun a U g mk q => by obtain ⟨q0, qP, qK⟩ := q; exact ⟨q0, qP, va_K.moved (u := U) (U := U.calling g mk a) (Vm.Alike.refl U.vm) qK⟩, va_recv hK hPc (ci := 8) (q0 := 0) rfl rfl, fun U hU hW => ⟨rfl, by rw [hU]; exact hPc, va_K.moved hW.alike hK⟩⟩ rfl rfl hl.1 rfl (lv_room (Nat.le_of_ble_eq_true rfl)) dX8_step_35 ⟨Nat.le_of_ble_eq_true rfl, Nat.le_of_ble_eq_true rfl⟩)) (fun rz43 gz42 => ?_)
            clear hPc
            rcases gz42 with ⟨rfl, cz44⟩ | ⟨rfl, cz45, cz46⟩ | ⟨rfl, cz47, cz48, cz49⟩ | ⟨rfl, cz50, cz51, cz52⟩ | ⟨rfl, cz53, cz54, cz55⟩ | ⟨rfl, cz56, cz57, cz58⟩ | ⟨rfl, cz59, cz60, cz61⟩ | ⟨rfl, cz62, cz63, cz64⟩ | ⟨rfl, cz65, cz66, cz67⟩
            · skip
              have zz68 : xz41.toInt < (0 : Int) := zi_lt.mp cz44
              refine W.eq (g2 := F0 m 38 ls [.ref (sY 0 0), .ref (sY 1 0)]) rfl ?_
              have hPc : va_P (dC, dI) vwCl (List.flatten [(wState (sY 1) k (vY 1) (nY 1) (aY 1))] ++ List.flatten [(wState (sY 0) k (vY 0) (nY 0) (aY 0))]) s.heap := wc_subP hP [1, 0] rfl
              have hDc : va_D A (List.flatten [(wState (sY 1) k (vY 1) (nY 1) (aY 1))] ++ List.flatten [(wState (sY 0) k (vY 0) (nY 0) (aY 0))]) := wc_subD hD [1, 0] rfl rfl
              have hFc := wc_free hDc hS hA
              refine va_callv (va_runV (As := [.ref (sY 0 0)]) (rest := []) ⟨hx, hb, hml, hown, hts⟩ (c_X7_take l dC dI k s.heap.size (sY 1) (vY 1) (nY 1) (aY 1) (sY 0) (vY 0) (nY 0) (aY 0) (hnY 1) (hnY 0)) (cwV 1 hts (gk_V (wl_mem 10 rfl) (wl_mem 11 rfl) (wl_mem 12 rfl) (wl_mem 13 rfl) (fun w h => List.mem_cons_of_mem _ (List.mem_append_right _ (List.mem_append_right _ (List.mem_append_right _ (List.mem_append_right _ (List.mem_append_left _ h)))))) wkg_c_X7_take) rfl rfl rfl (by decide +kernel) ⟨Nat.le_of_ble_eq_true rfl, Nat.le_of_ble_eq_true rfl⟩) ⟨fun a U g mk q => by obtain ⟨q0, q1, qP, qK, qD⟩ := q; exact ⟨q0, q1, qP, va_K.moved (u := U) (U := U.calling g mk a) (Vm.Alike.refl U.vm) qK, qD⟩, va_recv hK hPc (ci := 7) (q0 := 0) rfl rfl, fun U hU hW => ⟨rfl, by rw [hU], by rw [hU]; exact hPc, va_K.moved hW.alike hK, hDc.weaken (fun _ _ _ _ => trivial)⟩⟩ rfl rfl hl.1 rfl (lv_room (Nat.le_of_ble_eq_true rfl)) dX8_step_38 ⟨Nat.le_of_ble_eq_true rfl, Nat.le_of_ble_eq_true rfl⟩) hS (fun q _ h => hFc q h) hFc (fun u t H1 locs ht hvm gz69 hB hz1 hk1 hS => ?_)
              obtain ⟨vz71, nz72, az73, hnz72, hP1⟩ := hB
              rw [ht] at hP1
              obtain ⟨hP, hD⟩ := w_callR hP hD hk1 hP1 [1] rfl rfl (wk_memC [0] rfl) rfl [none, some 0, none, none, none, none, none, none] rfl rfl
              clear hPc hDc hFc hk1 hP1
              generalize H1 = H at hP hS ⊢
              have hP : va_P (dC, dI) vwCl (List.flatten [(wState (sY 0) k (vY 0) (nY 0) (aY 0)), (wState (sY 1) k vz71 nz72 az73), (wState (sY 2) k (vY 2) (nY 2) (aY 2)), (wState (sY 3) k (vY 3) (nY 3) (aY 3)), (wState (sY 4) k (vY 4) (nY 4) (aY 4)), (wState (sY 5) k (vY 5) (nY 5) (aY 5)), (wState (sY 6) k (vY 6) (nY 6) (aY 6)), (wState (sY 7) k (vY 7) (nY 7) (aY 7))] ++ List.flatten [(wStoO qY k (qV 0) (qP 0) (sY 0 0) (sY 1 0) (sY 2 0) (sY 3 0) (sY 4 0) (sY 5 0) (sY 6 0) (sY 7 0)), (wValley qV k vV bV cV wV aV eV), (wPlan qP k vP aP eP)]) H := hP
              have hD : va_D A (List.flatten [(wState (sY 0) k (vY 0) (nY 0) (aY 0)), (wState (sY 1) k vz71 nz72 az73), (wState (sY 2) k (vY 2) (nY 2) (aY 2)), (wState (sY 3) k (vY 3) (nY 3) (aY 3)), (wState (sY 4) k (vY 4) (nY 4) (aY 4)), (wState (sY 5) k (vY 5) (nY 5) (aY 5)), (wState (sY 6) k (vY 6) (nY 6) (aY 6)), (wState (sY 7) k (vY 7) (nY 7) (aY 7))] ++ List.flatten [(wStoO qY k (qV 0) (qP 0) (sY 0 0) (sY 1 0) (sY 2 0) (sY 3 0) (sY 4 0) (sY 5 0) (sY 6 0) (sY 7 0)), (wValley qV k vV bV cV wV aV eV), (wPlan qP k vP aP eP)]) := hD
              refine W.widen (k := 0) (n := 0) (Nat.le_refl 0) (Nat.le_refl 0) ?_
              refine lv_aload_n hx hb dX8_step_41 rfl (lv_at hl 1 rfl) ?_
              refine va_get (D := (dC, dI)) (ci := 8) (v := .ref (qP 0)) (C := RX8) (T := TX8) (N := 4) hx hb hts (fun w h => List.mem_cons_of_mem _ (List.mem_append_right _ (List.mem_append_left _ h))) hown hK hP 88 rfl rfl 1 (by decide) (hts (.fieldLink RX8 26 "SagMemory$Story" "plan" "LSagMemory$Plan;") (wl_mem 14 rfl)) (fun _ h9 => h9) rfl dX8_step_42 ?_
              refine va_get (D := (dC, dI)) (ci := 3) (v := .int (vP 1)) (C := RX3) (T := TX3) (N := 4) hx hb hts (fun w h => List.mem_cons_of_mem _ (List.mem_append_right _ (List.mem_append_right _ (List.mem_append_right _ (List.mem_append_right _ (List.mem_append_right _ (List.mem_append_left _ h))))))) hown hK hP 98 rfl rfl 3 (by decide) (hts (.fieldLink RX8 52 "SagMemory$Plan" "cold" "I") (wl_mem 15 rfl)) (fun _ h9 => h9) rfl dX8_step_45 ?_
              refine lv_iload_n hx hb dX8_step_48 rfl (lv_at hl 2 rfl) ?_
              refine lv_ishr hx hb dX8_step_49 ?_
              refine lv_topi (fun xz74 exz74 => ?_)
              refine lv_iconst (v := 1) hx hb dX8_step_50 (by decide) ?_
              refine lv_iand hx hb dX8_step_51 ?_
              refine lv_topi (fun xz75 exz75 => ?_)
              have bxz75 : 0 ≤ xz75.toInt ∧ xz75.toInt ≤ 1 := by rw [exz75]; exact zand _ 1 2 (by decide) (by decide) (by decide)
              have ct66_kz87 : ∀ (H : Heap) (locs : List Loc) (ls : Array Slot) (az84 : Nat → Nat → Nat → Int32) (nz85 : Nat → Nat → Int32) (vz86 : Nat → Nat → Int32), (∀ t9, Rg 0 8 (nz85 t9)) → va_P (dC, dI) vwCl (List.flatten [(wState (sY 0) k (vz86 0) (nz85 0) (az84 0)), (wState (sY 1) k (vz86 1) (nz85 1) (az84 1)), (wState (sY 2) k (vz86 2) (nz85 2) (az84 2)), (wState (sY 3) k (vz86 3) (nz85 3) (az84 3)), (wState (sY 4) k (vz86 4) (nz85 4) (az84 4)), (wState (sY 5) k (vz86 5) (nz85 5) (az84 5)), (wState (sY 6) k (vz86 6) (nz85 6) (az84 6)), (wState (sY 7) k (vz86 7) (nz85 7) (az84 7))] ++ List.flatten [(wStoO qY k (qV 0) (qP 0) (sY 0 0) (sY 1 0) (sY 2 0) (sY 3 0) (sY 4 0) (sY 5 0) (sY 6 0) (sY 7 0)), (wValley qV k vV bV cV wV aV eV), (wPlan qP k vP aP eP)]) H → va_D A (List.flatten [(wState (sY 0) k (vz86 0) (nz85 0) (az84 0)), (wState (sY 1) k (vz86 1) (nz85 1) (az84 1)), (wState (sY 2) k (vz86 2) (nz85 2) (az84 2)), (wState (sY 3) k (vz86 3) (nz85 3) (az84 3)), (wState (sY 4) k (vz86 4) (nz85 4) (az84 4)), (wState (sY 5) k (vz86 5) (nz85 5) (az84 5)), (wState (sY 6) k (vz86 6) (nz85 6) (az84 6)), (wState (sY 7) k (vz86 7) (nz85 7) (az84 7))] ++ List.flatten [(wStoO qY k (qV 0) (qP 0) (sY 0 0) (sY 1 0) (sY 2 0) (sY 3 0) (sY 4 0) (sY 5 0) (sY 6 0) (sY 7 0)), (wValley qV k vV bV cV wV aV eV), (wPlan qP k vP aP eP)]) → va_S A s.heap H locs → lv_has ls 4 [(0, .ref (qY 0)), (2, .int p2), (3, .ref (sY 1 0))] → W p l e (headSpec wk_c_X8_step ({ frames := 2, cells := 0, slots := 0, locals := 108 })).room s m ([.ref (qY 0), .int p1, .int p2] : List Value).toArray below meth c H locs 0 0 Q (F0 m 66 ls []) := by
                intro H locs ls az84 nz85 vz86 hnz85 hP hD hS hl
                refine lv_aload_n hx hb dX8_step_66 rfl (lv_at hl 2 rfl) ?_
                refine lv_aload_n hx hb dX8_step_67 rfl (lv_at hl 0 rfl) ?_
                refine va_get (D := (dC, dI)) (ci := 8) (v := .ref (qV 0)) (C := RX8) (T := TX8) (N := 4) hx hb hts (fun w h => List.mem_cons_of_mem _ (List.mem_append_right _ (List.mem_append_left _ h))) hown hK hP 88 rfl rfl 0 (by decide) (hts (.fieldLink RX8 22 "SagMemory$Story" "valley" "LSagMemory$Valley;") (wl_mem 0 rfl)) (fun _ h9 => h9) rfl dX8_step_68 ?_
                refine lv_iload_n hx hb dX8_step_71 rfl (lv_at hl 1 rfl) ?_
                refine lv_aload_n hx hb dX8_step_72 rfl (lv_at hl 0 rfl) ?_
                refine va_get (D := (dC, dI)) (ci := 8) (v := .ref (qP 0)) (C := RX8) (T := TX8) (N := 4) hx hb hts (fun w h => List.mem_cons_of_mem _ (List.mem_append_right _ (List.mem_append_left _ h))) hown hK hP 88 rfl rfl 1 (by decide) (hts (.fieldLink RX8 26 "SagMemory$Story" "plan" "LSagMemory$Plan;") (wl_mem 14 rfl)) (fun _ h9 => h9) rfl dX8_step_73 ?_
                refine va_get (D := (dC, dI)) (ci := 3) (v := .ref (qP 2)) (C := RX3) (T := TX3) (N := 4) hx hb hts (fun w h => List.mem_cons_of_mem _ (List.mem_append_right _ (List.mem_append_right _ (List.mem_append_right _ (List.mem_append_right _ (List.mem_append_right _ (List.mem_append_left _ h))))))) hown hK hP 98 rfl rfl 1 (by decide) (hts (.fieldLink RX8 64 "SagMemory$Plan" "ways" "[I") (wl_mem 20 rfl)) (fun _ h9 => h9) rfl dX8_step_76 ?_
                refine lv_iload_n hx hb dX8_step_79 rfl (lv_at hl 1 rfl) ?_
                refine va_iald hx hb hK hP 100 0 rfl rfl (vp_in_iff.mpr ⟨by omega, by omega⟩) dX8_step_80 ?_
                refine lv_topi (fun xz88 exz88 => ?_)
                refine lv_aload_n hx hb dX8_step_81 rfl (lv_at hl 0 rfl) ?_
                refine va_get (D := (dC, dI)) (ci := 8) (v := .ref (qP 0)) (C := RX8) (T := TX8) (N := 4) hx hb hts (fun w h => List.mem_cons_of_mem _ (List.mem_append_right _ (List.mem_append_left _ h))) hown hK hP 88 rfl rfl 1 (by decide) (hts (.fieldLink RX8 26 "SagMemory$Story" "plan" "LSagMemory$Plan;") (wl_mem 14 rfl)) (fun _ h9 => h9) rfl dX8_step_82 ?_
                refine va_get (D := (dC, dI)) (ci := 3) (v := .ref (qP 1)) (C := RX3) (T := TX3) (N := 4) hx hb hts (fun w h => List.mem_cons_of_mem _ (List.mem_append_right _ (List.mem_append_right _ (List.mem_append_right _ (List.mem_append_right _ (List.mem_append_right _ (List.mem_append_left _ h))))))) hown hK hP 98 rfl rfl 0 (by decide) (hts (.fieldLink RX8 68 "SagMemory$Plan" "loads" "[I") (wl_mem 21 rfl)) (fun _ h9 => h9) rfl dX8_step_85 ?_
                refine lv_iload_n hx hb dX8_step_88 rfl (lv_at hl 1 rfl) ?_
                refine va_iald hx hb hK hP 99 0 rfl rfl (vp_in_iff.mpr ⟨by omega, by omega⟩) dX8_step_89 ?_
                refine lv_topi (fun xz89 exz89 => ?_)
                have bxz89 : 0 ≤ xz89.toInt ∧ xz89.toInt ≤ 99 := by rw [exz89]; exact (heP 0) _
                refine lv_aload_n hx hb dX8_step_90 rfl (lv_at hl 0 rfl) ?_
                refine va_get (D := (dC, dI)) (ci := 8) (v := .ref (qP 0)) (C := RX8) (T := TX8) (N := 4) hx hb hts (fun w h => List.mem_cons_of_mem _ (List.mem_append_right _ (List.mem_append_left _ h))) hown hK hP 88 rfl rfl 1 (by decide) (hts (.fieldLink RX8 26 "SagMemory$Story" "plan" "LSagMemory$Plan;") (wl_mem 14 rfl)) (fun _ h9 => h9) rfl dX8_step_91 ?_
                refine va_get (D := (dC, dI)) (ci := 3) (v := .int (vP 0)) (C := RX3) (T := TX3) (N := 4) hx hb hts (fun w h => List.mem_cons_of_mem _ (List.mem_append_right _ (List.mem_append_right _ (List.mem_append_right _ (List.mem_append_right _ (List.mem_append_right _ (List.mem_append_left _ h))))))) hown hK hP 98 rfl rfl 2 (by decide) (hts (.fieldLink RX8 71 "SagMemory$Plan" "law" "I") (wl_mem 22 rfl)) (fun _ h9 => h9) rfl dX8_step_94 ?_
                have hPc := hP.sub (ws' := (List.flatten [(wState (sY 1) k (vz86 1) (nz85 1) (az84 1))] ++ List.flatten [(wValley qV k vV bV cV wV aV eV)])) [11, 12, 13, 14, 15, 16, 17, 18, 19, 20, 21, 90, 91, 92, 93, 94, 95, 96, 97] rfl
                have hC : [11, 12, 13, 14, 15, 16, 17, 18, 19, 20, 21, 90, 91, 92, 93, 94, 95, 96, 97].map (fun i => (List.flatten [(wState (sY 0) k (vz86 0) (nz85 0) (az84 0)), (wState (sY 1) k (vz86 1) (nz85 1) (az84 1)), (wState (sY 2) k (vz86 2) (nz85 2) (az84 2)), (wState (sY 3) k (vz86 3) (nz85 3) (az84 3)), (wState (sY 4) k (vz86 4) (nz85 4) (az84 4)), (wState (sY 5) k (vz86 5) (nz85 5) (az84 5)), (wState (sY 6) k (vz86 6) (nz85 6) (az84 6)), (wState (sY 7) k (vz86 7) (nz85 7) (az84 7))] ++ List.flatten [(wStoO qY k (qV 0) (qP 0) (sY 0 0) (sY 1 0) (sY 2 0) (sY 3 0) (sY 4 0) (sY 5 0) (sY 6 0) (sY 7 0)), (wValley qV k vV bV cV wV aV eV), (wPlan qP k vP aP eP)])[i]?) = (List.flatten [(wState (sY 1) k (vz86 1) (nz85 1) (az84 1))] ++ List.flatten [(wValley qV k vV bV cV wV aV eV)]).map some := rfl
                have hDc := hD.sub [11, 12, 13, 14, 15, 16, 17, 18, 19, 20, 21, 90, 91, 92, 93, 94, 95, 96, 97] (by decide) hC
                have hFc := va_free hD hS hA [11, 12, 13, 14, 15, 16, 17, 18, 19, 20, 21, 90, 91, 92, 93, 94, 95, 96, 97] hC
                refine va_callv (va_runV (As := [.ref (qV 0), .int p2, .int xz88, .int xz89, .int (vP 0)]) (rest := []) ⟨hx, hb, hml, hown, hts⟩ (c_X7_meet l dC dI k H.size (sY 1) (vz86 1) (nz85 1) (az84 1) qV vV bV cV wV aV eV p2 xz88 xz89 (vP 0) (hnz85 1) hbV hcV hwV heV (by show 0 ≤ xz89.toInt ∧ xz89.toInt ≤ 99; omega)) (cwV 5 hts (gk_V (wl_mem 23 rfl) (wl_mem 24 rfl) (wl_mem 25 rfl) (wl_mem 13 rfl) (fun w h => List.mem_cons_of_mem _ (List.mem_append_right _ (List.mem_append_right _ (List.mem_append_right _ (List.mem_append_right _ (List.mem_append_right _ (List.mem_append_right _ (List.mem_append_right _ (List.mem_append_right _ (List.mem_append_left _ h)))))))))) wkg_c_X7_meet) rfl rfl rfl (by decide +kernel) ⟨Nat.le_of_ble_eq_true rfl, Nat.le_of_ble_eq_true rfl⟩) ⟨fun a U g mk q => by obtain ⟨q0, q1, qP, qK, qD⟩ := q; exact ⟨q0, q1, qP, va_K.moved (u := U) (U := U.calling g mk a) (Vm.Alike.refl U.vm) qK, qD⟩, va_recv hK hPc (ci := 7) (q0 := 0) rfl rfl, fun U hU hW => ⟨rfl, by rw [hU], by rw [hU]; exact hPc, va_K.moved hW.alike hK, hDc.weaken (fun _ _ _ _ => trivial)⟩⟩ rfl rfl hl.1 rfl (lv_room (Nat.le_of_ble_eq_true rfl)) dX8_step_97 ⟨Nat.le_of_ble_eq_true rfl, Nat.le_of_ble_eq_true rfl⟩) hS (fun q _ h => hFc q h) hFc (fun u t H1 locs ht hvm gz90 hB hz1 hk1 hS => ?_)
                obtain ⟨vz92, nz93, az94, hnz93, hP1⟩ := hB
                rw [ht] at hP1
                obtain ⟨hP, hD⟩ := w_callR hP hD hk1 hP1 [1] rfl rfl (wk_memC [9] rfl) rfl [none, some 0, none, none, none, none, none, none] rfl rfl
                clear hPc hC hDc hFc hk1 hP1
                generalize H1 = H at hP hS ⊢
                have hP : va_P (dC, dI) vwCl (List.flatten [(wState (sY 0) k (vz86 0) (nz85 0) (az84 0)), (wState (sY 1) k vz92 nz93 az94), (wState (sY 2) k (vz86 2) (nz85 2) (az84 2)), (wState (sY 3) k (vz86 3) (nz85 3) (az84 3)), (wState (sY 4) k (vz86 4) (nz85 4) (az84 4)), (wState (sY 5) k (vz86 5) (nz85 5) (az84 5)), (wState (sY 6) k (vz86 6) (nz85 6) (az84 6)), (wState (sY 7) k (vz86 7) (nz85 7) (az84 7))] ++ List.flatten [(wStoO qY k (qV 0) (qP 0) (sY 0 0) (sY 1 0) (sY 2 0) (sY 3 0) (sY 4 0) (sY 5 0) (sY 6 0) (sY 7 0)), (wValley qV k vV bV cV wV aV eV), (wPlan qP k vP aP eP)]) H := hP
                have hD : va_D A (List.flatten [(wState (sY 0) k (vz86 0) (nz85 0) (az84 0)), (wState (sY 1) k vz92 nz93 az94), (wState (sY 2) k (vz86 2) (nz85 2) (az84 2)), (wState (sY 3) k (vz86 3) (nz85 3) (az84 3)), (wState (sY 4) k (vz86 4) (nz85 4) (az84 4)), (wState (sY 5) k (vz86 5) (nz85 5) (az84 5)), (wState (sY 6) k (vz86 6) (nz85 6) (az84 6)), (wState (sY 7) k (vz86 7) (nz85 7) (az84 7))] ++ List.flatten [(wStoO qY k (qV 0) (qP 0) (sY 0 0) (sY 1 0) (sY 2 0) (sY 3 0) (sY 4 0) (sY 5 0) (sY 6 0) (sY 7 0)), (wValley qV k vV bV cV wV aV eV), (wPlan qP k vP aP eP)]) := hD
                refine W.widen (k := 0) (n := 0) (Nat.le_refl 0) (Nat.le_refl 0) ?_
                rw [hQ]
                exact W.vret hx hb hr (fun t ht hW => ⟨⟨(), rfl, trivial, (va_up vz86 1 vz92), (va_up nz85 1 nz93), (va_up az84 1 az94), (rgf_up hnz85 hnz93), by rw [ht]; exact hP⟩, hS.F ht⟩) hS.2.2 dX8_step_100
              refine lv_if_eq (tgt := 66) hx hb dX8_step_52 (by decide) (fun cz95 => ?_) (fun cz95 => ?_)
              · skip
                have zz96 : xz75.toInt = (0 : Int) := zi_eq.mp cz95
                exact ct66_kz87 H locs ls (va_up aY 1 az73) (va_up nY 1 nz72) (va_up vY 1 vz71)  (rgf_up hnY hnz72) hP hD hS (lv_sub hl [1, 3, 0] rfl)
              · skip
                have zz97 : ¬ xz75.toInt = (0 : Int) := fun h9 => cz95 (zi_eq.mpr h9)
                refine lv_aload_n hx hb dX8_step_55 rfl (lv_at hl 0 rfl) ?_
                refine lv_aload_n hx hb dX8_step_56 rfl (lv_at hl 1 rfl) ?_
                refine va_get (D := (dC, dI)) (ci := 8) (v := .ref (qV 0)) (C := RX8) (T := TX8) (N := 4) hx hb hts (fun w h => List.mem_cons_of_mem _ (List.mem_append_right _ (List.mem_append_left _ h))) hown hK hP 88 rfl rfl 0 (by decide) (hts (.fieldLink RX8 22 "SagMemory$Story" "valley" "LSagMemory$Valley;") (wl_mem 0 rfl)) (fun _ h9 => h9) rfl dX8_step_57 ?_
                refine va_get (D := (dC, dI)) (ci := 10) (v := .int (vV 2)) (C := RX10) (T := TX10) (N := 16) hx hb hts (fun w h => List.mem_cons_of_mem _ (List.mem_append_right _ (List.mem_append_right _ (List.mem_append_right _ (List.mem_append_right _ (List.mem_append_right _ (List.mem_append_right _ (List.mem_append_left _ h)))))))) hown hK hP 90 rfl rfl 9 (by decide) (hts (.fieldLink RX8 57 "SagMemory$Valley" "frost" "I") (wl_mem 16 rfl)) (fun _ h9 => h9) rfl dX8_step_60 ?_
                have hPc := hP.sub (ws' := (List.flatten [(wState (sY 1) k vz71 nz72 az73)] ++ List.flatten ([] : List va_W))) [11, 12, 13, 14, 15, 16, 17, 18, 19, 20, 21] rfl
                have hC : [11, 12, 13, 14, 15, 16, 17, 18, 19, 20, 21].map (fun i => (List.flatten [(wState (sY 0) k (vY 0) (nY 0) (aY 0)), (wState (sY 1) k vz71 nz72 az73), (wState (sY 2) k (vY 2) (nY 2) (aY 2)), (wState (sY 3) k (vY 3) (nY 3) (aY 3)), (wState (sY 4) k (vY 4) (nY 4) (aY 4)), (wState (sY 5) k (vY 5) (nY 5) (aY 5)), (wState (sY 6) k (vY 6) (nY 6) (aY 6)), (wState (sY 7) k (vY 7) (nY 7) (aY 7))] ++ List.flatten [(wStoO qY k (qV 0) (qP 0) (sY 0 0) (sY 1 0) (sY 2 0) (sY 3 0) (sY 4 0) (sY 5 0) (sY 6 0) (sY 7 0)), (wValley qV k vV bV cV wV aV eV), (wPlan qP k vP aP eP)])[i]?) = (List.flatten [(wState (sY 1) k vz71 nz72 az73)] ++ List.flatten ([] : List va_W)).map some := rfl
                have hDc := hD.sub [11, 12, 13, 14, 15, 16, 17, 18, 19, 20, 21] (by decide) hC
                have hFc := va_free hD hS hA [11, 12, 13, 14, 15, 16, 17, 18, 19, 20, 21] hC
                refine va_callv (va_runV (As := [.int (vV 2)]) (rest := []) ⟨hx, hb, hml, hown, hts⟩ (c_X7_chill l dC dI k H.size (sY 1) vz71 nz72 az73 (vV 2) hnz72) (cwV 1 hts (gk_V (wl_mem 17 rfl) (wl_mem 18 rfl) (wl_mem 19 rfl) (wl_mem 13 rfl) (fun w h => List.mem_cons_of_mem _ (List.mem_append_right _ (List.mem_append_right _ (List.mem_append_right _ (List.mem_append_right _ (List.mem_append_right _ (List.mem_append_right _ (List.mem_append_right _ (List.mem_append_left _ h))))))))) wkg_c_X7_chill) rfl rfl rfl (by decide +kernel) ⟨Nat.le_of_ble_eq_true rfl, Nat.le_of_ble_eq_true rfl⟩) ⟨fun a U g mk q => by obtain ⟨q0, q1, qP, qK, qD⟩ := q; exact ⟨q0, q1, qP, va_K.moved (u := U) (U := U.calling g mk a) (Vm.Alike.refl U.vm) qK, qD⟩, va_recv hK hPc (ci := 7) (q0 := 0) rfl rfl, fun U hU hW => ⟨rfl, by rw [hU], by rw [hU]; exact hPc, va_K.moved hW.alike hK, hDc.weaken (fun _ _ _ _ => trivial)⟩⟩ rfl rfl hl.1 rfl (lv_room (Nat.le_of_ble_eq_true rfl)) dX8_step_63 ⟨Nat.le_of_ble_eq_true rfl, Nat.le_of_ble_eq_true rfl⟩) hS (fun q _ h => hFc q h) hFc (fun u t H1 locs ht hvm gz98 hB hz1 hk1 hS => ?_)
                obtain ⟨vz100, nz101, az102, hnz101, hP1⟩ := hB
                rw [ht] at hP1
                obtain ⟨hP, hD⟩ := w_callR hP hD hk1 hP1 [1] rfl rfl (fun _ h => absurd h List.not_mem_nil) rfl [none, some 0, none, none, none, none, none, none] rfl rfl
                clear hPc hC hDc hFc hk1 hP1
                generalize H1 = H at hP hS ⊢
                have hP : va_P (dC, dI) vwCl (List.flatten [(wState (sY 0) k (vY 0) (nY 0) (aY 0)), (wState (sY 1) k vz100 nz101 az102), (wState (sY 2) k (vY 2) (nY 2) (aY 2)), (wState (sY 3) k (vY 3) (nY 3) (aY 3)), (wState (sY 4) k (vY 4) (nY 4) (aY 4)), (wState (sY 5) k (vY 5) (nY 5) (aY 5)), (wState (sY 6) k (vY 6) (nY 6) (aY 6)), (wState (sY 7) k (vY 7) (nY 7) (aY 7))] ++ List.flatten [(wStoO qY k (qV 0) (qP 0) (sY 0 0) (sY 1 0) (sY 2 0) (sY 3 0) (sY 4 0) (sY 5 0) (sY 6 0) (sY 7 0)), (wValley qV k vV bV cV wV aV eV), (wPlan qP k vP aP eP)]) H := hP
                have hD : va_D A (List.flatten [(wState (sY 0) k (vY 0) (nY 0) (aY 0)), (wState (sY 1) k vz100 nz101 az102), (wState (sY 2) k (vY 2) (nY 2) (aY 2)), (wState (sY 3) k (vY 3) (nY 3) (aY 3)), (wState (sY 4) k (vY 4) (nY 4) (aY 4)), (wState (sY 5) k (vY 5) (nY 5) (aY 5)), (wState (sY 6) k (vY 6) (nY 6) (aY 6)), (wState (sY 7) k (vY 7) (nY 7) (aY 7))] ++ List.flatten [(wStoO qY k (qV 0) (qP 0) (sY 0 0) (sY 1 0) (sY 2 0) (sY 3 0) (sY 4 0) (sY 5 0) (sY 6 0) (sY 7 0)), (wValley qV k vV bV cV wV aV eV), (wPlan qP k vP aP eP)]) := hD
                refine W.widen (k := 0) (n := 0) (Nat.le_refl 0) (Nat.le_refl 0) ?_
                exact ct66_kz87 H locs ls (va_up aY 1 az102) (va_up nY 1 nz101) (va_up vY 1 vz100)  (rgf_up hnY hnz101) hP hD hS (lv_sub hl [1, 3, 0] rfl)
            · skip
              have zz103 : ¬ xz41.toInt < (0 : Int) := fun h9 => cz45 (zi_lt.mpr h9)
              omega
            · skip
              have zz104 : ¬ xz41.toInt < (0 : Int) := fun h9 => cz47 (zi_lt.mpr h9)
              omega
            · skip
              have zz105 : ¬ xz41.toInt < (0 : Int) := fun h9 => cz50 (zi_lt.mpr h9)
              omega
            · skip
              have zz106 : ¬ xz41.toInt < (0 : Int) := fun h9 => cz53 (zi_lt.mpr h9)
              omega
            · skip
              have zz107 : ¬ xz41.toInt < (0 : Int) := fun h9 => cz56 (zi_lt.mpr h9)
              omega
            · skip
              have zz108 : ¬ xz41.toInt < (0 : Int) := fun h9 => cz59 (zi_lt.mpr h9)
              omega
            · skip
              have zz109 : ¬ xz41.toInt < (0 : Int) := fun h9 => cz62 (zi_lt.mpr h9)
              omega
            · skip
              have zz110 : ¬ xz41.toInt < (0 : Int) := fun h9 => cz65 (zi_lt.mpr h9)
              omega
          · skip
            have zz111 : p1.toInt = (1 : Int) := zi_eq.mp cz39
            refine W.eq (g2 := F0 m 28 ls [.int 1, .ref (qY 1)]) (by rw [cz39]) ?_
            refine va_aldq hx hb hK hP 89 5 rfl rfl (by unfold vp_in; decide) dX8_step_28 ?_
            refine W.eq (g2 := F0 m 29 ls [.ref (sY 2 0)]) rfl ?_
            refine lv_astore_n (lv' := [(3, .ref (sY 2 0)), (0, .ref (qY 0)), (1, .int p1), (2, .int p2)]) hx hb dX8_step_29 rfl hl (by decide) rfl (fun ls hl => ?_)
            refine lv_aload_n hx hb dX8_step_30 rfl (lv_at hl 0 rfl) ?_
            refine lv_aload_n hx hb dX8_step_31 rfl (lv_at hl 1 rfl) ?_
            refine lv_iload_n hx hb dX8_step_32 rfl (lv_at hl 2 rfl) ?_
            refine lv_iconst (v := 1) hx hb dX8_step_33 (by decide) ?_
            refine lv_isub hx hb dX8_step_34 ?_
            refine lv_topi (fun xz112 exz112 => ?_)
            have fxz112 : xz112.toInt = p1.toInt - (1 : Int) := by rw [exz112]; exact fb_subI (x := p1) (y := (1 : Int32)) (by show -2147483648 ≤ p1.toInt - (1 : Int); omega) (by show p1.toInt - (1 : Int) < 2147483648; omega)
            have hPc : va_P (dC, dI) vwCl (List.flatten [(wStoO qY k (qV 0) (qP 0) (sY 0 0) (sY 1 0) (sY 2 0) (sY 3 0) (sY 4 0) (sY 5 0) (sY 6 0) (sY 7 0)), (wState (sY 0) k (vY 0) (nY 0) (aY 0)), (wState (sY 1) k (vY 1) (nY 1) (aY 1)), (wState (sY 2) k (vY 2) (nY 2) (aY 2)), (wState (sY 3) k (vY 3) (nY 3) (aY 3)), (wState (sY 4) k (vY 4) (nY 4) (aY 4)), (wState (sY 5) k (vY 5) (nY 5) (aY 5)), (wState (sY 6) k (vY 6) (nY 6) (aY 6)), (wState (sY 7) k (vY 7) (nY 7) (aY 7))]) s.heap := wc_subP1 hP [8, 0, 1, 2, 3, 4, 5, 6, 7] rfl
            refine va_csr (va_Run.run (va_runV (As := [.int xz112]) (rest := [.ref (sY 2 0)]) ⟨hx, hb, hml, hown, hts⟩ (c_X8_behind l dC dI k qY sY (qV 0) (qP 0) vY nY aY xz112 hnY) (cwV 1 hts (gk_V (wl_mem 6 rfl) (wl_mem 7 rfl) (wl_mem 8 rfl) (wl_mem 9 rfl) (fun w h => List.mem_cons_of_mem _ (List.mem_append_right _ (List.mem_append_right _ (List.mem_append_right _ (List.mem_append_left _ h))))) wkg_c_X8_behind) rfl rfl rfl (by decide +kernel) ⟨Nat.le_of_ble_eq_true rfl, Nat.le_of_ble_eq_true rfl⟩) ⟨fun a U g mk q => by obtain ⟨q0, qP, qK⟩ := q; exact ⟨q0, qP, va_K.moved (u := U) (U := U.calling g mk a) (Vm.Alike.refl U.vm) qK⟩, va_recv hK hPc (ci := 8) (q0 := 0) rfl rfl, fun U hU hW => ⟨rfl, by rw [hU]; exact hPc, va_K.moved hW.alike hK⟩⟩ rfl rfl hl.1 rfl (lv_room (Nat.le_of_ble_eq_true rfl)) dX8_step_35 ⟨Nat.le_of_ble_eq_true rfl, Nat.le_of_ble_eq_true rfl⟩)) (fun rz114 gz113 => ?_)
            clear hPc
            rcases gz113 with ⟨rfl, cz115⟩ | ⟨rfl, cz116, cz117⟩ | ⟨rfl, cz118, cz119, cz120⟩ | ⟨rfl, cz121, cz122, cz123⟩ | ⟨rfl, cz124, cz125, cz126⟩ | ⟨rfl, cz127, cz128, cz129⟩ | ⟨rfl, cz130, cz131, cz132⟩ | ⟨rfl, cz133, cz134, cz135⟩ | ⟨rfl, cz136, cz137, cz138⟩
            · skip
              have zz139 : xz112.toInt < (0 : Int) := zi_lt.mp cz115
              omega
            · skip
              have zz140 : ¬ xz112.toInt < (0 : Int) := fun h9 => cz116 (zi_lt.mpr h9)
              have zz141 : (7 : Int) ≤ xz112.toInt := zi_le.mp cz117
              omega
            · skip
              have zz142 : ¬ xz112.toInt < (0 : Int) := fun h9 => cz118 (zi_lt.mpr h9)
              have zz143 : ¬ (7 : Int) ≤ xz112.toInt := fun h9 => cz119 (zi_le.mpr h9)
              have zz144 : xz112.toInt = (0 : Int) := zi_eq.mp cz120
              refine W.eq (g2 := F0 m 38 ls [.ref (sY 1 0), .ref (sY 2 0)]) rfl ?_
              have hPc : va_P (dC, dI) vwCl (List.flatten [(wState (sY 2) k (vY 2) (nY 2) (aY 2))] ++ List.flatten [(wState (sY 1) k (vY 1) (nY 1) (aY 1))]) s.heap := wc_subP hP [2, 1] rfl
              have hDc : va_D A (List.flatten [(wState (sY 2) k (vY 2) (nY 2) (aY 2))] ++ List.flatten [(wState (sY 1) k (vY 1) (nY 1) (aY 1))]) := wc_subD hD [2, 1] rfl rfl
              have hFc := wc_free hDc hS hA
              refine va_callv (va_runV (As := [.ref (sY 1 0)]) (rest := []) ⟨hx, hb, hml, hown, hts⟩ (c_X7_take l dC dI k s.heap.size (sY 2) (vY 2) (nY 2) (aY 2) (sY 1) (vY 1) (nY 1) (aY 1) (hnY 2) (hnY 1)) (cwV 1 hts (gk_V (wl_mem 10 rfl) (wl_mem 11 rfl) (wl_mem 12 rfl) (wl_mem 13 rfl) (fun w h => List.mem_cons_of_mem _ (List.mem_append_right _ (List.mem_append_right _ (List.mem_append_right _ (List.mem_append_right _ (List.mem_append_left _ h)))))) wkg_c_X7_take) rfl rfl rfl (by decide +kernel) ⟨Nat.le_of_ble_eq_true rfl, Nat.le_of_ble_eq_true rfl⟩) ⟨fun a U g mk q => by obtain ⟨q0, q1, qP, qK, qD⟩ := q; exact ⟨q0, q1, qP, va_K.moved (u := U) (U := U.calling g mk a) (Vm.Alike.refl U.vm) qK, qD⟩, va_recv hK hPc (ci := 7) (q0 := 0) rfl rfl, fun U hU hW => ⟨rfl, by rw [hU], by rw [hU]; exact hPc, va_K.moved hW.alike hK, hDc.weaken (fun _ _ _ _ => trivial)⟩⟩ rfl rfl hl.1 rfl (lv_room (Nat.le_of_ble_eq_true rfl)) dX8_step_38 ⟨Nat.le_of_ble_eq_true rfl, Nat.le_of_ble_eq_true rfl⟩) hS (fun q _ h => hFc q h) hFc (fun u t H1 locs ht hvm gz145 hB hz1 hk1 hS => ?_)
              obtain ⟨vz147, nz148, az149, hnz148, hP1⟩ := hB
              rw [ht] at hP1
              obtain ⟨hP, hD⟩ := w_callR hP hD hk1 hP1 [2] rfl rfl (wk_memC [1] rfl) rfl [none, none, some 0, none, none, none, none, none] rfl rfl
              clear hPc hDc hFc hk1 hP1
              generalize H1 = H at hP hS ⊢
              have hP : va_P (dC, dI) vwCl (List.flatten [(wState (sY 0) k (vY 0) (nY 0) (aY 0)), (wState (sY 1) k (vY 1) (nY 1) (aY 1)), (wState (sY 2) k vz147 nz148 az149), (wState (sY 3) k (vY 3) (nY 3) (aY 3)), (wState (sY 4) k (vY 4) (nY 4) (aY 4)), (wState (sY 5) k (vY 5) (nY 5) (aY 5)), (wState (sY 6) k (vY 6) (nY 6) (aY 6)), (wState (sY 7) k (vY 7) (nY 7) (aY 7))] ++ List.flatten [(wStoO qY k (qV 0) (qP 0) (sY 0 0) (sY 1 0) (sY 2 0) (sY 3 0) (sY 4 0) (sY 5 0) (sY 6 0) (sY 7 0)), (wValley qV k vV bV cV wV aV eV), (wPlan qP k vP aP eP)]) H := hP
              have hD : va_D A (List.flatten [(wState (sY 0) k (vY 0) (nY 0) (aY 0)), (wState (sY 1) k (vY 1) (nY 1) (aY 1)), (wState (sY 2) k vz147 nz148 az149), (wState (sY 3) k (vY 3) (nY 3) (aY 3)), (wState (sY 4) k (vY 4) (nY 4) (aY 4)), (wState (sY 5) k (vY 5) (nY 5) (aY 5)), (wState (sY 6) k (vY 6) (nY 6) (aY 6)), (wState (sY 7) k (vY 7) (nY 7) (aY 7))] ++ List.flatten [(wStoO qY k (qV 0) (qP 0) (sY 0 0) (sY 1 0) (sY 2 0) (sY 3 0) (sY 4 0) (sY 5 0) (sY 6 0) (sY 7 0)), (wValley qV k vV bV cV wV aV eV), (wPlan qP k vP aP eP)]) := hD
              refine W.widen (k := 0) (n := 0) (Nat.le_refl 0) (Nat.le_refl 0) ?_
              refine lv_aload_n hx hb dX8_step_41 rfl (lv_at hl 1 rfl) ?_
              refine va_get (D := (dC, dI)) (ci := 8) (v := .ref (qP 0)) (C := RX8) (T := TX8) (N := 4) hx hb hts (fun w h => List.mem_cons_of_mem _ (List.mem_append_right _ (List.mem_append_left _ h))) hown hK hP 88 rfl rfl 1 (by decide) (hts (.fieldLink RX8 26 "SagMemory$Story" "plan" "LSagMemory$Plan;") (wl_mem 14 rfl)) (fun _ h9 => h9) rfl dX8_step_42 ?_
              refine va_get (D := (dC, dI)) (ci := 3) (v := .int (vP 1)) (C := RX3) (T := TX3) (N := 4) hx hb hts (fun w h => List.mem_cons_of_mem _ (List.mem_append_right _ (List.mem_append_right _ (List.mem_append_right _ (List.mem_append_right _ (List.mem_append_right _ (List.mem_append_left _ h))))))) hown hK hP 98 rfl rfl 3 (by decide) (hts (.fieldLink RX8 52 "SagMemory$Plan" "cold" "I") (wl_mem 15 rfl)) (fun _ h9 => h9) rfl dX8_step_45 ?_
              refine lv_iload_n hx hb dX8_step_48 rfl (lv_at hl 2 rfl) ?_
              refine lv_ishr hx hb dX8_step_49 ?_
              refine lv_topi (fun xz150 exz150 => ?_)
              refine lv_iconst (v := 1) hx hb dX8_step_50 (by decide) ?_
              refine lv_iand hx hb dX8_step_51 ?_
              refine lv_topi (fun xz151 exz151 => ?_)
              have bxz151 : 0 ≤ xz151.toInt ∧ xz151.toInt ≤ 1 := by rw [exz151]; exact zand _ 1 2 (by decide) (by decide) (by decide)
              have ct66_kz163 : ∀ (H : Heap) (locs : List Loc) (ls : Array Slot) (az160 : Nat → Nat → Nat → Int32) (nz161 : Nat → Nat → Int32) (vz162 : Nat → Nat → Int32), (∀ t9, Rg 0 8 (nz161 t9)) → va_P (dC, dI) vwCl (List.flatten [(wState (sY 0) k (vz162 0) (nz161 0) (az160 0)), (wState (sY 1) k (vz162 1) (nz161 1) (az160 1)), (wState (sY 2) k (vz162 2) (nz161 2) (az160 2)), (wState (sY 3) k (vz162 3) (nz161 3) (az160 3)), (wState (sY 4) k (vz162 4) (nz161 4) (az160 4)), (wState (sY 5) k (vz162 5) (nz161 5) (az160 5)), (wState (sY 6) k (vz162 6) (nz161 6) (az160 6)), (wState (sY 7) k (vz162 7) (nz161 7) (az160 7))] ++ List.flatten [(wStoO qY k (qV 0) (qP 0) (sY 0 0) (sY 1 0) (sY 2 0) (sY 3 0) (sY 4 0) (sY 5 0) (sY 6 0) (sY 7 0)), (wValley qV k vV bV cV wV aV eV), (wPlan qP k vP aP eP)]) H → va_D A (List.flatten [(wState (sY 0) k (vz162 0) (nz161 0) (az160 0)), (wState (sY 1) k (vz162 1) (nz161 1) (az160 1)), (wState (sY 2) k (vz162 2) (nz161 2) (az160 2)), (wState (sY 3) k (vz162 3) (nz161 3) (az160 3)), (wState (sY 4) k (vz162 4) (nz161 4) (az160 4)), (wState (sY 5) k (vz162 5) (nz161 5) (az160 5)), (wState (sY 6) k (vz162 6) (nz161 6) (az160 6)), (wState (sY 7) k (vz162 7) (nz161 7) (az160 7))] ++ List.flatten [(wStoO qY k (qV 0) (qP 0) (sY 0 0) (sY 1 0) (sY 2 0) (sY 3 0) (sY 4 0) (sY 5 0) (sY 6 0) (sY 7 0)), (wValley qV k vV bV cV wV aV eV), (wPlan qP k vP aP eP)]) → va_S A s.heap H locs → lv_has ls 4 [(0, .ref (qY 0)), (2, .int p2), (3, .ref (sY 2 0))] → W p l e (headSpec wk_c_X8_step ({ frames := 2, cells := 0, slots := 0, locals := 108 })).room s m ([.ref (qY 0), .int p1, .int p2] : List Value).toArray below meth c H locs 0 0 Q (F0 m 66 ls []) := by
                intro H locs ls az160 nz161 vz162 hnz161 hP hD hS hl
                refine lv_aload_n hx hb dX8_step_66 rfl (lv_at hl 2 rfl) ?_
                refine lv_aload_n hx hb dX8_step_67 rfl (lv_at hl 0 rfl) ?_
                refine va_get (D := (dC, dI)) (ci := 8) (v := .ref (qV 0)) (C := RX8) (T := TX8) (N := 4) hx hb hts (fun w h => List.mem_cons_of_mem _ (List.mem_append_right _ (List.mem_append_left _ h))) hown hK hP 88 rfl rfl 0 (by decide) (hts (.fieldLink RX8 22 "SagMemory$Story" "valley" "LSagMemory$Valley;") (wl_mem 0 rfl)) (fun _ h9 => h9) rfl dX8_step_68 ?_
                refine lv_iload_n hx hb dX8_step_71 rfl (lv_at hl 1 rfl) ?_
                refine lv_aload_n hx hb dX8_step_72 rfl (lv_at hl 0 rfl) ?_
                refine va_get (D := (dC, dI)) (ci := 8) (v := .ref (qP 0)) (C := RX8) (T := TX8) (N := 4) hx hb hts (fun w h => List.mem_cons_of_mem _ (List.mem_append_right _ (List.mem_append_left _ h))) hown hK hP 88 rfl rfl 1 (by decide) (hts (.fieldLink RX8 26 "SagMemory$Story" "plan" "LSagMemory$Plan;") (wl_mem 14 rfl)) (fun _ h9 => h9) rfl dX8_step_73 ?_
                refine va_get (D := (dC, dI)) (ci := 3) (v := .ref (qP 2)) (C := RX3) (T := TX3) (N := 4) hx hb hts (fun w h => List.mem_cons_of_mem _ (List.mem_append_right _ (List.mem_append_right _ (List.mem_append_right _ (List.mem_append_right _ (List.mem_append_right _ (List.mem_append_left _ h))))))) hown hK hP 98 rfl rfl 1 (by decide) (hts (.fieldLink RX8 64 "SagMemory$Plan" "ways" "[I") (wl_mem 20 rfl)) (fun _ h9 => h9) rfl dX8_step_76 ?_
                refine lv_iload_n hx hb dX8_step_79 rfl (lv_at hl 1 rfl) ?_
                refine va_iald hx hb hK hP 100 0 rfl rfl (vp_in_iff.mpr ⟨by omega, by omega⟩) dX8_step_80 ?_
                refine lv_topi (fun xz164 exz164 => ?_)
                refine lv_aload_n hx hb dX8_step_81 rfl (lv_at hl 0 rfl) ?_
                refine va_get (D := (dC, dI)) (ci := 8) (v := .ref (qP 0)) (C := RX8) (T := TX8) (N := 4) hx hb hts (fun w h => List.mem_cons_of_mem _ (List.mem_append_right _ (List.mem_append_left _ h))) hown hK hP 88 rfl rfl 1 (by decide) (hts (.fieldLink RX8 26 "SagMemory$Story" "plan" "LSagMemory$Plan;") (wl_mem 14 rfl)) (fun _ h9 => h9) rfl dX8_step_82 ?_
                refine va_get (D := (dC, dI)) (ci := 3) (v := .ref (qP 1)) (C := RX3) (T := TX3) (N := 4) hx hb hts (fun w h => List.mem_cons_of_mem _ (List.mem_append_right _ (List.mem_append_right _ (List.mem_append_right _ (List.mem_append_right _ (List.mem_append_right _ (List.mem_append_left _ h))))))) hown hK hP 98 rfl rfl 0 (by decide) (hts (.fieldLink RX8 68 "SagMemory$Plan" "loads" "[I") (wl_mem 21 rfl)) (fun _ h9 => h9) rfl dX8_step_85 ?_
                refine lv_iload_n hx hb dX8_step_88 rfl (lv_at hl 1 rfl) ?_
                refine va_iald hx hb hK hP 99 0 rfl rfl (vp_in_iff.mpr ⟨by omega, by omega⟩) dX8_step_89 ?_
                refine lv_topi (fun xz165 exz165 => ?_)
                have bxz165 : 0 ≤ xz165.toInt ∧ xz165.toInt ≤ 99 := by rw [exz165]; exact (heP 0) _
                refine lv_aload_n hx hb dX8_step_90 rfl (lv_at hl 0 rfl) ?_
                refine va_get (D := (dC, dI)) (ci := 8) (v := .ref (qP 0)) (C := RX8) (T := TX8) (N := 4) hx hb hts (fun w h => List.mem_cons_of_mem _ (List.mem_append_right _ (List.mem_append_left _ h))) hown hK hP 88 rfl rfl 1 (by decide) (hts (.fieldLink RX8 26 "SagMemory$Story" "plan" "LSagMemory$Plan;") (wl_mem 14 rfl)) (fun _ h9 => h9) rfl dX8_step_91 ?_
                refine va_get (D := (dC, dI)) (ci := 3) (v := .int (vP 0)) (C := RX3) (T := TX3) (N := 4) hx hb hts (fun w h => List.mem_cons_of_mem _ (List.mem_append_right _ (List.mem_append_right _ (List.mem_append_right _ (List.mem_append_right _ (List.mem_append_right _ (List.mem_append_left _ h))))))) hown hK hP 98 rfl rfl 2 (by decide) (hts (.fieldLink RX8 71 "SagMemory$Plan" "law" "I") (wl_mem 22 rfl)) (fun _ h9 => h9) rfl dX8_step_94 ?_
                have hPc := hP.sub (ws' := (List.flatten [(wState (sY 2) k (vz162 2) (nz161 2) (az160 2))] ++ List.flatten [(wValley qV k vV bV cV wV aV eV)])) [22, 23, 24, 25, 26, 27, 28, 29, 30, 31, 32, 90, 91, 92, 93, 94, 95, 96, 97] rfl
                have hC : [22, 23, 24, 25, 26, 27, 28, 29, 30, 31, 32, 90, 91, 92, 93, 94, 95, 96, 97].map (fun i => (List.flatten [(wState (sY 0) k (vz162 0) (nz161 0) (az160 0)), (wState (sY 1) k (vz162 1) (nz161 1) (az160 1)), (wState (sY 2) k (vz162 2) (nz161 2) (az160 2)), (wState (sY 3) k (vz162 3) (nz161 3) (az160 3)), (wState (sY 4) k (vz162 4) (nz161 4) (az160 4)), (wState (sY 5) k (vz162 5) (nz161 5) (az160 5)), (wState (sY 6) k (vz162 6) (nz161 6) (az160 6)), (wState (sY 7) k (vz162 7) (nz161 7) (az160 7))] ++ List.flatten [(wStoO qY k (qV 0) (qP 0) (sY 0 0) (sY 1 0) (sY 2 0) (sY 3 0) (sY 4 0) (sY 5 0) (sY 6 0) (sY 7 0)), (wValley qV k vV bV cV wV aV eV), (wPlan qP k vP aP eP)])[i]?) = (List.flatten [(wState (sY 2) k (vz162 2) (nz161 2) (az160 2))] ++ List.flatten [(wValley qV k vV bV cV wV aV eV)]).map some := rfl
                have hDc := hD.sub [22, 23, 24, 25, 26, 27, 28, 29, 30, 31, 32, 90, 91, 92, 93, 94, 95, 96, 97] (by decide) hC
                have hFc := va_free hD hS hA [22, 23, 24, 25, 26, 27, 28, 29, 30, 31, 32, 90, 91, 92, 93, 94, 95, 96, 97] hC
                refine va_callv (va_runV (As := [.ref (qV 0), .int p2, .int xz164, .int xz165, .int (vP 0)]) (rest := []) ⟨hx, hb, hml, hown, hts⟩ (c_X7_meet l dC dI k H.size (sY 2) (vz162 2) (nz161 2) (az160 2) qV vV bV cV wV aV eV p2 xz164 xz165 (vP 0) (hnz161 2) hbV hcV hwV heV (by show 0 ≤ xz165.toInt ∧ xz165.toInt ≤ 99; omega)) (cwV 5 hts (gk_V (wl_mem 23 rfl) (wl_mem 24 rfl) (wl_mem 25 rfl) (wl_mem 13 rfl) (fun w h => List.mem_cons_of_mem _ (List.mem_append_right _ (List.mem_append_right _ (List.mem_append_right _ (List.mem_append_right _ (List.mem_append_right _ (List.mem_append_right _ (List.mem_append_right _ (List.mem_append_right _ (List.mem_append_left _ h)))))))))) wkg_c_X7_meet) rfl rfl rfl (by decide +kernel) ⟨Nat.le_of_ble_eq_true rfl, Nat.le_of_ble_eq_true rfl⟩) ⟨fun a U g mk q => by obtain ⟨q0, q1, qP, qK, qD⟩ := q; exact ⟨q0, q1, qP, va_K.moved (u := U) (U := U.calling g mk a) (Vm.Alike.refl U.vm) qK, qD⟩, va_recv hK hPc (ci := 7) (q0 := 0) rfl rfl, fun U hU hW => ⟨rfl, by rw [hU], by rw [hU]; exact hPc, va_K.moved hW.alike hK, hDc.weaken (fun _ _ _ _ => trivial)⟩⟩ rfl rfl hl.1 rfl (lv_room (Nat.le_of_ble_eq_true rfl)) dX8_step_97 ⟨Nat.le_of_ble_eq_true rfl, Nat.le_of_ble_eq_true rfl⟩) hS (fun q _ h => hFc q h) hFc (fun u t H1 locs ht hvm gz166 hB hz1 hk1 hS => ?_)
                obtain ⟨vz168, nz169, az170, hnz169, hP1⟩ := hB
                rw [ht] at hP1
                obtain ⟨hP, hD⟩ := w_callR hP hD hk1 hP1 [2] rfl rfl (wk_memC [9] rfl) rfl [none, none, some 0, none, none, none, none, none] rfl rfl
                clear hPc hC hDc hFc hk1 hP1
                generalize H1 = H at hP hS ⊢
                have hP : va_P (dC, dI) vwCl (List.flatten [(wState (sY 0) k (vz162 0) (nz161 0) (az160 0)), (wState (sY 1) k (vz162 1) (nz161 1) (az160 1)), (wState (sY 2) k vz168 nz169 az170), (wState (sY 3) k (vz162 3) (nz161 3) (az160 3)), (wState (sY 4) k (vz162 4) (nz161 4) (az160 4)), (wState (sY 5) k (vz162 5) (nz161 5) (az160 5)), (wState (sY 6) k (vz162 6) (nz161 6) (az160 6)), (wState (sY 7) k (vz162 7) (nz161 7) (az160 7))] ++ List.flatten [(wStoO qY k (qV 0) (qP 0) (sY 0 0) (sY 1 0) (sY 2 0) (sY 3 0) (sY 4 0) (sY 5 0) (sY 6 0) (sY 7 0)), (wValley qV k vV bV cV wV aV eV), (wPlan qP k vP aP eP)]) H := hP
                have hD : va_D A (List.flatten [(wState (sY 0) k (vz162 0) (nz161 0) (az160 0)), (wState (sY 1) k (vz162 1) (nz161 1) (az160 1)), (wState (sY 2) k vz168 nz169 az170), (wState (sY 3) k (vz162 3) (nz161 3) (az160 3)), (wState (sY 4) k (vz162 4) (nz161 4) (az160 4)), (wState (sY 5) k (vz162 5) (nz161 5) (az160 5)), (wState (sY 6) k (vz162 6) (nz161 6) (az160 6)), (wState (sY 7) k (vz162 7) (nz161 7) (az160 7))] ++ List.flatten [(wStoO qY k (qV 0) (qP 0) (sY 0 0) (sY 1 0) (sY 2 0) (sY 3 0) (sY 4 0) (sY 5 0) (sY 6 0) (sY 7 0)), (wValley qV k vV bV cV wV aV eV), (wPlan qP k vP aP eP)]) := hD
                refine W.widen (k := 0) (n := 0) (Nat.le_refl 0) (Nat.le_refl 0) ?_
                rw [hQ]
                exact W.vret hx hb hr (fun t ht hW => ⟨⟨(), rfl, trivial, (va_up vz162 2 vz168), (va_up nz161 2 nz169), (va_up az160 2 az170), (rgf_up hnz161 hnz169), by rw [ht]; exact hP⟩, hS.F ht⟩) hS.2.2 dX8_step_100
              refine lv_if_eq (tgt := 66) hx hb dX8_step_52 (by decide) (fun cz171 => ?_) (fun cz171 => ?_)
              · skip
                have zz172 : xz151.toInt = (0 : Int) := zi_eq.mp cz171
                exact ct66_kz163 H locs ls (va_up aY 2 az149) (va_up nY 2 nz148) (va_up vY 2 vz147)  (rgf_up hnY hnz148) hP hD hS (lv_sub hl [1, 3, 0] rfl)
              · skip
                have zz173 : ¬ xz151.toInt = (0 : Int) := fun h9 => cz171 (zi_eq.mpr h9)
                refine lv_aload_n hx hb dX8_step_55 rfl (lv_at hl 0 rfl) ?_
                refine lv_aload_n hx hb dX8_step_56 rfl (lv_at hl 1 rfl) ?_
                refine va_get (D := (dC, dI)) (ci := 8) (v := .ref (qV 0)) (C := RX8) (T := TX8) (N := 4) hx hb hts (fun w h => List.mem_cons_of_mem _ (List.mem_append_right _ (List.mem_append_left _ h))) hown hK hP 88 rfl rfl 0 (by decide) (hts (.fieldLink RX8 22 "SagMemory$Story" "valley" "LSagMemory$Valley;") (wl_mem 0 rfl)) (fun _ h9 => h9) rfl dX8_step_57 ?_
                refine va_get (D := (dC, dI)) (ci := 10) (v := .int (vV 2)) (C := RX10) (T := TX10) (N := 16) hx hb hts (fun w h => List.mem_cons_of_mem _ (List.mem_append_right _ (List.mem_append_right _ (List.mem_append_right _ (List.mem_append_right _ (List.mem_append_right _ (List.mem_append_right _ (List.mem_append_left _ h)))))))) hown hK hP 90 rfl rfl 9 (by decide) (hts (.fieldLink RX8 57 "SagMemory$Valley" "frost" "I") (wl_mem 16 rfl)) (fun _ h9 => h9) rfl dX8_step_60 ?_
                have hPc := hP.sub (ws' := (List.flatten [(wState (sY 2) k vz147 nz148 az149)] ++ List.flatten ([] : List va_W))) [22, 23, 24, 25, 26, 27, 28, 29, 30, 31, 32] rfl
                have hC : [22, 23, 24, 25, 26, 27, 28, 29, 30, 31, 32].map (fun i => (List.flatten [(wState (sY 0) k (vY 0) (nY 0) (aY 0)), (wState (sY 1) k (vY 1) (nY 1) (aY 1)), (wState (sY 2) k vz147 nz148 az149), (wState (sY 3) k (vY 3) (nY 3) (aY 3)), (wState (sY 4) k (vY 4) (nY 4) (aY 4)), (wState (sY 5) k (vY 5) (nY 5) (aY 5)), (wState (sY 6) k (vY 6) (nY 6) (aY 6)), (wState (sY 7) k (vY 7) (nY 7) (aY 7))] ++ List.flatten [(wStoO qY k (qV 0) (qP 0) (sY 0 0) (sY 1 0) (sY 2 0) (sY 3 0) (sY 4 0) (sY 5 0) (sY 6 0) (sY 7 0)), (wValley qV k vV bV cV wV aV eV), (wPlan qP k vP aP eP)])[i]?) = (List.flatten [(wState (sY 2) k vz147 nz148 az149)] ++ List.flatten ([] : List va_W)).map some := rfl
                have hDc := hD.sub [22, 23, 24, 25, 26, 27, 28, 29, 30, 31, 32] (by decide) hC
                have hFc := va_free hD hS hA [22, 23, 24, 25, 26, 27, 28, 29, 30, 31, 32] hC
                refine va_callv (va_runV (As := [.int (vV 2)]) (rest := []) ⟨hx, hb, hml, hown, hts⟩ (c_X7_chill l dC dI k H.size (sY 2) vz147 nz148 az149 (vV 2) hnz148) (cwV 1 hts (gk_V (wl_mem 17 rfl) (wl_mem 18 rfl) (wl_mem 19 rfl) (wl_mem 13 rfl) (fun w h => List.mem_cons_of_mem _ (List.mem_append_right _ (List.mem_append_right _ (List.mem_append_right _ (List.mem_append_right _ (List.mem_append_right _ (List.mem_append_right _ (List.mem_append_right _ (List.mem_append_left _ h))))))))) wkg_c_X7_chill) rfl rfl rfl (by decide +kernel) ⟨Nat.le_of_ble_eq_true rfl, Nat.le_of_ble_eq_true rfl⟩) ⟨fun a U g mk q => by obtain ⟨q0, q1, qP, qK, qD⟩ := q; exact ⟨q0, q1, qP, va_K.moved (u := U) (U := U.calling g mk a) (Vm.Alike.refl U.vm) qK, qD⟩, va_recv hK hPc (ci := 7) (q0 := 0) rfl rfl, fun U hU hW => ⟨rfl, by rw [hU], by rw [hU]; exact hPc, va_K.moved hW.alike hK, hDc.weaken (fun _ _ _ _ => trivial)⟩⟩ rfl rfl hl.1 rfl (lv_room (Nat.le_of_ble_eq_true rfl)) dX8_step_63 ⟨Nat.le_of_ble_eq_true rfl, Nat.le_of_ble_eq_true rfl⟩) hS (fun q _ h => hFc q h) hFc (fun u t H1 locs ht hvm gz174 hB hz1 hk1 hS => ?_)
                obtain ⟨vz176, nz177, az178, hnz177, hP1⟩ := hB
                rw [ht] at hP1
                obtain ⟨hP, hD⟩ := w_callR hP hD hk1 hP1 [2] rfl rfl (fun _ h => absurd h List.not_mem_nil) rfl [none, none, some 0, none, none, none, none, none] rfl rfl
                clear hPc hC hDc hFc hk1 hP1
                generalize H1 = H at hP hS ⊢
                have hP : va_P (dC, dI) vwCl (List.flatten [(wState (sY 0) k (vY 0) (nY 0) (aY 0)), (wState (sY 1) k (vY 1) (nY 1) (aY 1)), (wState (sY 2) k vz176 nz177 az178), (wState (sY 3) k (vY 3) (nY 3) (aY 3)), (wState (sY 4) k (vY 4) (nY 4) (aY 4)), (wState (sY 5) k (vY 5) (nY 5) (aY 5)), (wState (sY 6) k (vY 6) (nY 6) (aY 6)), (wState (sY 7) k (vY 7) (nY 7) (aY 7))] ++ List.flatten [(wStoO qY k (qV 0) (qP 0) (sY 0 0) (sY 1 0) (sY 2 0) (sY 3 0) (sY 4 0) (sY 5 0) (sY 6 0) (sY 7 0)), (wValley qV k vV bV cV wV aV eV), (wPlan qP k vP aP eP)]) H := hP
                have hD : va_D A (List.flatten [(wState (sY 0) k (vY 0) (nY 0) (aY 0)), (wState (sY 1) k (vY 1) (nY 1) (aY 1)), (wState (sY 2) k vz176 nz177 az178), (wState (sY 3) k (vY 3) (nY 3) (aY 3)), (wState (sY 4) k (vY 4) (nY 4) (aY 4)), (wState (sY 5) k (vY 5) (nY 5) (aY 5)), (wState (sY 6) k (vY 6) (nY 6) (aY 6)), (wState (sY 7) k (vY 7) (nY 7) (aY 7))] ++ List.flatten [(wStoO qY k (qV 0) (qP 0) (sY 0 0) (sY 1 0) (sY 2 0) (sY 3 0) (sY 4 0) (sY 5 0) (sY 6 0) (sY 7 0)), (wValley qV k vV bV cV wV aV eV), (wPlan qP k vP aP eP)]) := hD
                refine W.widen (k := 0) (n := 0) (Nat.le_refl 0) (Nat.le_refl 0) ?_
                exact ct66_kz163 H locs ls (va_up aY 2 az178) (va_up nY 2 nz177) (va_up vY 2 vz176)  (rgf_up hnY hnz177) hP hD hS (lv_sub hl [1, 3, 0] rfl)
            · skip
              have zz179 : ¬ xz112.toInt < (0 : Int) := fun h9 => cz121 (zi_lt.mpr h9)
              have zz180 : ¬ (7 : Int) ≤ xz112.toInt := fun h9 => cz122 (zi_le.mpr h9)
              have zz181 : xz112.toInt = (1 : Int) := zi_eq.mp cz123
              omega
            · skip
              have zz182 : ¬ xz112.toInt < (0 : Int) := fun h9 => cz124 (zi_lt.mpr h9)
              have zz183 : ¬ (7 : Int) ≤ xz112.toInt := fun h9 => cz125 (zi_le.mpr h9)
              have zz184 : xz112.toInt = (2 : Int) := zi_eq.mp cz126
              omega
            · skip
              have zz185 : ¬ xz112.toInt < (0 : Int) := fun h9 => cz127 (zi_lt.mpr h9)
              have zz186 : ¬ (7 : Int) ≤ xz112.toInt := fun h9 => cz128 (zi_le.mpr h9)
              have zz187 : xz112.toInt = (3 : Int) := zi_eq.mp cz129
              omega
            · skip
              have zz188 : ¬ xz112.toInt < (0 : Int) := fun h9 => cz130 (zi_lt.mpr h9)
              have zz189 : ¬ (7 : Int) ≤ xz112.toInt := fun h9 => cz131 (zi_le.mpr h9)
              have zz190 : xz112.toInt = (4 : Int) := zi_eq.mp cz132
              omega
            · skip
              have zz191 : ¬ xz112.toInt < (0 : Int) := fun h9 => cz133 (zi_lt.mpr h9)
              have zz192 : ¬ (7 : Int) ≤ xz112.toInt := fun h9 => cz134 (zi_le.mpr h9)
              have zz193 : xz112.toInt = (5 : Int) := zi_eq.mp cz135
              omega
            · skip
              have zz194 : ¬ xz112.toInt < (0 : Int) := fun h9 => cz136 (zi_lt.mpr h9)
              have zz195 : ¬ (7 : Int) ≤ xz112.toInt := fun h9 => cz137 (zi_le.mpr h9)
              have zz196 : xz112.toInt = (6 : Int) := zi_eq.mp cz138
              omega
          · skip
            have zz197 : p1.toInt = (2 : Int) := zi_eq.mp cz39
            refine W.eq (g2 := F0 m 28 ls [.int 2, .ref (qY 1)]) (by rw [cz39]) ?_
            refine va_aldq hx hb hK hP 89 5 rfl rfl (by unfold vp_in; decide) dX8_step_28 ?_
            refine W.eq (g2 := F0 m 29 ls [.ref (sY 3 0)]) rfl ?_
            refine lv_astore_n (lv' := [(3, .ref (sY 3 0)), (0, .ref (qY 0)), (1, .int p1), (2, .int p2)]) hx hb dX8_step_29 rfl hl (by decide) rfl (fun ls hl => ?_)
            refine lv_aload_n hx hb dX8_step_30 rfl (lv_at hl 0 rfl) ?_
            refine lv_aload_n hx hb dX8_step_31 rfl (lv_at hl 1 rfl) ?_
            refine lv_iload_n hx hb dX8_step_32 rfl (lv_at hl 2 rfl) ?_
            refine lv_iconst (v := 1) hx hb dX8_step_33 (by decide) ?_
            refine lv_isub hx hb dX8_step_34 ?_
            refine lv_topi (fun xz198 exz198 => ?_)
            have fxz198 : xz198.toInt = p1.toInt - (1 : Int) := by rw [exz198]; exact fb_subI (x := p1) (y := (1 : Int32)) (by show -2147483648 ≤ p1.toInt - (1 : Int); omega) (by show p1.toInt - (1 : Int) < 2147483648; omega)
            have hPc : va_P (dC, dI) vwCl (List.flatten [(wStoO qY k (qV 0) (qP 0) (sY 0 0) (sY 1 0) (sY 2 0) (sY 3 0) (sY 4 0) (sY 5 0) (sY 6 0) (sY 7 0)), (wState (sY 0) k (vY 0) (nY 0) (aY 0)), (wState (sY 1) k (vY 1) (nY 1) (aY 1)), (wState (sY 2) k (vY 2) (nY 2) (aY 2)), (wState (sY 3) k (vY 3) (nY 3) (aY 3)), (wState (sY 4) k (vY 4) (nY 4) (aY 4)), (wState (sY 5) k (vY 5) (nY 5) (aY 5)), (wState (sY 6) k (vY 6) (nY 6) (aY 6)), (wState (sY 7) k (vY 7) (nY 7) (aY 7))]) s.heap := wc_subP1 hP [8, 0, 1, 2, 3, 4, 5, 6, 7] rfl
            refine va_csr (va_Run.run (va_runV (As := [.int xz198]) (rest := [.ref (sY 3 0)]) ⟨hx, hb, hml, hown, hts⟩ (c_X8_behind l dC dI k qY sY (qV 0) (qP 0) vY nY aY xz198 hnY) (cwV 1 hts (gk_V (wl_mem 6 rfl) (wl_mem 7 rfl) (wl_mem 8 rfl) (wl_mem 9 rfl) (fun w h => List.mem_cons_of_mem _ (List.mem_append_right _ (List.mem_append_right _ (List.mem_append_right _ (List.mem_append_left _ h))))) wkg_c_X8_behind) rfl rfl rfl (by decide +kernel) ⟨Nat.le_of_ble_eq_true rfl, Nat.le_of_ble_eq_true rfl⟩) ⟨fun a U g mk q => by obtain ⟨q0, qP, qK⟩ := q; exact ⟨q0, qP, va_K.moved (u := U) (U := U.calling g mk a) (Vm.Alike.refl U.vm) qK⟩, va_recv hK hPc (ci := 8) (q0 := 0) rfl rfl, fun U hU hW => ⟨rfl, by rw [hU]; exact hPc, va_K.moved hW.alike hK⟩⟩ rfl rfl hl.1 rfl (lv_room (Nat.le_of_ble_eq_true rfl)) dX8_step_35 ⟨Nat.le_of_ble_eq_true rfl, Nat.le_of_ble_eq_true rfl⟩)) (fun rz200 gz199 => ?_)
            clear hPc
            rcases gz199 with ⟨rfl, cz201⟩ | ⟨rfl, cz202, cz203⟩ | ⟨rfl, cz204, cz205, cz206⟩ | ⟨rfl, cz207, cz208, cz209⟩ | ⟨rfl, cz210, cz211, cz212⟩ | ⟨rfl, cz213, cz214, cz215⟩ | ⟨rfl, cz216, cz217, cz218⟩ | ⟨rfl, cz219, cz220, cz221⟩ | ⟨rfl, cz222, cz223, cz224⟩
            · skip
              have zz225 : xz198.toInt < (0 : Int) := zi_lt.mp cz201
              omega
            · skip
              have zz226 : ¬ xz198.toInt < (0 : Int) := fun h9 => cz202 (zi_lt.mpr h9)
              have zz227 : (7 : Int) ≤ xz198.toInt := zi_le.mp cz203
              omega
            · skip
              have zz228 : ¬ xz198.toInt < (0 : Int) := fun h9 => cz204 (zi_lt.mpr h9)
              have zz229 : ¬ (7 : Int) ≤ xz198.toInt := fun h9 => cz205 (zi_le.mpr h9)
              have zz230 : xz198.toInt = (0 : Int) := zi_eq.mp cz206
              omega
            · skip
              have zz231 : ¬ xz198.toInt < (0 : Int) := fun h9 => cz207 (zi_lt.mpr h9)
              have zz232 : ¬ (7 : Int) ≤ xz198.toInt := fun h9 => cz208 (zi_le.mpr h9)
              have zz233 : xz198.toInt = (1 : Int) := zi_eq.mp cz209
              refine W.eq (g2 := F0 m 38 ls [.ref (sY 2 0), .ref (sY 3 0)]) rfl ?_
              have hPc : va_P (dC, dI) vwCl (List.flatten [(wState (sY 3) k (vY 3) (nY 3) (aY 3))] ++ List.flatten [(wState (sY 2) k (vY 2) (nY 2) (aY 2))]) s.heap := wc_subP hP [3, 2] rfl
              have hDc : va_D A (List.flatten [(wState (sY 3) k (vY 3) (nY 3) (aY 3))] ++ List.flatten [(wState (sY 2) k (vY 2) (nY 2) (aY 2))]) := wc_subD hD [3, 2] rfl rfl
              have hFc := wc_free hDc hS hA
              refine va_callv (va_runV (As := [.ref (sY 2 0)]) (rest := []) ⟨hx, hb, hml, hown, hts⟩ (c_X7_take l dC dI k s.heap.size (sY 3) (vY 3) (nY 3) (aY 3) (sY 2) (vY 2) (nY 2) (aY 2) (hnY 3) (hnY 2)) (cwV 1 hts (gk_V (wl_mem 10 rfl) (wl_mem 11 rfl) (wl_mem 12 rfl) (wl_mem 13 rfl) (fun w h => List.mem_cons_of_mem _ (List.mem_append_right _ (List.mem_append_right _ (List.mem_append_right _ (List.mem_append_right _ (List.mem_append_left _ h)))))) wkg_c_X7_take) rfl rfl rfl (by decide +kernel) ⟨Nat.le_of_ble_eq_true rfl, Nat.le_of_ble_eq_true rfl⟩) ⟨fun a U g mk q => by obtain ⟨q0, q1, qP, qK, qD⟩ := q; exact ⟨q0, q1, qP, va_K.moved (u := U) (U := U.calling g mk a) (Vm.Alike.refl U.vm) qK, qD⟩, va_recv hK hPc (ci := 7) (q0 := 0) rfl rfl, fun U hU hW => ⟨rfl, by rw [hU], by rw [hU]; exact hPc, va_K.moved hW.alike hK, hDc.weaken (fun _ _ _ _ => trivial)⟩⟩ rfl rfl hl.1 rfl (lv_room (Nat.le_of_ble_eq_true rfl)) dX8_step_38 ⟨Nat.le_of_ble_eq_true rfl, Nat.le_of_ble_eq_true rfl⟩) hS (fun q _ h => hFc q h) hFc (fun u t H1 locs ht hvm gz234 hB hz1 hk1 hS => ?_)
              obtain ⟨vz236, nz237, az238, hnz237, hP1⟩ := hB
              rw [ht] at hP1
              obtain ⟨hP, hD⟩ := w_callR hP hD hk1 hP1 [3] rfl rfl (wk_memC [2] rfl) rfl [none, none, none, some 0, none, none, none, none] rfl rfl
              clear hPc hDc hFc hk1 hP1
              generalize H1 = H at hP hS ⊢
              have hP : va_P (dC, dI) vwCl (List.flatten [(wState (sY 0) k (vY 0) (nY 0) (aY 0)), (wState (sY 1) k (vY 1) (nY 1) (aY 1)), (wState (sY 2) k (vY 2) (nY 2) (aY 2)), (wState (sY 3) k vz236 nz237 az238), (wState (sY 4) k (vY 4) (nY 4) (aY 4)), (wState (sY 5) k (vY 5) (nY 5) (aY 5)), (wState (sY 6) k (vY 6) (nY 6) (aY 6)), (wState (sY 7) k (vY 7) (nY 7) (aY 7))] ++ List.flatten [(wStoO qY k (qV 0) (qP 0) (sY 0 0) (sY 1 0) (sY 2 0) (sY 3 0) (sY 4 0) (sY 5 0) (sY 6 0) (sY 7 0)), (wValley qV k vV bV cV wV aV eV), (wPlan qP k vP aP eP)]) H := hP
              have hD : va_D A (List.flatten [(wState (sY 0) k (vY 0) (nY 0) (aY 0)), (wState (sY 1) k (vY 1) (nY 1) (aY 1)), (wState (sY 2) k (vY 2) (nY 2) (aY 2)), (wState (sY 3) k vz236 nz237 az238), (wState (sY 4) k (vY 4) (nY 4) (aY 4)), (wState (sY 5) k (vY 5) (nY 5) (aY 5)), (wState (sY 6) k (vY 6) (nY 6) (aY 6)), (wState (sY 7) k (vY 7) (nY 7) (aY 7))] ++ List.flatten [(wStoO qY k (qV 0) (qP 0) (sY 0 0) (sY 1 0) (sY 2 0) (sY 3 0) (sY 4 0) (sY 5 0) (sY 6 0) (sY 7 0)), (wValley qV k vV bV cV wV aV eV), (wPlan qP k vP aP eP)]) := hD
              refine W.widen (k := 0) (n := 0) (Nat.le_refl 0) (Nat.le_refl 0) ?_
              refine lv_aload_n hx hb dX8_step_41 rfl (lv_at hl 1 rfl) ?_
              refine va_get (D := (dC, dI)) (ci := 8) (v := .ref (qP 0)) (C := RX8) (T := TX8) (N := 4) hx hb hts (fun w h => List.mem_cons_of_mem _ (List.mem_append_right _ (List.mem_append_left _ h))) hown hK hP 88 rfl rfl 1 (by decide) (hts (.fieldLink RX8 26 "SagMemory$Story" "plan" "LSagMemory$Plan;") (wl_mem 14 rfl)) (fun _ h9 => h9) rfl dX8_step_42 ?_
              refine va_get (D := (dC, dI)) (ci := 3) (v := .int (vP 1)) (C := RX3) (T := TX3) (N := 4) hx hb hts (fun w h => List.mem_cons_of_mem _ (List.mem_append_right _ (List.mem_append_right _ (List.mem_append_right _ (List.mem_append_right _ (List.mem_append_right _ (List.mem_append_left _ h))))))) hown hK hP 98 rfl rfl 3 (by decide) (hts (.fieldLink RX8 52 "SagMemory$Plan" "cold" "I") (wl_mem 15 rfl)) (fun _ h9 => h9) rfl dX8_step_45 ?_
              refine lv_iload_n hx hb dX8_step_48 rfl (lv_at hl 2 rfl) ?_
              refine lv_ishr hx hb dX8_step_49 ?_
              refine lv_topi (fun xz239 exz239 => ?_)
              refine lv_iconst (v := 1) hx hb dX8_step_50 (by decide) ?_
              refine lv_iand hx hb dX8_step_51 ?_
              refine lv_topi (fun xz240 exz240 => ?_)
              have bxz240 : 0 ≤ xz240.toInt ∧ xz240.toInt ≤ 1 := by rw [exz240]; exact zand _ 1 2 (by decide) (by decide) (by decide)
              have ct66_kz252 : ∀ (H : Heap) (locs : List Loc) (ls : Array Slot) (az249 : Nat → Nat → Nat → Int32) (nz250 : Nat → Nat → Int32) (vz251 : Nat → Nat → Int32), (∀ t9, Rg 0 8 (nz250 t9)) → va_P (dC, dI) vwCl (List.flatten [(wState (sY 0) k (vz251 0) (nz250 0) (az249 0)), (wState (sY 1) k (vz251 1) (nz250 1) (az249 1)), (wState (sY 2) k (vz251 2) (nz250 2) (az249 2)), (wState (sY 3) k (vz251 3) (nz250 3) (az249 3)), (wState (sY 4) k (vz251 4) (nz250 4) (az249 4)), (wState (sY 5) k (vz251 5) (nz250 5) (az249 5)), (wState (sY 6) k (vz251 6) (nz250 6) (az249 6)), (wState (sY 7) k (vz251 7) (nz250 7) (az249 7))] ++ List.flatten [(wStoO qY k (qV 0) (qP 0) (sY 0 0) (sY 1 0) (sY 2 0) (sY 3 0) (sY 4 0) (sY 5 0) (sY 6 0) (sY 7 0)), (wValley qV k vV bV cV wV aV eV), (wPlan qP k vP aP eP)]) H → va_D A (List.flatten [(wState (sY 0) k (vz251 0) (nz250 0) (az249 0)), (wState (sY 1) k (vz251 1) (nz250 1) (az249 1)), (wState (sY 2) k (vz251 2) (nz250 2) (az249 2)), (wState (sY 3) k (vz251 3) (nz250 3) (az249 3)), (wState (sY 4) k (vz251 4) (nz250 4) (az249 4)), (wState (sY 5) k (vz251 5) (nz250 5) (az249 5)), (wState (sY 6) k (vz251 6) (nz250 6) (az249 6)), (wState (sY 7) k (vz251 7) (nz250 7) (az249 7))] ++ List.flatten [(wStoO qY k (qV 0) (qP 0) (sY 0 0) (sY 1 0) (sY 2 0) (sY 3 0) (sY 4 0) (sY 5 0) (sY 6 0) (sY 7 0)), (wValley qV k vV bV cV wV aV eV), (wPlan qP k vP aP eP)]) → va_S A s.heap H locs → lv_has ls 4 [(0, .ref (qY 0)), (2, .int p2), (3, .ref (sY 3 0))] → W p l e (headSpec wk_c_X8_step ({ frames := 2, cells := 0, slots := 0, locals := 108 })).room s m ([.ref (qY 0), .int p1, .int p2] : List Value).toArray below meth c H locs 0 0 Q (F0 m 66 ls []) := by
                intro H locs ls az249 nz250 vz251 hnz250 hP hD hS hl
                refine lv_aload_n hx hb dX8_step_66 rfl (lv_at hl 2 rfl) ?_
                refine lv_aload_n hx hb dX8_step_67 rfl (lv_at hl 0 rfl) ?_
                refine va_get (D := (dC, dI)) (ci := 8) (v := .ref (qV 0)) (C := RX8) (T := TX8) (N := 4) hx hb hts (fun w h => List.mem_cons_of_mem _ (List.mem_append_right _ (List.mem_append_left _ h))) hown hK hP 88 rfl rfl 0 (by decide) (hts (.fieldLink RX8 22 "SagMemory$Story" "valley" "LSagMemory$Valley;") (wl_mem 0 rfl)) (fun _ h9 => h9) rfl dX8_step_68 ?_
                refine lv_iload_n hx hb dX8_step_71 rfl (lv_at hl 1 rfl) ?_
                refine lv_aload_n hx hb dX8_step_72 rfl (lv_at hl 0 rfl) ?_
                refine va_get (D := (dC, dI)) (ci := 8) (v := .ref (qP 0)) (C := RX8) (T := TX8) (N := 4) hx hb hts (fun w h => List.mem_cons_of_mem _ (List.mem_append_right _ (List.mem_append_left _ h))) hown hK hP 88 rfl rfl 1 (by decide) (hts (.fieldLink RX8 26 "SagMemory$Story" "plan" "LSagMemory$Plan;") (wl_mem 14 rfl)) (fun _ h9 => h9) rfl dX8_step_73 ?_
                refine va_get (D := (dC, dI)) (ci := 3) (v := .ref (qP 2)) (C := RX3) (T := TX3) (N := 4) hx hb hts (fun w h => List.mem_cons_of_mem _ (List.mem_append_right _ (List.mem_append_right _ (List.mem_append_right _ (List.mem_append_right _ (List.mem_append_right _ (List.mem_append_left _ h))))))) hown hK hP 98 rfl rfl 1 (by decide) (hts (.fieldLink RX8 64 "SagMemory$Plan" "ways" "[I") (wl_mem 20 rfl)) (fun _ h9 => h9) rfl dX8_step_76 ?_
                refine lv_iload_n hx hb dX8_step_79 rfl (lv_at hl 1 rfl) ?_
                refine va_iald hx hb hK hP 100 0 rfl rfl (vp_in_iff.mpr ⟨by omega, by omega⟩) dX8_step_80 ?_
                refine lv_topi (fun xz253 exz253 => ?_)
                refine lv_aload_n hx hb dX8_step_81 rfl (lv_at hl 0 rfl) ?_
                refine va_get (D := (dC, dI)) (ci := 8) (v := .ref (qP 0)) (C := RX8) (T := TX8) (N := 4) hx hb hts (fun w h => List.mem_cons_of_mem _ (List.mem_append_right _ (List.mem_append_left _ h))) hown hK hP 88 rfl rfl 1 (by decide) (hts (.fieldLink RX8 26 "SagMemory$Story" "plan" "LSagMemory$Plan;") (wl_mem 14 rfl)) (fun _ h9 => h9) rfl dX8_step_82 ?_
                refine va_get (D := (dC, dI)) (ci := 3) (v := .ref (qP 1)) (C := RX3) (T := TX3) (N := 4) hx hb hts (fun w h => List.mem_cons_of_mem _ (List.mem_append_right _ (List.mem_append_right _ (List.mem_append_right _ (List.mem_append_right _ (List.mem_append_right _ (List.mem_append_left _ h))))))) hown hK hP 98 rfl rfl 0 (by decide) (hts (.fieldLink RX8 68 "SagMemory$Plan" "loads" "[I") (wl_mem 21 rfl)) (fun _ h9 => h9) rfl dX8_step_85 ?_
                refine lv_iload_n hx hb dX8_step_88 rfl (lv_at hl 1 rfl) ?_
                refine va_iald hx hb hK hP 99 0 rfl rfl (vp_in_iff.mpr ⟨by omega, by omega⟩) dX8_step_89 ?_
                refine lv_topi (fun xz254 exz254 => ?_)
                have bxz254 : 0 ≤ xz254.toInt ∧ xz254.toInt ≤ 99 := by rw [exz254]; exact (heP 0) _
                refine lv_aload_n hx hb dX8_step_90 rfl (lv_at hl 0 rfl) ?_
                refine va_get (D := (dC, dI)) (ci := 8) (v := .ref (qP 0)) (C := RX8) (T := TX8) (N := 4) hx hb hts (fun w h => List.mem_cons_of_mem _ (List.mem_append_right _ (List.mem_append_left _ h))) hown hK hP 88 rfl rfl 1 (by decide) (hts (.fieldLink RX8 26 "SagMemory$Story" "plan" "LSagMemory$Plan;") (wl_mem 14 rfl)) (fun _ h9 => h9) rfl dX8_step_91 ?_
                refine va_get (D := (dC, dI)) (ci := 3) (v := .int (vP 0)) (C := RX3) (T := TX3) (N := 4) hx hb hts (fun w h => List.mem_cons_of_mem _ (List.mem_append_right _ (List.mem_append_right _ (List.mem_append_right _ (List.mem_append_right _ (List.mem_append_right _ (List.mem_append_left _ h))))))) hown hK hP 98 rfl rfl 2 (by decide) (hts (.fieldLink RX8 71 "SagMemory$Plan" "law" "I") (wl_mem 22 rfl)) (fun _ h9 => h9) rfl dX8_step_94 ?_
                have hPc := hP.sub (ws' := (List.flatten [(wState (sY 3) k (vz251 3) (nz250 3) (az249 3))] ++ List.flatten [(wValley qV k vV bV cV wV aV eV)])) [33, 34, 35, 36, 37, 38, 39, 40, 41, 42, 43, 90, 91, 92, 93, 94, 95, 96, 97] rfl
                have hC : [33, 34, 35, 36, 37, 38, 39, 40, 41, 42, 43, 90, 91, 92, 93, 94, 95, 96, 97].map (fun i => (List.flatten [(wState (sY 0) k (vz251 0) (nz250 0) (az249 0)), (wState (sY 1) k (vz251 1) (nz250 1) (az249 1)), (wState (sY 2) k (vz251 2) (nz250 2) (az249 2)), (wState (sY 3) k (vz251 3) (nz250 3) (az249 3)), (wState (sY 4) k (vz251 4) (nz250 4) (az249 4)), (wState (sY 5) k (vz251 5) (nz250 5) (az249 5)), (wState (sY 6) k (vz251 6) (nz250 6) (az249 6)), (wState (sY 7) k (vz251 7) (nz250 7) (az249 7))] ++ List.flatten [(wStoO qY k (qV 0) (qP 0) (sY 0 0) (sY 1 0) (sY 2 0) (sY 3 0) (sY 4 0) (sY 5 0) (sY 6 0) (sY 7 0)), (wValley qV k vV bV cV wV aV eV), (wPlan qP k vP aP eP)])[i]?) = (List.flatten [(wState (sY 3) k (vz251 3) (nz250 3) (az249 3))] ++ List.flatten [(wValley qV k vV bV cV wV aV eV)]).map some := rfl
                have hDc := hD.sub [33, 34, 35, 36, 37, 38, 39, 40, 41, 42, 43, 90, 91, 92, 93, 94, 95, 96, 97] (by decide) hC
                have hFc := va_free hD hS hA [33, 34, 35, 36, 37, 38, 39, 40, 41, 42, 43, 90, 91, 92, 93, 94, 95, 96, 97] hC
                refine va_callv (va_runV (As := [.ref (qV 0), .int p2, .int xz253, .int xz254, .int (vP 0)]) (rest := []) ⟨hx, hb, hml, hown, hts⟩ (c_X7_meet l dC dI k H.size (sY 3) (vz251 3) (nz250 3) (az249 3) qV vV bV cV wV aV eV p2 xz253 xz254 (vP 0) (hnz250 3) hbV hcV hwV heV (by show 0 ≤ xz254.toInt ∧ xz254.toInt ≤ 99; omega)) (cwV 5 hts (gk_V (wl_mem 23 rfl) (wl_mem 24 rfl) (wl_mem 25 rfl) (wl_mem 13 rfl) (fun w h => List.mem_cons_of_mem _ (List.mem_append_right _ (List.mem_append_right _ (List.mem_append_right _ (List.mem_append_right _ (List.mem_append_right _ (List.mem_append_right _ (List.mem_append_right _ (List.mem_append_right _ (List.mem_append_left _ h)))))))))) wkg_c_X7_meet) rfl rfl rfl (by decide +kernel) ⟨Nat.le_of_ble_eq_true rfl, Nat.le_of_ble_eq_true rfl⟩) ⟨fun a U g mk q => by obtain ⟨q0, q1, qP, qK, qD⟩ := q; exact ⟨q0, q1, qP, va_K.moved (u := U) (U := U.calling g mk a) (Vm.Alike.refl U.vm) qK, qD⟩, va_recv hK hPc (ci := 7) (q0 := 0) rfl rfl, fun U hU hW => ⟨rfl, by rw [hU], by rw [hU]; exact hPc, va_K.moved hW.alike hK, hDc.weaken (fun _ _ _ _ => trivial)⟩⟩ rfl rfl hl.1 rfl (lv_room (Nat.le_of_ble_eq_true rfl)) dX8_step_97 ⟨Nat.le_of_ble_eq_true rfl, Nat.le_of_ble_eq_true rfl⟩) hS (fun q _ h => hFc q h) hFc (fun u t H1 locs ht hvm gz255 hB hz1 hk1 hS => ?_)
                obtain ⟨vz257, nz258, az259, hnz258, hP1⟩ := hB
                rw [ht] at hP1
                obtain ⟨hP, hD⟩ := w_callR hP hD hk1 hP1 [3] rfl rfl (wk_memC [9] rfl) rfl [none, none, none, some 0, none, none, none, none] rfl rfl
                clear hPc hC hDc hFc hk1 hP1
                generalize H1 = H at hP hS ⊢
                have hP : va_P (dC, dI) vwCl (List.flatten [(wState (sY 0) k (vz251 0) (nz250 0) (az249 0)), (wState (sY 1) k (vz251 1) (nz250 1) (az249 1)), (wState (sY 2) k (vz251 2) (nz250 2) (az249 2)), (wState (sY 3) k vz257 nz258 az259), (wState (sY 4) k (vz251 4) (nz250 4) (az249 4)), (wState (sY 5) k (vz251 5) (nz250 5) (az249 5)), (wState (sY 6) k (vz251 6) (nz250 6) (az249 6)), (wState (sY 7) k (vz251 7) (nz250 7) (az249 7))] ++ List.flatten [(wStoO qY k (qV 0) (qP 0) (sY 0 0) (sY 1 0) (sY 2 0) (sY 3 0) (sY 4 0) (sY 5 0) (sY 6 0) (sY 7 0)), (wValley qV k vV bV cV wV aV eV), (wPlan qP k vP aP eP)]) H := hP
                have hD : va_D A (List.flatten [(wState (sY 0) k (vz251 0) (nz250 0) (az249 0)), (wState (sY 1) k (vz251 1) (nz250 1) (az249 1)), (wState (sY 2) k (vz251 2) (nz250 2) (az249 2)), (wState (sY 3) k vz257 nz258 az259), (wState (sY 4) k (vz251 4) (nz250 4) (az249 4)), (wState (sY 5) k (vz251 5) (nz250 5) (az249 5)), (wState (sY 6) k (vz251 6) (nz250 6) (az249 6)), (wState (sY 7) k (vz251 7) (nz250 7) (az249 7))] ++ List.flatten [(wStoO qY k (qV 0) (qP 0) (sY 0 0) (sY 1 0) (sY 2 0) (sY 3 0) (sY 4 0) (sY 5 0) (sY 6 0) (sY 7 0)), (wValley qV k vV bV cV wV aV eV), (wPlan qP k vP aP eP)]) := hD
                refine W.widen (k := 0) (n := 0) (Nat.le_refl 0) (Nat.le_refl 0) ?_
                rw [hQ]
                exact W.vret hx hb hr (fun t ht hW => ⟨⟨(), rfl, trivial, (va_up vz251 3 vz257), (va_up nz250 3 nz258), (va_up az249 3 az259), (rgf_up hnz250 hnz258), by rw [ht]; exact hP⟩, hS.F ht⟩) hS.2.2 dX8_step_100
              refine lv_if_eq (tgt := 66) hx hb dX8_step_52 (by decide) (fun cz260 => ?_) (fun cz260 => ?_)
              · skip
                have zz261 : xz240.toInt = (0 : Int) := zi_eq.mp cz260
                exact ct66_kz252 H locs ls (va_up aY 3 az238) (va_up nY 3 nz237) (va_up vY 3 vz236)  (rgf_up hnY hnz237) hP hD hS (lv_sub hl [1, 3, 0] rfl)
              · skip
                have zz262 : ¬ xz240.toInt = (0 : Int) := fun h9 => cz260 (zi_eq.mpr h9)
                refine lv_aload_n hx hb dX8_step_55 rfl (lv_at hl 0 rfl) ?_
                refine lv_aload_n hx hb dX8_step_56 rfl (lv_at hl 1 rfl) ?_
                refine va_get (D := (dC, dI)) (ci := 8) (v := .ref (qV 0)) (C := RX8) (T := TX8) (N := 4) hx hb hts (fun w h => List.mem_cons_of_mem _ (List.mem_append_right _ (List.mem_append_left _ h))) hown hK hP 88 rfl rfl 0 (by decide) (hts (.fieldLink RX8 22 "SagMemory$Story" "valley" "LSagMemory$Valley;") (wl_mem 0 rfl)) (fun _ h9 => h9) rfl dX8_step_57 ?_
                refine va_get (D := (dC, dI)) (ci := 10) (v := .int (vV 2)) (C := RX10) (T := TX10) (N := 16) hx hb hts (fun w h => List.mem_cons_of_mem _ (List.mem_append_right _ (List.mem_append_right _ (List.mem_append_right _ (List.mem_append_right _ (List.mem_append_right _ (List.mem_append_right _ (List.mem_append_left _ h)))))))) hown hK hP 90 rfl rfl 9 (by decide) (hts (.fieldLink RX8 57 "SagMemory$Valley" "frost" "I") (wl_mem 16 rfl)) (fun _ h9 => h9) rfl dX8_step_60 ?_
                have hPc := hP.sub (ws' := (List.flatten [(wState (sY 3) k vz236 nz237 az238)] ++ List.flatten ([] : List va_W))) [33, 34, 35, 36, 37, 38, 39, 40, 41, 42, 43] rfl
                have hC : [33, 34, 35, 36, 37, 38, 39, 40, 41, 42, 43].map (fun i => (List.flatten [(wState (sY 0) k (vY 0) (nY 0) (aY 0)), (wState (sY 1) k (vY 1) (nY 1) (aY 1)), (wState (sY 2) k (vY 2) (nY 2) (aY 2)), (wState (sY 3) k vz236 nz237 az238), (wState (sY 4) k (vY 4) (nY 4) (aY 4)), (wState (sY 5) k (vY 5) (nY 5) (aY 5)), (wState (sY 6) k (vY 6) (nY 6) (aY 6)), (wState (sY 7) k (vY 7) (nY 7) (aY 7))] ++ List.flatten [(wStoO qY k (qV 0) (qP 0) (sY 0 0) (sY 1 0) (sY 2 0) (sY 3 0) (sY 4 0) (sY 5 0) (sY 6 0) (sY 7 0)), (wValley qV k vV bV cV wV aV eV), (wPlan qP k vP aP eP)])[i]?) = (List.flatten [(wState (sY 3) k vz236 nz237 az238)] ++ List.flatten ([] : List va_W)).map some := rfl
                have hDc := hD.sub [33, 34, 35, 36, 37, 38, 39, 40, 41, 42, 43] (by decide) hC
                have hFc := va_free hD hS hA [33, 34, 35, 36, 37, 38, 39, 40, 41, 42, 43] hC
                refine va_callv (va_runV (As := [.int (vV 2)]) (rest := []) ⟨hx, hb, hml, hown, hts⟩ (c_X7_chill l dC dI k H.size (sY 3) vz236 nz237 az238 (vV 2) hnz237) (cwV 1 hts (gk_V (wl_mem 17 rfl) (wl_mem 18 rfl) (wl_mem 19 rfl) (wl_mem 13 rfl) (fun w h => List.mem_cons_of_mem _ (List.mem_append_right _ (List.mem_append_right _ (List.mem_append_right _ (List.mem_append_right _ (List.mem_append_right _ (List.mem_append_right _ (List.mem_append_right _ (List.mem_append_left _ h))))))))) wkg_c_X7_chill) rfl rfl rfl (by decide +kernel) ⟨Nat.le_of_ble_eq_true rfl, Nat.le_of_ble_eq_true rfl⟩) ⟨fun a U g mk q => by obtain ⟨q0, q1, qP, qK, qD⟩ := q; exact ⟨q0, q1, qP, va_K.moved (u := U) (U := U.calling g mk a) (Vm.Alike.refl U.vm) qK, qD⟩, va_recv hK hPc (ci := 7) (q0 := 0) rfl rfl, fun U hU hW => ⟨rfl, by rw [hU], by rw [hU]; exact hPc, va_K.moved hW.alike hK, hDc.weaken (fun _ _ _ _ => trivial)⟩⟩ rfl rfl hl.1 rfl (lv_room (Nat.le_of_ble_eq_true rfl)) dX8_step_63 ⟨Nat.le_of_ble_eq_true rfl, Nat.le_of_ble_eq_true rfl⟩) hS (fun q _ h => hFc q h) hFc (fun u t H1 locs ht hvm gz263 hB hz1 hk1 hS => ?_)
                obtain ⟨vz265, nz266, az267, hnz266, hP1⟩ := hB
                rw [ht] at hP1
                obtain ⟨hP, hD⟩ := w_callR hP hD hk1 hP1 [3] rfl rfl (fun _ h => absurd h List.not_mem_nil) rfl [none, none, none, some 0, none, none, none, none] rfl rfl
                clear hPc hC hDc hFc hk1 hP1
                generalize H1 = H at hP hS ⊢
                have hP : va_P (dC, dI) vwCl (List.flatten [(wState (sY 0) k (vY 0) (nY 0) (aY 0)), (wState (sY 1) k (vY 1) (nY 1) (aY 1)), (wState (sY 2) k (vY 2) (nY 2) (aY 2)), (wState (sY 3) k vz265 nz266 az267), (wState (sY 4) k (vY 4) (nY 4) (aY 4)), (wState (sY 5) k (vY 5) (nY 5) (aY 5)), (wState (sY 6) k (vY 6) (nY 6) (aY 6)), (wState (sY 7) k (vY 7) (nY 7) (aY 7))] ++ List.flatten [(wStoO qY k (qV 0) (qP 0) (sY 0 0) (sY 1 0) (sY 2 0) (sY 3 0) (sY 4 0) (sY 5 0) (sY 6 0) (sY 7 0)), (wValley qV k vV bV cV wV aV eV), (wPlan qP k vP aP eP)]) H := hP
                have hD : va_D A (List.flatten [(wState (sY 0) k (vY 0) (nY 0) (aY 0)), (wState (sY 1) k (vY 1) (nY 1) (aY 1)), (wState (sY 2) k (vY 2) (nY 2) (aY 2)), (wState (sY 3) k vz265 nz266 az267), (wState (sY 4) k (vY 4) (nY 4) (aY 4)), (wState (sY 5) k (vY 5) (nY 5) (aY 5)), (wState (sY 6) k (vY 6) (nY 6) (aY 6)), (wState (sY 7) k (vY 7) (nY 7) (aY 7))] ++ List.flatten [(wStoO qY k (qV 0) (qP 0) (sY 0 0) (sY 1 0) (sY 2 0) (sY 3 0) (sY 4 0) (sY 5 0) (sY 6 0) (sY 7 0)), (wValley qV k vV bV cV wV aV eV), (wPlan qP k vP aP eP)]) := hD
                refine W.widen (k := 0) (n := 0) (Nat.le_refl 0) (Nat.le_refl 0) ?_
                exact ct66_kz252 H locs ls (va_up aY 3 az267) (va_up nY 3 nz266) (va_up vY 3 vz265)  (rgf_up hnY hnz266) hP hD hS (lv_sub hl [1, 3, 0] rfl)
            · skip
              have zz268 : ¬ xz198.toInt < (0 : Int) := fun h9 => cz210 (zi_lt.mpr h9)
              have zz269 : ¬ (7 : Int) ≤ xz198.toInt := fun h9 => cz211 (zi_le.mpr h9)
              have zz270 : xz198.toInt = (2 : Int) := zi_eq.mp cz212
              omega
            · skip
              have zz271 : ¬ xz198.toInt < (0 : Int) := fun h9 => cz213 (zi_lt.mpr h9)
              have zz272 : ¬ (7 : Int) ≤ xz198.toInt := fun h9 => cz214 (zi_le.mpr h9)
              have zz273 : xz198.toInt = (3 : Int) := zi_eq.mp cz215
              omega
            · skip
              have zz274 : ¬ xz198.toInt < (0 : Int) := fun h9 => cz216 (zi_lt.mpr h9)
              have zz275 : ¬ (7 : Int) ≤ xz198.toInt := fun h9 => cz217 (zi_le.mpr h9)
              have zz276 : xz198.toInt = (4 : Int) := zi_eq.mp cz218
              omega
            · skip
              have zz277 : ¬ xz198.toInt < (0 : Int) := fun h9 => cz219 (zi_lt.mpr h9)
              have zz278 : ¬ (7 : Int) ≤ xz198.toInt := fun h9 => cz220 (zi_le.mpr h9)
              have zz279 : xz198.toInt = (5 : Int) := zi_eq.mp cz221
              omega
            · skip
              have zz280 : ¬ xz198.toInt < (0 : Int) := fun h9 => cz222 (zi_lt.mpr h9)
              have zz281 : ¬ (7 : Int) ≤ xz198.toInt := fun h9 => cz223 (zi_le.mpr h9)
              have zz282 : xz198.toInt = (6 : Int) := zi_eq.mp cz224
              omega
          · skip
            have zz283 : p1.toInt = (3 : Int) := zi_eq.mp cz39
            refine W.eq (g2 := F0 m 28 ls [.int 3, .ref (qY 1)]) (by rw [cz39]) ?_
            refine va_aldq hx hb hK hP 89 5 rfl rfl (by unfold vp_in; decide) dX8_step_28 ?_
            refine W.eq (g2 := F0 m 29 ls [.ref (sY 4 0)]) rfl ?_
            refine lv_astore_n (lv' := [(3, .ref (sY 4 0)), (0, .ref (qY 0)), (1, .int p1), (2, .int p2)]) hx hb dX8_step_29 rfl hl (by decide) rfl (fun ls hl => ?_)
            refine lv_aload_n hx hb dX8_step_30 rfl (lv_at hl 0 rfl) ?_
            refine lv_aload_n hx hb dX8_step_31 rfl (lv_at hl 1 rfl) ?_
            refine lv_iload_n hx hb dX8_step_32 rfl (lv_at hl 2 rfl) ?_
            refine lv_iconst (v := 1) hx hb dX8_step_33 (by decide) ?_
            refine lv_isub hx hb dX8_step_34 ?_
            refine lv_topi (fun xz284 exz284 => ?_)
            have fxz284 : xz284.toInt = p1.toInt - (1 : Int) := by rw [exz284]; exact fb_subI (x := p1) (y := (1 : Int32)) (by show -2147483648 ≤ p1.toInt - (1 : Int); omega) (by show p1.toInt - (1 : Int) < 2147483648; omega)
            have hPc : va_P (dC, dI) vwCl (List.flatten [(wStoO qY k (qV 0) (qP 0) (sY 0 0) (sY 1 0) (sY 2 0) (sY 3 0) (sY 4 0) (sY 5 0) (sY 6 0) (sY 7 0)), (wState (sY 0) k (vY 0) (nY 0) (aY 0)), (wState (sY 1) k (vY 1) (nY 1) (aY 1)), (wState (sY 2) k (vY 2) (nY 2) (aY 2)), (wState (sY 3) k (vY 3) (nY 3) (aY 3)), (wState (sY 4) k (vY 4) (nY 4) (aY 4)), (wState (sY 5) k (vY 5) (nY 5) (aY 5)), (wState (sY 6) k (vY 6) (nY 6) (aY 6)), (wState (sY 7) k (vY 7) (nY 7) (aY 7))]) s.heap := wc_subP1 hP [8, 0, 1, 2, 3, 4, 5, 6, 7] rfl
            refine va_csr (va_Run.run (va_runV (As := [.int xz284]) (rest := [.ref (sY 4 0)]) ⟨hx, hb, hml, hown, hts⟩ (c_X8_behind l dC dI k qY sY (qV 0) (qP 0) vY nY aY xz284 hnY) (cwV 1 hts (gk_V (wl_mem 6 rfl) (wl_mem 7 rfl) (wl_mem 8 rfl) (wl_mem 9 rfl) (fun w h => List.mem_cons_of_mem _ (List.mem_append_right _ (List.mem_append_right _ (List.mem_append_right _ (List.mem_append_left _ h))))) wkg_c_X8_behind) rfl rfl rfl (by decide +kernel) ⟨Nat.le_of_ble_eq_true rfl, Nat.le_of_ble_eq_true rfl⟩) ⟨fun a U g mk q => by obtain ⟨q0, qP, qK⟩ := q; exact ⟨q0, qP, va_K.moved (u := U) (U := U.calling g mk a) (Vm.Alike.refl U.vm) qK⟩, va_recv hK hPc (ci := 8) (q0 := 0) rfl rfl, fun U hU hW => ⟨rfl, by rw [hU]; exact hPc, va_K.moved hW.alike hK⟩⟩ rfl rfl hl.1 rfl (lv_room (Nat.le_of_ble_eq_true rfl)) dX8_step_35 ⟨Nat.le_of_ble_eq_true rfl, Nat.le_of_ble_eq_true rfl⟩)) (fun rz286 gz285 => ?_)
            clear hPc
            rcases gz285 with ⟨rfl, cz287⟩ | ⟨rfl, cz288, cz289⟩ | ⟨rfl, cz290, cz291, cz292⟩ | ⟨rfl, cz293, cz294, cz295⟩ | ⟨rfl, cz296, cz297, cz298⟩ | ⟨rfl, cz299, cz300, cz301⟩ | ⟨rfl, cz302, cz303, cz304⟩ | ⟨rfl, cz305, cz306, cz307⟩ | ⟨rfl, cz308, cz309, cz310⟩
            · skip
              have zz311 : xz284.toInt < (0 : Int) := zi_lt.mp cz287
              omega
            · skip
              have zz312 : ¬ xz284.toInt < (0 : Int) := fun h9 => cz288 (zi_lt.mpr h9)
              have zz313 : (7 : Int) ≤ xz284.toInt := zi_le.mp cz289
              omega
            · skip
              have zz314 : ¬ xz284.toInt < (0 : Int) := fun h9 => cz290 (zi_lt.mpr h9)
              have zz315 : ¬ (7 : Int) ≤ xz284.toInt := fun h9 => cz291 (zi_le.mpr h9)
              have zz316 : xz284.toInt = (0 : Int) := zi_eq.mp cz292
              omega
            · skip
              have zz317 : ¬ xz284.toInt < (0 : Int) := fun h9 => cz293 (zi_lt.mpr h9)
              have zz318 : ¬ (7 : Int) ≤ xz284.toInt := fun h9 => cz294 (zi_le.mpr h9)
              have zz319 : xz284.toInt = (1 : Int) := zi_eq.mp cz295
              omega
            · skip
              have zz320 : ¬ xz284.toInt < (0 : Int) := fun h9 => cz296 (zi_lt.mpr h9)
              have zz321 : ¬ (7 : Int) ≤ xz284.toInt := fun h9 => cz297 (zi_le.mpr h9)
              have zz322 : xz284.toInt = (2 : Int) := zi_eq.mp cz298
              refine W.eq (g2 := F0 m 38 ls [.ref (sY 3 0), .ref (sY 4 0)]) rfl ?_
              have hPc : va_P (dC, dI) vwCl (List.flatten [(wState (sY 4) k (vY 4) (nY 4) (aY 4))] ++ List.flatten [(wState (sY 3) k (vY 3) (nY 3) (aY 3))]) s.heap := wc_subP hP [4, 3] rfl
              have hDc : va_D A (List.flatten [(wState (sY 4) k (vY 4) (nY 4) (aY 4))] ++ List.flatten [(wState (sY 3) k (vY 3) (nY 3) (aY 3))]) := wc_subD hD [4, 3] rfl rfl
              have hFc := wc_free hDc hS hA
              refine va_callv (va_runV (As := [.ref (sY 3 0)]) (rest := []) ⟨hx, hb, hml, hown, hts⟩ (c_X7_take l dC dI k s.heap.size (sY 4) (vY 4) (nY 4) (aY 4) (sY 3) (vY 3) (nY 3) (aY 3) (hnY 4) (hnY 3)) (cwV 1 hts (gk_V (wl_mem 10 rfl) (wl_mem 11 rfl) (wl_mem 12 rfl) (wl_mem 13 rfl) (fun w h => List.mem_cons_of_mem _ (List.mem_append_right _ (List.mem_append_right _ (List.mem_append_right _ (List.mem_append_right _ (List.mem_append_left _ h)))))) wkg_c_X7_take) rfl rfl rfl (by decide +kernel) ⟨Nat.le_of_ble_eq_true rfl, Nat.le_of_ble_eq_true rfl⟩) ⟨fun a U g mk q => by obtain ⟨q0, q1, qP, qK, qD⟩ := q; exact ⟨q0, q1, qP, va_K.moved (u := U) (U := U.calling g mk a) (Vm.Alike.refl U.vm) qK, qD⟩, va_recv hK hPc (ci := 7) (q0 := 0) rfl rfl, fun U hU hW => ⟨rfl, by rw [hU], by rw [hU]; exact hPc, va_K.moved hW.alike hK, hDc.weaken (fun _ _ _ _ => trivial)⟩⟩ rfl rfl hl.1 rfl (lv_room (Nat.le_of_ble_eq_true rfl)) dX8_step_38 ⟨Nat.le_of_ble_eq_true rfl, Nat.le_of_ble_eq_true rfl⟩) hS (fun q _ h => hFc q h) hFc (fun u t H1 locs ht hvm gz323 hB hz1 hk1 hS => ?_)
              obtain ⟨vz325, nz326, az327, hnz326, hP1⟩ := hB
              rw [ht] at hP1
              obtain ⟨hP, hD⟩ := w_callR hP hD hk1 hP1 [4] rfl rfl (wk_memC [3] rfl) rfl [none, none, none, none, some 0, none, none, none] rfl rfl
              clear hPc hDc hFc hk1 hP1
              generalize H1 = H at hP hS ⊢
              have hP : va_P (dC, dI) vwCl (List.flatten [(wState (sY 0) k (vY 0) (nY 0) (aY 0)), (wState (sY 1) k (vY 1) (nY 1) (aY 1)), (wState (sY 2) k (vY 2) (nY 2) (aY 2)), (wState (sY 3) k (vY 3) (nY 3) (aY 3)), (wState (sY 4) k vz325 nz326 az327), (wState (sY 5) k (vY 5) (nY 5) (aY 5)), (wState (sY 6) k (vY 6) (nY 6) (aY 6)), (wState (sY 7) k (vY 7) (nY 7) (aY 7))] ++ List.flatten [(wStoO qY k (qV 0) (qP 0) (sY 0 0) (sY 1 0) (sY 2 0) (sY 3 0) (sY 4 0) (sY 5 0) (sY 6 0) (sY 7 0)), (wValley qV k vV bV cV wV aV eV), (wPlan qP k vP aP eP)]) H := hP
              have hD : va_D A (List.flatten [(wState (sY 0) k (vY 0) (nY 0) (aY 0)), (wState (sY 1) k (vY 1) (nY 1) (aY 1)), (wState (sY 2) k (vY 2) (nY 2) (aY 2)), (wState (sY 3) k (vY 3) (nY 3) (aY 3)), (wState (sY 4) k vz325 nz326 az327), (wState (sY 5) k (vY 5) (nY 5) (aY 5)), (wState (sY 6) k (vY 6) (nY 6) (aY 6)), (wState (sY 7) k (vY 7) (nY 7) (aY 7))] ++ List.flatten [(wStoO qY k (qV 0) (qP 0) (sY 0 0) (sY 1 0) (sY 2 0) (sY 3 0) (sY 4 0) (sY 5 0) (sY 6 0) (sY 7 0)), (wValley qV k vV bV cV wV aV eV), (wPlan qP k vP aP eP)]) := hD
              refine W.widen (k := 0) (n := 0) (Nat.le_refl 0) (Nat.le_refl 0) ?_
              refine lv_aload_n hx hb dX8_step_41 rfl (lv_at hl 1 rfl) ?_
              refine va_get (D := (dC, dI)) (ci := 8) (v := .ref (qP 0)) (C := RX8) (T := TX8) (N := 4) hx hb hts (fun w h => List.mem_cons_of_mem _ (List.mem_append_right _ (List.mem_append_left _ h))) hown hK hP 88 rfl rfl 1 (by decide) (hts (.fieldLink RX8 26 "SagMemory$Story" "plan" "LSagMemory$Plan;") (wl_mem 14 rfl)) (fun _ h9 => h9) rfl dX8_step_42 ?_
              refine va_get (D := (dC, dI)) (ci := 3) (v := .int (vP 1)) (C := RX3) (T := TX3) (N := 4) hx hb hts (fun w h => List.mem_cons_of_mem _ (List.mem_append_right _ (List.mem_append_right _ (List.mem_append_right _ (List.mem_append_right _ (List.mem_append_right _ (List.mem_append_left _ h))))))) hown hK hP 98 rfl rfl 3 (by decide) (hts (.fieldLink RX8 52 "SagMemory$Plan" "cold" "I") (wl_mem 15 rfl)) (fun _ h9 => h9) rfl dX8_step_45 ?_
              refine lv_iload_n hx hb dX8_step_48 rfl (lv_at hl 2 rfl) ?_
              refine lv_ishr hx hb dX8_step_49 ?_
              refine lv_topi (fun xz328 exz328 => ?_)
              refine lv_iconst (v := 1) hx hb dX8_step_50 (by decide) ?_
              refine lv_iand hx hb dX8_step_51 ?_
              refine lv_topi (fun xz329 exz329 => ?_)
              have bxz329 : 0 ≤ xz329.toInt ∧ xz329.toInt ≤ 1 := by rw [exz329]; exact zand _ 1 2 (by decide) (by decide) (by decide)
              have ct66_kz341 : ∀ (H : Heap) (locs : List Loc) (ls : Array Slot) (az338 : Nat → Nat → Nat → Int32) (nz339 : Nat → Nat → Int32) (vz340 : Nat → Nat → Int32), (∀ t9, Rg 0 8 (nz339 t9)) → va_P (dC, dI) vwCl (List.flatten [(wState (sY 0) k (vz340 0) (nz339 0) (az338 0)), (wState (sY 1) k (vz340 1) (nz339 1) (az338 1)), (wState (sY 2) k (vz340 2) (nz339 2) (az338 2)), (wState (sY 3) k (vz340 3) (nz339 3) (az338 3)), (wState (sY 4) k (vz340 4) (nz339 4) (az338 4)), (wState (sY 5) k (vz340 5) (nz339 5) (az338 5)), (wState (sY 6) k (vz340 6) (nz339 6) (az338 6)), (wState (sY 7) k (vz340 7) (nz339 7) (az338 7))] ++ List.flatten [(wStoO qY k (qV 0) (qP 0) (sY 0 0) (sY 1 0) (sY 2 0) (sY 3 0) (sY 4 0) (sY 5 0) (sY 6 0) (sY 7 0)), (wValley qV k vV bV cV wV aV eV), (wPlan qP k vP aP eP)]) H → va_D A (List.flatten [(wState (sY 0) k (vz340 0) (nz339 0) (az338 0)), (wState (sY 1) k (vz340 1) (nz339 1) (az338 1)), (wState (sY 2) k (vz340 2) (nz339 2) (az338 2)), (wState (sY 3) k (vz340 3) (nz339 3) (az338 3)), (wState (sY 4) k (vz340 4) (nz339 4) (az338 4)), (wState (sY 5) k (vz340 5) (nz339 5) (az338 5)), (wState (sY 6) k (vz340 6) (nz339 6) (az338 6)), (wState (sY 7) k (vz340 7) (nz339 7) (az338 7))] ++ List.flatten [(wStoO qY k (qV 0) (qP 0) (sY 0 0) (sY 1 0) (sY 2 0) (sY 3 0) (sY 4 0) (sY 5 0) (sY 6 0) (sY 7 0)), (wValley qV k vV bV cV wV aV eV), (wPlan qP k vP aP eP)]) → va_S A s.heap H locs → lv_has ls 4 [(0, .ref (qY 0)), (2, .int p2), (3, .ref (sY 4 0))] → W p l e (headSpec wk_c_X8_step ({ frames := 2, cells := 0, slots := 0, locals := 108 })).room s m ([.ref (qY 0), .int p1, .int p2] : List Value).toArray below meth c H locs 0 0 Q (F0 m 66 ls []) := by
                intro H locs ls az338 nz339 vz340 hnz339 hP hD hS hl
                refine lv_aload_n hx hb dX8_step_66 rfl (lv_at hl 2 rfl) ?_
                refine lv_aload_n hx hb dX8_step_67 rfl (lv_at hl 0 rfl) ?_
                refine va_get (D := (dC, dI)) (ci := 8) (v := .ref (qV 0)) (C := RX8) (T := TX8) (N := 4) hx hb hts (fun w h => List.mem_cons_of_mem _ (List.mem_append_right _ (List.mem_append_left _ h))) hown hK hP 88 rfl rfl 0 (by decide) (hts (.fieldLink RX8 22 "SagMemory$Story" "valley" "LSagMemory$Valley;") (wl_mem 0 rfl)) (fun _ h9 => h9) rfl dX8_step_68 ?_
                refine lv_iload_n hx hb dX8_step_71 rfl (lv_at hl 1 rfl) ?_
                refine lv_aload_n hx hb dX8_step_72 rfl (lv_at hl 0 rfl) ?_
                refine va_get (D := (dC, dI)) (ci := 8) (v := .ref (qP 0)) (C := RX8) (T := TX8) (N := 4) hx hb hts (fun w h => List.mem_cons_of_mem _ (List.mem_append_right _ (List.mem_append_left _ h))) hown hK hP 88 rfl rfl 1 (by decide) (hts (.fieldLink RX8 26 "SagMemory$Story" "plan" "LSagMemory$Plan;") (wl_mem 14 rfl)) (fun _ h9 => h9) rfl dX8_step_73 ?_
                refine va_get (D := (dC, dI)) (ci := 3) (v := .ref (qP 2)) (C := RX3) (T := TX3) (N := 4) hx hb hts (fun w h => List.mem_cons_of_mem _ (List.mem_append_right _ (List.mem_append_right _ (List.mem_append_right _ (List.mem_append_right _ (List.mem_append_right _ (List.mem_append_left _ h))))))) hown hK hP 98 rfl rfl 1 (by decide) (hts (.fieldLink RX8 64 "SagMemory$Plan" "ways" "[I") (wl_mem 20 rfl)) (fun _ h9 => h9) rfl dX8_step_76 ?_
                refine lv_iload_n hx hb dX8_step_79 rfl (lv_at hl 1 rfl) ?_
                refine va_iald hx hb hK hP 100 0 rfl rfl (vp_in_iff.mpr ⟨by omega, by omega⟩) dX8_step_80 ?_
                refine lv_topi (fun xz342 exz342 => ?_)
                refine lv_aload_n hx hb dX8_step_81 rfl (lv_at hl 0 rfl) ?_
                refine va_get (D := (dC, dI)) (ci := 8) (v := .ref (qP 0)) (C := RX8) (T := TX8) (N := 4) hx hb hts (fun w h => List.mem_cons_of_mem _ (List.mem_append_right _ (List.mem_append_left _ h))) hown hK hP 88 rfl rfl 1 (by decide) (hts (.fieldLink RX8 26 "SagMemory$Story" "plan" "LSagMemory$Plan;") (wl_mem 14 rfl)) (fun _ h9 => h9) rfl dX8_step_82 ?_
                refine va_get (D := (dC, dI)) (ci := 3) (v := .ref (qP 1)) (C := RX3) (T := TX3) (N := 4) hx hb hts (fun w h => List.mem_cons_of_mem _ (List.mem_append_right _ (List.mem_append_right _ (List.mem_append_right _ (List.mem_append_right _ (List.mem_append_right _ (List.mem_append_left _ h))))))) hown hK hP 98 rfl rfl 0 (by decide) (hts (.fieldLink RX8 68 "SagMemory$Plan" "loads" "[I") (wl_mem 21 rfl)) (fun _ h9 => h9) rfl dX8_step_85 ?_
                refine lv_iload_n hx hb dX8_step_88 rfl (lv_at hl 1 rfl) ?_
                refine va_iald hx hb hK hP 99 0 rfl rfl (vp_in_iff.mpr ⟨by omega, by omega⟩) dX8_step_89 ?_
                refine lv_topi (fun xz343 exz343 => ?_)
                have bxz343 : 0 ≤ xz343.toInt ∧ xz343.toInt ≤ 99 := by rw [exz343]; exact (heP 0) _
                refine lv_aload_n hx hb dX8_step_90 rfl (lv_at hl 0 rfl) ?_
                refine va_get (D := (dC, dI)) (ci := 8) (v := .ref (qP 0)) (C := RX8) (T := TX8) (N := 4) hx hb hts (fun w h => List.mem_cons_of_mem _ (List.mem_append_right _ (List.mem_append_left _ h))) hown hK hP 88 rfl rfl 1 (by decide) (hts (.fieldLink RX8 26 "SagMemory$Story" "plan" "LSagMemory$Plan;") (wl_mem 14 rfl)) (fun _ h9 => h9) rfl dX8_step_91 ?_
                refine va_get (D := (dC, dI)) (ci := 3) (v := .int (vP 0)) (C := RX3) (T := TX3) (N := 4) hx hb hts (fun w h => List.mem_cons_of_mem _ (List.mem_append_right _ (List.mem_append_right _ (List.mem_append_right _ (List.mem_append_right _ (List.mem_append_right _ (List.mem_append_left _ h))))))) hown hK hP 98 rfl rfl 2 (by decide) (hts (.fieldLink RX8 71 "SagMemory$Plan" "law" "I") (wl_mem 22 rfl)) (fun _ h9 => h9) rfl dX8_step_94 ?_
                have hPc := hP.sub (ws' := (List.flatten [(wState (sY 4) k (vz340 4) (nz339 4) (az338 4))] ++ List.flatten [(wValley qV k vV bV cV wV aV eV)])) [44, 45, 46, 47, 48, 49, 50, 51, 52, 53, 54, 90, 91, 92, 93, 94, 95, 96, 97] rfl
                have hC : [44, 45, 46, 47, 48, 49, 50, 51, 52, 53, 54, 90, 91, 92, 93, 94, 95, 96, 97].map (fun i => (List.flatten [(wState (sY 0) k (vz340 0) (nz339 0) (az338 0)), (wState (sY 1) k (vz340 1) (nz339 1) (az338 1)), (wState (sY 2) k (vz340 2) (nz339 2) (az338 2)), (wState (sY 3) k (vz340 3) (nz339 3) (az338 3)), (wState (sY 4) k (vz340 4) (nz339 4) (az338 4)), (wState (sY 5) k (vz340 5) (nz339 5) (az338 5)), (wState (sY 6) k (vz340 6) (nz339 6) (az338 6)), (wState (sY 7) k (vz340 7) (nz339 7) (az338 7))] ++ List.flatten [(wStoO qY k (qV 0) (qP 0) (sY 0 0) (sY 1 0) (sY 2 0) (sY 3 0) (sY 4 0) (sY 5 0) (sY 6 0) (sY 7 0)), (wValley qV k vV bV cV wV aV eV), (wPlan qP k vP aP eP)])[i]?) = (List.flatten [(wState (sY 4) k (vz340 4) (nz339 4) (az338 4))] ++ List.flatten [(wValley qV k vV bV cV wV aV eV)]).map some := rfl
                have hDc := hD.sub [44, 45, 46, 47, 48, 49, 50, 51, 52, 53, 54, 90, 91, 92, 93, 94, 95, 96, 97] (by decide) hC
                have hFc := va_free hD hS hA [44, 45, 46, 47, 48, 49, 50, 51, 52, 53, 54, 90, 91, 92, 93, 94, 95, 96, 97] hC
                refine va_callv (va_runV (As := [.ref (qV 0), .int p2, .int xz342, .int xz343, .int (vP 0)]) (rest := []) ⟨hx, hb, hml, hown, hts⟩ (c_X7_meet l dC dI k H.size (sY 4) (vz340 4) (nz339 4) (az338 4) qV vV bV cV wV aV eV p2 xz342 xz343 (vP 0) (hnz339 4) hbV hcV hwV heV (by show 0 ≤ xz343.toInt ∧ xz343.toInt ≤ 99; omega)) (cwV 5 hts (gk_V (wl_mem 23 rfl) (wl_mem 24 rfl) (wl_mem 25 rfl) (wl_mem 13 rfl) (fun w h => List.mem_cons_of_mem _ (List.mem_append_right _ (List.mem_append_right _ (List.mem_append_right _ (List.mem_append_right _ (List.mem_append_right _ (List.mem_append_right _ (List.mem_append_right _ (List.mem_append_right _ (List.mem_append_left _ h)))))))))) wkg_c_X7_meet) rfl rfl rfl (by decide +kernel) ⟨Nat.le_of_ble_eq_true rfl, Nat.le_of_ble_eq_true rfl⟩) ⟨fun a U g mk q => by obtain ⟨q0, q1, qP, qK, qD⟩ := q; exact ⟨q0, q1, qP, va_K.moved (u := U) (U := U.calling g mk a) (Vm.Alike.refl U.vm) qK, qD⟩, va_recv hK hPc (ci := 7) (q0 := 0) rfl rfl, fun U hU hW => ⟨rfl, by rw [hU], by rw [hU]; exact hPc, va_K.moved hW.alike hK, hDc.weaken (fun _ _ _ _ => trivial)⟩⟩ rfl rfl hl.1 rfl (lv_room (Nat.le_of_ble_eq_true rfl)) dX8_step_97 ⟨Nat.le_of_ble_eq_true rfl, Nat.le_of_ble_eq_true rfl⟩) hS (fun q _ h => hFc q h) hFc (fun u t H1 locs ht hvm gz344 hB hz1 hk1 hS => ?_)
                obtain ⟨vz346, nz347, az348, hnz347, hP1⟩ := hB
                rw [ht] at hP1
                obtain ⟨hP, hD⟩ := w_callR hP hD hk1 hP1 [4] rfl rfl (wk_memC [9] rfl) rfl [none, none, none, none, some 0, none, none, none] rfl rfl
                clear hPc hC hDc hFc hk1 hP1
                generalize H1 = H at hP hS ⊢
                have hP : va_P (dC, dI) vwCl (List.flatten [(wState (sY 0) k (vz340 0) (nz339 0) (az338 0)), (wState (sY 1) k (vz340 1) (nz339 1) (az338 1)), (wState (sY 2) k (vz340 2) (nz339 2) (az338 2)), (wState (sY 3) k (vz340 3) (nz339 3) (az338 3)), (wState (sY 4) k vz346 nz347 az348), (wState (sY 5) k (vz340 5) (nz339 5) (az338 5)), (wState (sY 6) k (vz340 6) (nz339 6) (az338 6)), (wState (sY 7) k (vz340 7) (nz339 7) (az338 7))] ++ List.flatten [(wStoO qY k (qV 0) (qP 0) (sY 0 0) (sY 1 0) (sY 2 0) (sY 3 0) (sY 4 0) (sY 5 0) (sY 6 0) (sY 7 0)), (wValley qV k vV bV cV wV aV eV), (wPlan qP k vP aP eP)]) H := hP
                have hD : va_D A (List.flatten [(wState (sY 0) k (vz340 0) (nz339 0) (az338 0)), (wState (sY 1) k (vz340 1) (nz339 1) (az338 1)), (wState (sY 2) k (vz340 2) (nz339 2) (az338 2)), (wState (sY 3) k (vz340 3) (nz339 3) (az338 3)), (wState (sY 4) k vz346 nz347 az348), (wState (sY 5) k (vz340 5) (nz339 5) (az338 5)), (wState (sY 6) k (vz340 6) (nz339 6) (az338 6)), (wState (sY 7) k (vz340 7) (nz339 7) (az338 7))] ++ List.flatten [(wStoO qY k (qV 0) (qP 0) (sY 0 0) (sY 1 0) (sY 2 0) (sY 3 0) (sY 4 0) (sY 5 0) (sY 6 0) (sY 7 0)), (wValley qV k vV bV cV wV aV eV), (wPlan qP k vP aP eP)]) := hD
                refine W.widen (k := 0) (n := 0) (Nat.le_refl 0) (Nat.le_refl 0) ?_
                rw [hQ]
                exact W.vret hx hb hr (fun t ht hW => ⟨⟨(), rfl, trivial, (va_up vz340 4 vz346), (va_up nz339 4 nz347), (va_up az338 4 az348), (rgf_up hnz339 hnz347), by rw [ht]; exact hP⟩, hS.F ht⟩) hS.2.2 dX8_step_100
              refine lv_if_eq (tgt := 66) hx hb dX8_step_52 (by decide) (fun cz349 => ?_) (fun cz349 => ?_)
              · skip
                have zz350 : xz329.toInt = (0 : Int) := zi_eq.mp cz349
                exact ct66_kz341 H locs ls (va_up aY 4 az327) (va_up nY 4 nz326) (va_up vY 4 vz325)  (rgf_up hnY hnz326) hP hD hS (lv_sub hl [1, 3, 0] rfl)
              · skip
                have zz351 : ¬ xz329.toInt = (0 : Int) := fun h9 => cz349 (zi_eq.mpr h9)
                refine lv_aload_n hx hb dX8_step_55 rfl (lv_at hl 0 rfl) ?_
                refine lv_aload_n hx hb dX8_step_56 rfl (lv_at hl 1 rfl) ?_
                refine va_get (D := (dC, dI)) (ci := 8) (v := .ref (qV 0)) (C := RX8) (T := TX8) (N := 4) hx hb hts (fun w h => List.mem_cons_of_mem _ (List.mem_append_right _ (List.mem_append_left _ h))) hown hK hP 88 rfl rfl 0 (by decide) (hts (.fieldLink RX8 22 "SagMemory$Story" "valley" "LSagMemory$Valley;") (wl_mem 0 rfl)) (fun _ h9 => h9) rfl dX8_step_57 ?_
                refine va_get (D := (dC, dI)) (ci := 10) (v := .int (vV 2)) (C := RX10) (T := TX10) (N := 16) hx hb hts (fun w h => List.mem_cons_of_mem _ (List.mem_append_right _ (List.mem_append_right _ (List.mem_append_right _ (List.mem_append_right _ (List.mem_append_right _ (List.mem_append_right _ (List.mem_append_left _ h)))))))) hown hK hP 90 rfl rfl 9 (by decide) (hts (.fieldLink RX8 57 "SagMemory$Valley" "frost" "I") (wl_mem 16 rfl)) (fun _ h9 => h9) rfl dX8_step_60 ?_
                have hPc := hP.sub (ws' := (List.flatten [(wState (sY 4) k vz325 nz326 az327)] ++ List.flatten ([] : List va_W))) [44, 45, 46, 47, 48, 49, 50, 51, 52, 53, 54] rfl
                have hC : [44, 45, 46, 47, 48, 49, 50, 51, 52, 53, 54].map (fun i => (List.flatten [(wState (sY 0) k (vY 0) (nY 0) (aY 0)), (wState (sY 1) k (vY 1) (nY 1) (aY 1)), (wState (sY 2) k (vY 2) (nY 2) (aY 2)), (wState (sY 3) k (vY 3) (nY 3) (aY 3)), (wState (sY 4) k vz325 nz326 az327), (wState (sY 5) k (vY 5) (nY 5) (aY 5)), (wState (sY 6) k (vY 6) (nY 6) (aY 6)), (wState (sY 7) k (vY 7) (nY 7) (aY 7))] ++ List.flatten [(wStoO qY k (qV 0) (qP 0) (sY 0 0) (sY 1 0) (sY 2 0) (sY 3 0) (sY 4 0) (sY 5 0) (sY 6 0) (sY 7 0)), (wValley qV k vV bV cV wV aV eV), (wPlan qP k vP aP eP)])[i]?) = (List.flatten [(wState (sY 4) k vz325 nz326 az327)] ++ List.flatten ([] : List va_W)).map some := rfl
                have hDc := hD.sub [44, 45, 46, 47, 48, 49, 50, 51, 52, 53, 54] (by decide) hC
                have hFc := va_free hD hS hA [44, 45, 46, 47, 48, 49, 50, 51, 52, 53, 54] hC
                refine va_callv (va_runV (As := [.int (vV 2)]) (rest := []) ⟨hx, hb, hml, hown, hts⟩ (c_X7_chill l dC dI k H.size (sY 4) vz325 nz326 az327 (vV 2) hnz326) (cwV 1 hts (gk_V (wl_mem 17 rfl) (wl_mem 18 rfl) (wl_mem 19 rfl) (wl_mem 13 rfl) (fun w h => List.mem_cons_of_mem _ (List.mem_append_right _ (List.mem_append_right _ (List.mem_append_right _ (List.mem_append_right _ (List.mem_append_right _ (List.mem_append_right _ (List.mem_append_right _ (List.mem_append_left _ h))))))))) wkg_c_X7_chill) rfl rfl rfl (by decide +kernel) ⟨Nat.le_of_ble_eq_true rfl, Nat.le_of_ble_eq_true rfl⟩) ⟨fun a U g mk q => by obtain ⟨q0, q1, qP, qK, qD⟩ := q; exact ⟨q0, q1, qP, va_K.moved (u := U) (U := U.calling g mk a) (Vm.Alike.refl U.vm) qK, qD⟩, va_recv hK hPc (ci := 7) (q0 := 0) rfl rfl, fun U hU hW => ⟨rfl, by rw [hU], by rw [hU]; exact hPc, va_K.moved hW.alike hK, hDc.weaken (fun _ _ _ _ => trivial)⟩⟩ rfl rfl hl.1 rfl (lv_room (Nat.le_of_ble_eq_true rfl)) dX8_step_63 ⟨Nat.le_of_ble_eq_true rfl, Nat.le_of_ble_eq_true rfl⟩) hS (fun q _ h => hFc q h) hFc (fun u t H1 locs ht hvm gz352 hB hz1 hk1 hS => ?_)
                obtain ⟨vz354, nz355, az356, hnz355, hP1⟩ := hB
                rw [ht] at hP1
                obtain ⟨hP, hD⟩ := w_callR hP hD hk1 hP1 [4] rfl rfl (fun _ h => absurd h List.not_mem_nil) rfl [none, none, none, none, some 0, none, none, none] rfl rfl
                clear hPc hC hDc hFc hk1 hP1
                generalize H1 = H at hP hS ⊢
                have hP : va_P (dC, dI) vwCl (List.flatten [(wState (sY 0) k (vY 0) (nY 0) (aY 0)), (wState (sY 1) k (vY 1) (nY 1) (aY 1)), (wState (sY 2) k (vY 2) (nY 2) (aY 2)), (wState (sY 3) k (vY 3) (nY 3) (aY 3)), (wState (sY 4) k vz354 nz355 az356), (wState (sY 5) k (vY 5) (nY 5) (aY 5)), (wState (sY 6) k (vY 6) (nY 6) (aY 6)), (wState (sY 7) k (vY 7) (nY 7) (aY 7))] ++ List.flatten [(wStoO qY k (qV 0) (qP 0) (sY 0 0) (sY 1 0) (sY 2 0) (sY 3 0) (sY 4 0) (sY 5 0) (sY 6 0) (sY 7 0)), (wValley qV k vV bV cV wV aV eV), (wPlan qP k vP aP eP)]) H := hP
                have hD : va_D A (List.flatten [(wState (sY 0) k (vY 0) (nY 0) (aY 0)), (wState (sY 1) k (vY 1) (nY 1) (aY 1)), (wState (sY 2) k (vY 2) (nY 2) (aY 2)), (wState (sY 3) k (vY 3) (nY 3) (aY 3)), (wState (sY 4) k vz354 nz355 az356), (wState (sY 5) k (vY 5) (nY 5) (aY 5)), (wState (sY 6) k (vY 6) (nY 6) (aY 6)), (wState (sY 7) k (vY 7) (nY 7) (aY 7))] ++ List.flatten [(wStoO qY k (qV 0) (qP 0) (sY 0 0) (sY 1 0) (sY 2 0) (sY 3 0) (sY 4 0) (sY 5 0) (sY 6 0) (sY 7 0)), (wValley qV k vV bV cV wV aV eV), (wPlan qP k vP aP eP)]) := hD
                refine W.widen (k := 0) (n := 0) (Nat.le_refl 0) (Nat.le_refl 0) ?_
                exact ct66_kz341 H locs ls (va_up aY 4 az356) (va_up nY 4 nz355) (va_up vY 4 vz354)  (rgf_up hnY hnz355) hP hD hS (lv_sub hl [1, 3, 0] rfl)
            · skip
              have zz357 : ¬ xz284.toInt < (0 : Int) := fun h9 => cz299 (zi_lt.mpr h9)
              have zz358 : ¬ (7 : Int) ≤ xz284.toInt := fun h9 => cz300 (zi_le.mpr h9)
              have zz359 : xz284.toInt = (3 : Int) := zi_eq.mp cz301
              omega
            · skip
              have zz360 : ¬ xz284.toInt < (0 : Int) := fun h9 => cz302 (zi_lt.mpr h9)
              have zz361 : ¬ (7 : Int) ≤ xz284.toInt := fun h9 => cz303 (zi_le.mpr h9)
              have zz362 : xz284.toInt = (4 : Int) := zi_eq.mp cz304
              omega
            · skip
              have zz363 : ¬ xz284.toInt < (0 : Int) := fun h9 => cz305 (zi_lt.mpr h9)
              have zz364 : ¬ (7 : Int) ≤ xz284.toInt := fun h9 => cz306 (zi_le.mpr h9)
              have zz365 : xz284.toInt = (5 : Int) := zi_eq.mp cz307
              omega
            · skip
              have zz366 : ¬ xz284.toInt < (0 : Int) := fun h9 => cz308 (zi_lt.mpr h9)
              have zz367 : ¬ (7 : Int) ≤ xz284.toInt := fun h9 => cz309 (zi_le.mpr h9)
              have zz368 : xz284.toInt = (6 : Int) := zi_eq.mp cz310
              omega
          · skip
            have zz369 : p1.toInt = (4 : Int) := zi_eq.mp cz39
            refine W.eq (g2 := F0 m 28 ls [.int 4, .ref (qY 1)]) (by rw [cz39]) ?_
            refine va_aldq hx hb hK hP 89 5 rfl rfl (by unfold vp_in; decide) dX8_step_28 ?_
            refine W.eq (g2 := F0 m 29 ls [.ref (sY 5 0)]) rfl ?_
            refine lv_astore_n (lv' := [(3, .ref (sY 5 0)), (0, .ref (qY 0)), (1, .int p1), (2, .int p2)]) hx hb dX8_step_29 rfl hl (by decide) rfl (fun ls hl => ?_)
            refine lv_aload_n hx hb dX8_step_30 rfl (lv_at hl 0 rfl) ?_
            refine lv_aload_n hx hb dX8_step_31 rfl (lv_at hl 1 rfl) ?_
            refine lv_iload_n hx hb dX8_step_32 rfl (lv_at hl 2 rfl) ?_
            refine lv_iconst (v := 1) hx hb dX8_step_33 (by decide) ?_
            refine lv_isub hx hb dX8_step_34 ?_
            refine lv_topi (fun xz370 exz370 => ?_)
            have fxz370 : xz370.toInt = p1.toInt - (1 : Int) := by rw [exz370]; exact fb_subI (x := p1) (y := (1 : Int32)) (by show -2147483648 ≤ p1.toInt - (1 : Int); omega) (by show p1.toInt - (1 : Int) < 2147483648; omega)
            have hPc : va_P (dC, dI) vwCl (List.flatten [(wStoO qY k (qV 0) (qP 0) (sY 0 0) (sY 1 0) (sY 2 0) (sY 3 0) (sY 4 0) (sY 5 0) (sY 6 0) (sY 7 0)), (wState (sY 0) k (vY 0) (nY 0) (aY 0)), (wState (sY 1) k (vY 1) (nY 1) (aY 1)), (wState (sY 2) k (vY 2) (nY 2) (aY 2)), (wState (sY 3) k (vY 3) (nY 3) (aY 3)), (wState (sY 4) k (vY 4) (nY 4) (aY 4)), (wState (sY 5) k (vY 5) (nY 5) (aY 5)), (wState (sY 6) k (vY 6) (nY 6) (aY 6)), (wState (sY 7) k (vY 7) (nY 7) (aY 7))]) s.heap := wc_subP1 hP [8, 0, 1, 2, 3, 4, 5, 6, 7] rfl
            refine va_csr (va_Run.run (va_runV (As := [.int xz370]) (rest := [.ref (sY 5 0)]) ⟨hx, hb, hml, hown, hts⟩ (c_X8_behind l dC dI k qY sY (qV 0) (qP 0) vY nY aY xz370 hnY) (cwV 1 hts (gk_V (wl_mem 6 rfl) (wl_mem 7 rfl) (wl_mem 8 rfl) (wl_mem 9 rfl) (fun w h => List.mem_cons_of_mem _ (List.mem_append_right _ (List.mem_append_right _ (List.mem_append_right _ (List.mem_append_left _ h))))) wkg_c_X8_behind) rfl rfl rfl (by decide +kernel) ⟨Nat.le_of_ble_eq_true rfl, Nat.le_of_ble_eq_true rfl⟩) ⟨fun a U g mk q => by obtain ⟨q0, qP, qK⟩ := q; exact ⟨q0, qP, va_K.moved (u := U) (U := U.calling g mk a) (Vm.Alike.refl U.vm) qK⟩, va_recv hK hPc (ci := 8) (q0 := 0) rfl rfl, fun U hU hW => ⟨rfl, by rw [hU]; exact hPc, va_K.moved hW.alike hK⟩⟩ rfl rfl hl.1 rfl (lv_room (Nat.le_of_ble_eq_true rfl)) dX8_step_35 ⟨Nat.le_of_ble_eq_true rfl, Nat.le_of_ble_eq_true rfl⟩)) (fun rz372 gz371 => ?_)
            clear hPc
            rcases gz371 with ⟨rfl, cz373⟩ | ⟨rfl, cz374, cz375⟩ | ⟨rfl, cz376, cz377, cz378⟩ | ⟨rfl, cz379, cz380, cz381⟩ | ⟨rfl, cz382, cz383, cz384⟩ | ⟨rfl, cz385, cz386, cz387⟩ | ⟨rfl, cz388, cz389, cz390⟩ | ⟨rfl, cz391, cz392, cz393⟩ | ⟨rfl, cz394, cz395, cz396⟩
            · skip
              have zz397 : xz370.toInt < (0 : Int) := zi_lt.mp cz373
              omega
            · skip
              have zz398 : ¬ xz370.toInt < (0 : Int) := fun h9 => cz374 (zi_lt.mpr h9)
              have zz399 : (7 : Int) ≤ xz370.toInt := zi_le.mp cz375
              omega
            · skip
              have zz400 : ¬ xz370.toInt < (0 : Int) := fun h9 => cz376 (zi_lt.mpr h9)
              have zz401 : ¬ (7 : Int) ≤ xz370.toInt := fun h9 => cz377 (zi_le.mpr h9)
              have zz402 : xz370.toInt = (0 : Int) := zi_eq.mp cz378
              omega
            · skip
              have zz403 : ¬ xz370.toInt < (0 : Int) := fun h9 => cz379 (zi_lt.mpr h9)
              have zz404 : ¬ (7 : Int) ≤ xz370.toInt := fun h9 => cz380 (zi_le.mpr h9)
              have zz405 : xz370.toInt = (1 : Int) := zi_eq.mp cz381
              omega
            · skip
              have zz406 : ¬ xz370.toInt < (0 : Int) := fun h9 => cz382 (zi_lt.mpr h9)
              have zz407 : ¬ (7 : Int) ≤ xz370.toInt := fun h9 => cz383 (zi_le.mpr h9)
              have zz408 : xz370.toInt = (2 : Int) := zi_eq.mp cz384
              omega
            · skip
              have zz409 : ¬ xz370.toInt < (0 : Int) := fun h9 => cz385 (zi_lt.mpr h9)
              have zz410 : ¬ (7 : Int) ≤ xz370.toInt := fun h9 => cz386 (zi_le.mpr h9)
              have zz411 : xz370.toInt = (3 : Int) := zi_eq.mp cz387
              refine W.eq (g2 := F0 m 38 ls [.ref (sY 4 0), .ref (sY 5 0)]) rfl ?_
              have hPc : va_P (dC, dI) vwCl (List.flatten [(wState (sY 5) k (vY 5) (nY 5) (aY 5))] ++ List.flatten [(wState (sY 4) k (vY 4) (nY 4) (aY 4))]) s.heap := wc_subP hP [5, 4] rfl
              have hDc : va_D A (List.flatten [(wState (sY 5) k (vY 5) (nY 5) (aY 5))] ++ List.flatten [(wState (sY 4) k (vY 4) (nY 4) (aY 4))]) := wc_subD hD [5, 4] rfl rfl
              have hFc := wc_free hDc hS hA
              refine va_callv (va_runV (As := [.ref (sY 4 0)]) (rest := []) ⟨hx, hb, hml, hown, hts⟩ (c_X7_take l dC dI k s.heap.size (sY 5) (vY 5) (nY 5) (aY 5) (sY 4) (vY 4) (nY 4) (aY 4) (hnY 5) (hnY 4)) (cwV 1 hts (gk_V (wl_mem 10 rfl) (wl_mem 11 rfl) (wl_mem 12 rfl) (wl_mem 13 rfl) (fun w h => List.mem_cons_of_mem _ (List.mem_append_right _ (List.mem_append_right _ (List.mem_append_right _ (List.mem_append_right _ (List.mem_append_left _ h)))))) wkg_c_X7_take) rfl rfl rfl (by decide +kernel) ⟨Nat.le_of_ble_eq_true rfl, Nat.le_of_ble_eq_true rfl⟩) ⟨fun a U g mk q => by obtain ⟨q0, q1, qP, qK, qD⟩ := q; exact ⟨q0, q1, qP, va_K.moved (u := U) (U := U.calling g mk a) (Vm.Alike.refl U.vm) qK, qD⟩, va_recv hK hPc (ci := 7) (q0 := 0) rfl rfl, fun U hU hW => ⟨rfl, by rw [hU], by rw [hU]; exact hPc, va_K.moved hW.alike hK, hDc.weaken (fun _ _ _ _ => trivial)⟩⟩ rfl rfl hl.1 rfl (lv_room (Nat.le_of_ble_eq_true rfl)) dX8_step_38 ⟨Nat.le_of_ble_eq_true rfl, Nat.le_of_ble_eq_true rfl⟩) hS (fun q _ h => hFc q h) hFc (fun u t H1 locs ht hvm gz412 hB hz1 hk1 hS => ?_)
              obtain ⟨vz414, nz415, az416, hnz415, hP1⟩ := hB
              rw [ht] at hP1
              obtain ⟨hP, hD⟩ := w_callR hP hD hk1 hP1 [5] rfl rfl (wk_memC [4] rfl) rfl [none, none, none, none, none, some 0, none, none] rfl rfl
              clear hPc hDc hFc hk1 hP1
              generalize H1 = H at hP hS ⊢
              have hP : va_P (dC, dI) vwCl (List.flatten [(wState (sY 0) k (vY 0) (nY 0) (aY 0)), (wState (sY 1) k (vY 1) (nY 1) (aY 1)), (wState (sY 2) k (vY 2) (nY 2) (aY 2)), (wState (sY 3) k (vY 3) (nY 3) (aY 3)), (wState (sY 4) k (vY 4) (nY 4) (aY 4)), (wState (sY 5) k vz414 nz415 az416), (wState (sY 6) k (vY 6) (nY 6) (aY 6)), (wState (sY 7) k (vY 7) (nY 7) (aY 7))] ++ List.flatten [(wStoO qY k (qV 0) (qP 0) (sY 0 0) (sY 1 0) (sY 2 0) (sY 3 0) (sY 4 0) (sY 5 0) (sY 6 0) (sY 7 0)), (wValley qV k vV bV cV wV aV eV), (wPlan qP k vP aP eP)]) H := hP
              have hD : va_D A (List.flatten [(wState (sY 0) k (vY 0) (nY 0) (aY 0)), (wState (sY 1) k (vY 1) (nY 1) (aY 1)), (wState (sY 2) k (vY 2) (nY 2) (aY 2)), (wState (sY 3) k (vY 3) (nY 3) (aY 3)), (wState (sY 4) k (vY 4) (nY 4) (aY 4)), (wState (sY 5) k vz414 nz415 az416), (wState (sY 6) k (vY 6) (nY 6) (aY 6)), (wState (sY 7) k (vY 7) (nY 7) (aY 7))] ++ List.flatten [(wStoO qY k (qV 0) (qP 0) (sY 0 0) (sY 1 0) (sY 2 0) (sY 3 0) (sY 4 0) (sY 5 0) (sY 6 0) (sY 7 0)), (wValley qV k vV bV cV wV aV eV), (wPlan qP k vP aP eP)]) := hD
              refine W.widen (k := 0) (n := 0) (Nat.le_refl 0) (Nat.le_refl 0) ?_
              refine lv_aload_n hx hb dX8_step_41 rfl (lv_at hl 1 rfl) ?_
              refine va_get (D := (dC, dI)) (ci := 8) (v := .ref (qP 0)) (C := RX8) (T := TX8) (N := 4) hx hb hts (fun w h => List.mem_cons_of_mem _ (List.mem_append_right _ (List.mem_append_left _ h))) hown hK hP 88 rfl rfl 1 (by decide) (hts (.fieldLink RX8 26 "SagMemory$Story" "plan" "LSagMemory$Plan;") (wl_mem 14 rfl)) (fun _ h9 => h9) rfl dX8_step_42 ?_
              refine va_get (D := (dC, dI)) (ci := 3) (v := .int (vP 1)) (C := RX3) (T := TX3) (N := 4) hx hb hts (fun w h => List.mem_cons_of_mem _ (List.mem_append_right _ (List.mem_append_right _ (List.mem_append_right _ (List.mem_append_right _ (List.mem_append_right _ (List.mem_append_left _ h))))))) hown hK hP 98 rfl rfl 3 (by decide) (hts (.fieldLink RX8 52 "SagMemory$Plan" "cold" "I") (wl_mem 15 rfl)) (fun _ h9 => h9) rfl dX8_step_45 ?_
              refine lv_iload_n hx hb dX8_step_48 rfl (lv_at hl 2 rfl) ?_
              refine lv_ishr hx hb dX8_step_49 ?_
              refine lv_topi (fun xz417 exz417 => ?_)
              refine lv_iconst (v := 1) hx hb dX8_step_50 (by decide) ?_
              refine lv_iand hx hb dX8_step_51 ?_
              refine lv_topi (fun xz418 exz418 => ?_)
              have bxz418 : 0 ≤ xz418.toInt ∧ xz418.toInt ≤ 1 := by rw [exz418]; exact zand _ 1 2 (by decide) (by decide) (by decide)
              have ct66_kz430 : ∀ (H : Heap) (locs : List Loc) (ls : Array Slot) (az427 : Nat → Nat → Nat → Int32) (nz428 : Nat → Nat → Int32) (vz429 : Nat → Nat → Int32), (∀ t9, Rg 0 8 (nz428 t9)) → va_P (dC, dI) vwCl (List.flatten [(wState (sY 0) k (vz429 0) (nz428 0) (az427 0)), (wState (sY 1) k (vz429 1) (nz428 1) (az427 1)), (wState (sY 2) k (vz429 2) (nz428 2) (az427 2)), (wState (sY 3) k (vz429 3) (nz428 3) (az427 3)), (wState (sY 4) k (vz429 4) (nz428 4) (az427 4)), (wState (sY 5) k (vz429 5) (nz428 5) (az427 5)), (wState (sY 6) k (vz429 6) (nz428 6) (az427 6)), (wState (sY 7) k (vz429 7) (nz428 7) (az427 7))] ++ List.flatten [(wStoO qY k (qV 0) (qP 0) (sY 0 0) (sY 1 0) (sY 2 0) (sY 3 0) (sY 4 0) (sY 5 0) (sY 6 0) (sY 7 0)), (wValley qV k vV bV cV wV aV eV), (wPlan qP k vP aP eP)]) H → va_D A (List.flatten [(wState (sY 0) k (vz429 0) (nz428 0) (az427 0)), (wState (sY 1) k (vz429 1) (nz428 1) (az427 1)), (wState (sY 2) k (vz429 2) (nz428 2) (az427 2)), (wState (sY 3) k (vz429 3) (nz428 3) (az427 3)), (wState (sY 4) k (vz429 4) (nz428 4) (az427 4)), (wState (sY 5) k (vz429 5) (nz428 5) (az427 5)), (wState (sY 6) k (vz429 6) (nz428 6) (az427 6)), (wState (sY 7) k (vz429 7) (nz428 7) (az427 7))] ++ List.flatten [(wStoO qY k (qV 0) (qP 0) (sY 0 0) (sY 1 0) (sY 2 0) (sY 3 0) (sY 4 0) (sY 5 0) (sY 6 0) (sY 7 0)), (wValley qV k vV bV cV wV aV eV), (wPlan qP k vP aP eP)]) → va_S A s.heap H locs → lv_has ls 4 [(0, .ref (qY 0)), (2, .int p2), (3, .ref (sY 5 0))] → W p l e (headSpec wk_c_X8_step ({ frames := 2, cells := 0, slots := 0, locals := 108 })).room s m ([.ref (qY 0), .int p1, .int p2] : List Value).toArray below meth c H locs 0 0 Q (F0 m 66 ls []) := by
                intro H locs ls az427 nz428 vz429 hnz428 hP hD hS hl
                refine lv_aload_n hx hb dX8_step_66 rfl (lv_at hl 2 rfl) ?_
                refine lv_aload_n hx hb dX8_step_67 rfl (lv_at hl 0 rfl) ?_
                refine va_get (D := (dC, dI)) (ci := 8) (v := .ref (qV 0)) (C := RX8) (T := TX8) (N := 4) hx hb hts (fun w h => List.mem_cons_of_mem _ (List.mem_append_right _ (List.mem_append_left _ h))) hown hK hP 88 rfl rfl 0 (by decide) (hts (.fieldLink RX8 22 "SagMemory$Story" "valley" "LSagMemory$Valley;") (wl_mem 0 rfl)) (fun _ h9 => h9) rfl dX8_step_68 ?_
                refine lv_iload_n hx hb dX8_step_71 rfl (lv_at hl 1 rfl) ?_
                refine lv_aload_n hx hb dX8_step_72 rfl (lv_at hl 0 rfl) ?_
                refine va_get (D := (dC, dI)) (ci := 8) (v := .ref (qP 0)) (C := RX8) (T := TX8) (N := 4) hx hb hts (fun w h => List.mem_cons_of_mem _ (List.mem_append_right _ (List.mem_append_left _ h))) hown hK hP 88 rfl rfl 1 (by decide) (hts (.fieldLink RX8 26 "SagMemory$Story" "plan" "LSagMemory$Plan;") (wl_mem 14 rfl)) (fun _ h9 => h9) rfl dX8_step_73 ?_
                refine va_get (D := (dC, dI)) (ci := 3) (v := .ref (qP 2)) (C := RX3) (T := TX3) (N := 4) hx hb hts (fun w h => List.mem_cons_of_mem _ (List.mem_append_right _ (List.mem_append_right _ (List.mem_append_right _ (List.mem_append_right _ (List.mem_append_right _ (List.mem_append_left _ h))))))) hown hK hP 98 rfl rfl 1 (by decide) (hts (.fieldLink RX8 64 "SagMemory$Plan" "ways" "[I") (wl_mem 20 rfl)) (fun _ h9 => h9) rfl dX8_step_76 ?_
                refine lv_iload_n hx hb dX8_step_79 rfl (lv_at hl 1 rfl) ?_
                refine va_iald hx hb hK hP 100 0 rfl rfl (vp_in_iff.mpr ⟨by omega, by omega⟩) dX8_step_80 ?_
                refine lv_topi (fun xz431 exz431 => ?_)
                refine lv_aload_n hx hb dX8_step_81 rfl (lv_at hl 0 rfl) ?_
                refine va_get (D := (dC, dI)) (ci := 8) (v := .ref (qP 0)) (C := RX8) (T := TX8) (N := 4) hx hb hts (fun w h => List.mem_cons_of_mem _ (List.mem_append_right _ (List.mem_append_left _ h))) hown hK hP 88 rfl rfl 1 (by decide) (hts (.fieldLink RX8 26 "SagMemory$Story" "plan" "LSagMemory$Plan;") (wl_mem 14 rfl)) (fun _ h9 => h9) rfl dX8_step_82 ?_
                refine va_get (D := (dC, dI)) (ci := 3) (v := .ref (qP 1)) (C := RX3) (T := TX3) (N := 4) hx hb hts (fun w h => List.mem_cons_of_mem _ (List.mem_append_right _ (List.mem_append_right _ (List.mem_append_right _ (List.mem_append_right _ (List.mem_append_right _ (List.mem_append_left _ h))))))) hown hK hP 98 rfl rfl 0 (by decide) (hts (.fieldLink RX8 68 "SagMemory$Plan" "loads" "[I") (wl_mem 21 rfl)) (fun _ h9 => h9) rfl dX8_step_85 ?_
                refine lv_iload_n hx hb dX8_step_88 rfl (lv_at hl 1 rfl) ?_
                refine va_iald hx hb hK hP 99 0 rfl rfl (vp_in_iff.mpr ⟨by omega, by omega⟩) dX8_step_89 ?_
                refine lv_topi (fun xz432 exz432 => ?_)
                have bxz432 : 0 ≤ xz432.toInt ∧ xz432.toInt ≤ 99 := by rw [exz432]; exact (heP 0) _
                refine lv_aload_n hx hb dX8_step_90 rfl (lv_at hl 0 rfl) ?_
                refine va_get (D := (dC, dI)) (ci := 8) (v := .ref (qP 0)) (C := RX8) (T := TX8) (N := 4) hx hb hts (fun w h => List.mem_cons_of_mem _ (List.mem_append_right _ (List.mem_append_left _ h))) hown hK hP 88 rfl rfl 1 (by decide) (hts (.fieldLink RX8 26 "SagMemory$Story" "plan" "LSagMemory$Plan;") (wl_mem 14 rfl)) (fun _ h9 => h9) rfl dX8_step_91 ?_
                refine va_get (D := (dC, dI)) (ci := 3) (v := .int (vP 0)) (C := RX3) (T := TX3) (N := 4) hx hb hts (fun w h => List.mem_cons_of_mem _ (List.mem_append_right _ (List.mem_append_right _ (List.mem_append_right _ (List.mem_append_right _ (List.mem_append_right _ (List.mem_append_left _ h))))))) hown hK hP 98 rfl rfl 2 (by decide) (hts (.fieldLink RX8 71 "SagMemory$Plan" "law" "I") (wl_mem 22 rfl)) (fun _ h9 => h9) rfl dX8_step_94 ?_
                have hPc := hP.sub (ws' := (List.flatten [(wState (sY 5) k (vz429 5) (nz428 5) (az427 5))] ++ List.flatten [(wValley qV k vV bV cV wV aV eV)])) [55, 56, 57, 58, 59, 60, 61, 62, 63, 64, 65, 90, 91, 92, 93, 94, 95, 96, 97] rfl
                have hC : [55, 56, 57, 58, 59, 60, 61, 62, 63, 64, 65, 90, 91, 92, 93, 94, 95, 96, 97].map (fun i => (List.flatten [(wState (sY 0) k (vz429 0) (nz428 0) (az427 0)), (wState (sY 1) k (vz429 1) (nz428 1) (az427 1)), (wState (sY 2) k (vz429 2) (nz428 2) (az427 2)), (wState (sY 3) k (vz429 3) (nz428 3) (az427 3)), (wState (sY 4) k (vz429 4) (nz428 4) (az427 4)), (wState (sY 5) k (vz429 5) (nz428 5) (az427 5)), (wState (sY 6) k (vz429 6) (nz428 6) (az427 6)), (wState (sY 7) k (vz429 7) (nz428 7) (az427 7))] ++ List.flatten [(wStoO qY k (qV 0) (qP 0) (sY 0 0) (sY 1 0) (sY 2 0) (sY 3 0) (sY 4 0) (sY 5 0) (sY 6 0) (sY 7 0)), (wValley qV k vV bV cV wV aV eV), (wPlan qP k vP aP eP)])[i]?) = (List.flatten [(wState (sY 5) k (vz429 5) (nz428 5) (az427 5))] ++ List.flatten [(wValley qV k vV bV cV wV aV eV)]).map some := rfl
                have hDc := hD.sub [55, 56, 57, 58, 59, 60, 61, 62, 63, 64, 65, 90, 91, 92, 93, 94, 95, 96, 97] (by decide) hC
                have hFc := va_free hD hS hA [55, 56, 57, 58, 59, 60, 61, 62, 63, 64, 65, 90, 91, 92, 93, 94, 95, 96, 97] hC
                refine va_callv (va_runV (As := [.ref (qV 0), .int p2, .int xz431, .int xz432, .int (vP 0)]) (rest := []) ⟨hx, hb, hml, hown, hts⟩ (c_X7_meet l dC dI k H.size (sY 5) (vz429 5) (nz428 5) (az427 5) qV vV bV cV wV aV eV p2 xz431 xz432 (vP 0) (hnz428 5) hbV hcV hwV heV (by show 0 ≤ xz432.toInt ∧ xz432.toInt ≤ 99; omega)) (cwV 5 hts (gk_V (wl_mem 23 rfl) (wl_mem 24 rfl) (wl_mem 25 rfl) (wl_mem 13 rfl) (fun w h => List.mem_cons_of_mem _ (List.mem_append_right _ (List.mem_append_right _ (List.mem_append_right _ (List.mem_append_right _ (List.mem_append_right _ (List.mem_append_right _ (List.mem_append_right _ (List.mem_append_right _ (List.mem_append_left _ h)))))))))) wkg_c_X7_meet) rfl rfl rfl (by decide +kernel) ⟨Nat.le_of_ble_eq_true rfl, Nat.le_of_ble_eq_true rfl⟩) ⟨fun a U g mk q => by obtain ⟨q0, q1, qP, qK, qD⟩ := q; exact ⟨q0, q1, qP, va_K.moved (u := U) (U := U.calling g mk a) (Vm.Alike.refl U.vm) qK, qD⟩, va_recv hK hPc (ci := 7) (q0 := 0) rfl rfl, fun U hU hW => ⟨rfl, by rw [hU], by rw [hU]; exact hPc, va_K.moved hW.alike hK, hDc.weaken (fun _ _ _ _ => trivial)⟩⟩ rfl rfl hl.1 rfl (lv_room (Nat.le_of_ble_eq_true rfl)) dX8_step_97 ⟨Nat.le_of_ble_eq_true rfl, Nat.le_of_ble_eq_true rfl⟩) hS (fun q _ h => hFc q h) hFc (fun u t H1 locs ht hvm gz433 hB hz1 hk1 hS => ?_)
                obtain ⟨vz435, nz436, az437, hnz436, hP1⟩ := hB
                rw [ht] at hP1
                obtain ⟨hP, hD⟩ := w_callR hP hD hk1 hP1 [5] rfl rfl (wk_memC [9] rfl) rfl [none, none, none, none, none, some 0, none, none] rfl rfl
                clear hPc hC hDc hFc hk1 hP1
                generalize H1 = H at hP hS ⊢
                have hP : va_P (dC, dI) vwCl (List.flatten [(wState (sY 0) k (vz429 0) (nz428 0) (az427 0)), (wState (sY 1) k (vz429 1) (nz428 1) (az427 1)), (wState (sY 2) k (vz429 2) (nz428 2) (az427 2)), (wState (sY 3) k (vz429 3) (nz428 3) (az427 3)), (wState (sY 4) k (vz429 4) (nz428 4) (az427 4)), (wState (sY 5) k vz435 nz436 az437), (wState (sY 6) k (vz429 6) (nz428 6) (az427 6)), (wState (sY 7) k (vz429 7) (nz428 7) (az427 7))] ++ List.flatten [(wStoO qY k (qV 0) (qP 0) (sY 0 0) (sY 1 0) (sY 2 0) (sY 3 0) (sY 4 0) (sY 5 0) (sY 6 0) (sY 7 0)), (wValley qV k vV bV cV wV aV eV), (wPlan qP k vP aP eP)]) H := hP
                have hD : va_D A (List.flatten [(wState (sY 0) k (vz429 0) (nz428 0) (az427 0)), (wState (sY 1) k (vz429 1) (nz428 1) (az427 1)), (wState (sY 2) k (vz429 2) (nz428 2) (az427 2)), (wState (sY 3) k (vz429 3) (nz428 3) (az427 3)), (wState (sY 4) k (vz429 4) (nz428 4) (az427 4)), (wState (sY 5) k vz435 nz436 az437), (wState (sY 6) k (vz429 6) (nz428 6) (az427 6)), (wState (sY 7) k (vz429 7) (nz428 7) (az427 7))] ++ List.flatten [(wStoO qY k (qV 0) (qP 0) (sY 0 0) (sY 1 0) (sY 2 0) (sY 3 0) (sY 4 0) (sY 5 0) (sY 6 0) (sY 7 0)), (wValley qV k vV bV cV wV aV eV), (wPlan qP k vP aP eP)]) := hD
                refine W.widen (k := 0) (n := 0) (Nat.le_refl 0) (Nat.le_refl 0) ?_
                rw [hQ]
                exact W.vret hx hb hr (fun t ht hW => ⟨⟨(), rfl, trivial, (va_up vz429 5 vz435), (va_up nz428 5 nz436), (va_up az427 5 az437), (rgf_up hnz428 hnz436), by rw [ht]; exact hP⟩, hS.F ht⟩) hS.2.2 dX8_step_100
              refine lv_if_eq (tgt := 66) hx hb dX8_step_52 (by decide) (fun cz438 => ?_) (fun cz438 => ?_)
              · skip
                have zz439 : xz418.toInt = (0 : Int) := zi_eq.mp cz438
                exact ct66_kz430 H locs ls (va_up aY 5 az416) (va_up nY 5 nz415) (va_up vY 5 vz414)  (rgf_up hnY hnz415) hP hD hS (lv_sub hl [1, 3, 0] rfl)
              · skip
                have zz440 : ¬ xz418.toInt = (0 : Int) := fun h9 => cz438 (zi_eq.mpr h9)
                refine lv_aload_n hx hb dX8_step_55 rfl (lv_at hl 0 rfl) ?_
                refine lv_aload_n hx hb dX8_step_56 rfl (lv_at hl 1 rfl) ?_
                refine va_get (D := (dC, dI)) (ci := 8) (v := .ref (qV 0)) (C := RX8) (T := TX8) (N := 4) hx hb hts (fun w h => List.mem_cons_of_mem _ (List.mem_append_right _ (List.mem_append_left _ h))) hown hK hP 88 rfl rfl 0 (by decide) (hts (.fieldLink RX8 22 "SagMemory$Story" "valley" "LSagMemory$Valley;") (wl_mem 0 rfl)) (fun _ h9 => h9) rfl dX8_step_57 ?_
                refine va_get (D := (dC, dI)) (ci := 10) (v := .int (vV 2)) (C := RX10) (T := TX10) (N := 16) hx hb hts (fun w h => List.mem_cons_of_mem _ (List.mem_append_right _ (List.mem_append_right _ (List.mem_append_right _ (List.mem_append_right _ (List.mem_append_right _ (List.mem_append_right _ (List.mem_append_left _ h)))))))) hown hK hP 90 rfl rfl 9 (by decide) (hts (.fieldLink RX8 57 "SagMemory$Valley" "frost" "I") (wl_mem 16 rfl)) (fun _ h9 => h9) rfl dX8_step_60 ?_
                have hPc := hP.sub (ws' := (List.flatten [(wState (sY 5) k vz414 nz415 az416)] ++ List.flatten ([] : List va_W))) [55, 56, 57, 58, 59, 60, 61, 62, 63, 64, 65] rfl
                have hC : [55, 56, 57, 58, 59, 60, 61, 62, 63, 64, 65].map (fun i => (List.flatten [(wState (sY 0) k (vY 0) (nY 0) (aY 0)), (wState (sY 1) k (vY 1) (nY 1) (aY 1)), (wState (sY 2) k (vY 2) (nY 2) (aY 2)), (wState (sY 3) k (vY 3) (nY 3) (aY 3)), (wState (sY 4) k (vY 4) (nY 4) (aY 4)), (wState (sY 5) k vz414 nz415 az416), (wState (sY 6) k (vY 6) (nY 6) (aY 6)), (wState (sY 7) k (vY 7) (nY 7) (aY 7))] ++ List.flatten [(wStoO qY k (qV 0) (qP 0) (sY 0 0) (sY 1 0) (sY 2 0) (sY 3 0) (sY 4 0) (sY 5 0) (sY 6 0) (sY 7 0)), (wValley qV k vV bV cV wV aV eV), (wPlan qP k vP aP eP)])[i]?) = (List.flatten [(wState (sY 5) k vz414 nz415 az416)] ++ List.flatten ([] : List va_W)).map some := rfl
                have hDc := hD.sub [55, 56, 57, 58, 59, 60, 61, 62, 63, 64, 65] (by decide) hC
                have hFc := va_free hD hS hA [55, 56, 57, 58, 59, 60, 61, 62, 63, 64, 65] hC
                refine va_callv (va_runV (As := [.int (vV 2)]) (rest := []) ⟨hx, hb, hml, hown, hts⟩ (c_X7_chill l dC dI k H.size (sY 5) vz414 nz415 az416 (vV 2) hnz415) (cwV 1 hts (gk_V (wl_mem 17 rfl) (wl_mem 18 rfl) (wl_mem 19 rfl) (wl_mem 13 rfl) (fun w h => List.mem_cons_of_mem _ (List.mem_append_right _ (List.mem_append_right _ (List.mem_append_right _ (List.mem_append_right _ (List.mem_append_right _ (List.mem_append_right _ (List.mem_append_right _ (List.mem_append_left _ h))))))))) wkg_c_X7_chill) rfl rfl rfl (by decide +kernel) ⟨Nat.le_of_ble_eq_true rfl, Nat.le_of_ble_eq_true rfl⟩) ⟨fun a U g mk q => by obtain ⟨q0, q1, qP, qK, qD⟩ := q; exact ⟨q0, q1, qP, va_K.moved (u := U) (U := U.calling g mk a) (Vm.Alike.refl U.vm) qK, qD⟩, va_recv hK hPc (ci := 7) (q0 := 0) rfl rfl, fun U hU hW => ⟨rfl, by rw [hU], by rw [hU]; exact hPc, va_K.moved hW.alike hK, hDc.weaken (fun _ _ _ _ => trivial)⟩⟩ rfl rfl hl.1 rfl (lv_room (Nat.le_of_ble_eq_true rfl)) dX8_step_63 ⟨Nat.le_of_ble_eq_true rfl, Nat.le_of_ble_eq_true rfl⟩) hS (fun q _ h => hFc q h) hFc (fun u t H1 locs ht hvm gz441 hB hz1 hk1 hS => ?_)
                obtain ⟨vz443, nz444, az445, hnz444, hP1⟩ := hB
                rw [ht] at hP1
                obtain ⟨hP, hD⟩ := w_callR hP hD hk1 hP1 [5] rfl rfl (fun _ h => absurd h List.not_mem_nil) rfl [none, none, none, none, none, some 0, none, none] rfl rfl
                clear hPc hC hDc hFc hk1 hP1
                generalize H1 = H at hP hS ⊢
                have hP : va_P (dC, dI) vwCl (List.flatten [(wState (sY 0) k (vY 0) (nY 0) (aY 0)), (wState (sY 1) k (vY 1) (nY 1) (aY 1)), (wState (sY 2) k (vY 2) (nY 2) (aY 2)), (wState (sY 3) k (vY 3) (nY 3) (aY 3)), (wState (sY 4) k (vY 4) (nY 4) (aY 4)), (wState (sY 5) k vz443 nz444 az445), (wState (sY 6) k (vY 6) (nY 6) (aY 6)), (wState (sY 7) k (vY 7) (nY 7) (aY 7))] ++ List.flatten [(wStoO qY k (qV 0) (qP 0) (sY 0 0) (sY 1 0) (sY 2 0) (sY 3 0) (sY 4 0) (sY 5 0) (sY 6 0) (sY 7 0)), (wValley qV k vV bV cV wV aV eV), (wPlan qP k vP aP eP)]) H := hP
                have hD : va_D A (List.flatten [(wState (sY 0) k (vY 0) (nY 0) (aY 0)), (wState (sY 1) k (vY 1) (nY 1) (aY 1)), (wState (sY 2) k (vY 2) (nY 2) (aY 2)), (wState (sY 3) k (vY 3) (nY 3) (aY 3)), (wState (sY 4) k (vY 4) (nY 4) (aY 4)), (wState (sY 5) k vz443 nz444 az445), (wState (sY 6) k (vY 6) (nY 6) (aY 6)), (wState (sY 7) k (vY 7) (nY 7) (aY 7))] ++ List.flatten [(wStoO qY k (qV 0) (qP 0) (sY 0 0) (sY 1 0) (sY 2 0) (sY 3 0) (sY 4 0) (sY 5 0) (sY 6 0) (sY 7 0)), (wValley qV k vV bV cV wV aV eV), (wPlan qP k vP aP eP)]) := hD
                refine W.widen (k := 0) (n := 0) (Nat.le_refl 0) (Nat.le_refl 0) ?_
                exact ct66_kz430 H locs ls (va_up aY 5 az445) (va_up nY 5 nz444) (va_up vY 5 vz443)  (rgf_up hnY hnz444) hP hD hS (lv_sub hl [1, 3, 0] rfl)
            · skip
              have zz446 : ¬ xz370.toInt < (0 : Int) := fun h9 => cz388 (zi_lt.mpr h9)
              have zz447 : ¬ (7 : Int) ≤ xz370.toInt := fun h9 => cz389 (zi_le.mpr h9)
              have zz448 : xz370.toInt = (4 : Int) := zi_eq.mp cz390
              omega
            · skip
              have zz449 : ¬ xz370.toInt < (0 : Int) := fun h9 => cz391 (zi_lt.mpr h9)
              have zz450 : ¬ (7 : Int) ≤ xz370.toInt := fun h9 => cz392 (zi_le.mpr h9)
              have zz451 : xz370.toInt = (5 : Int) := zi_eq.mp cz393
              omega
            · skip
              have zz452 : ¬ xz370.toInt < (0 : Int) := fun h9 => cz394 (zi_lt.mpr h9)
              have zz453 : ¬ (7 : Int) ≤ xz370.toInt := fun h9 => cz395 (zi_le.mpr h9)
              have zz454 : xz370.toInt = (6 : Int) := zi_eq.mp cz396
              omega
          · skip
            have zz455 : p1.toInt = (5 : Int) := zi_eq.mp cz39
            refine W.eq (g2 := F0 m 28 ls [.int 5, .ref (qY 1)]) (by rw [cz39]) ?_
            refine va_aldq hx hb hK hP 89 5 rfl rfl (by unfold vp_in; decide) dX8_step_28 ?_
            refine W.eq (g2 := F0 m 29 ls [.ref (sY 6 0)]) rfl ?_
            refine lv_astore_n (lv' := [(3, .ref (sY 6 0)), (0, .ref (qY 0)), (1, .int p1), (2, .int p2)]) hx hb dX8_step_29 rfl hl (by decide) rfl (fun ls hl => ?_)
            refine lv_aload_n hx hb dX8_step_30 rfl (lv_at hl 0 rfl) ?_
            refine lv_aload_n hx hb dX8_step_31 rfl (lv_at hl 1 rfl) ?_
            refine lv_iload_n hx hb dX8_step_32 rfl (lv_at hl 2 rfl) ?_
            refine lv_iconst (v := 1) hx hb dX8_step_33 (by decide) ?_
            refine lv_isub hx hb dX8_step_34 ?_
            refine lv_topi (fun xz456 exz456 => ?_)
            have fxz456 : xz456.toInt = p1.toInt - (1 : Int) := by rw [exz456]; exact fb_subI (x := p1) (y := (1 : Int32)) (by show -2147483648 ≤ p1.toInt - (1 : Int); omega) (by show p1.toInt - (1 : Int) < 2147483648; omega)
            have hPc : va_P (dC, dI) vwCl (List.flatten [(wStoO qY k (qV 0) (qP 0) (sY 0 0) (sY 1 0) (sY 2 0) (sY 3 0) (sY 4 0) (sY 5 0) (sY 6 0) (sY 7 0)), (wState (sY 0) k (vY 0) (nY 0) (aY 0)), (wState (sY 1) k (vY 1) (nY 1) (aY 1)), (wState (sY 2) k (vY 2) (nY 2) (aY 2)), (wState (sY 3) k (vY 3) (nY 3) (aY 3)), (wState (sY 4) k (vY 4) (nY 4) (aY 4)), (wState (sY 5) k (vY 5) (nY 5) (aY 5)), (wState (sY 6) k (vY 6) (nY 6) (aY 6)), (wState (sY 7) k (vY 7) (nY 7) (aY 7))]) s.heap := wc_subP1 hP [8, 0, 1, 2, 3, 4, 5, 6, 7] rfl
            refine va_csr (va_Run.run (va_runV (As := [.int xz456]) (rest := [.ref (sY 6 0)]) ⟨hx, hb, hml, hown, hts⟩ (c_X8_behind l dC dI k qY sY (qV 0) (qP 0) vY nY aY xz456 hnY) (cwV 1 hts (gk_V (wl_mem 6 rfl) (wl_mem 7 rfl) (wl_mem 8 rfl) (wl_mem 9 rfl) (fun w h => List.mem_cons_of_mem _ (List.mem_append_right _ (List.mem_append_right _ (List.mem_append_right _ (List.mem_append_left _ h))))) wkg_c_X8_behind) rfl rfl rfl (by decide +kernel) ⟨Nat.le_of_ble_eq_true rfl, Nat.le_of_ble_eq_true rfl⟩) ⟨fun a U g mk q => by obtain ⟨q0, qP, qK⟩ := q; exact ⟨q0, qP, va_K.moved (u := U) (U := U.calling g mk a) (Vm.Alike.refl U.vm) qK⟩, va_recv hK hPc (ci := 8) (q0 := 0) rfl rfl, fun U hU hW => ⟨rfl, by rw [hU]; exact hPc, va_K.moved hW.alike hK⟩⟩ rfl rfl hl.1 rfl (lv_room (Nat.le_of_ble_eq_true rfl)) dX8_step_35 ⟨Nat.le_of_ble_eq_true rfl, Nat.le_of_ble_eq_true rfl⟩)) (fun rz458 gz457 => ?_)
            clear hPc
            rcases gz457 with ⟨rfl, cz459⟩ | ⟨rfl, cz460, cz461⟩ | ⟨rfl, cz462, cz463, cz464⟩ | ⟨rfl, cz465, cz466, cz467⟩ | ⟨rfl, cz468, cz469, cz470⟩ | ⟨rfl, cz471, cz472, cz473⟩ | ⟨rfl, cz474, cz475, cz476⟩ | ⟨rfl, cz477, cz478, cz479⟩ | ⟨rfl, cz480, cz481, cz482⟩
            · skip
              have zz483 : xz456.toInt < (0 : Int) := zi_lt.mp cz459
              omega
            · skip
              have zz484 : ¬ xz456.toInt < (0 : Int) := fun h9 => cz460 (zi_lt.mpr h9)
              have zz485 : (7 : Int) ≤ xz456.toInt := zi_le.mp cz461
              omega
            · skip
              have zz486 : ¬ xz456.toInt < (0 : Int) := fun h9 => cz462 (zi_lt.mpr h9)
              have zz487 : ¬ (7 : Int) ≤ xz456.toInt := fun h9 => cz463 (zi_le.mpr h9)
              have zz488 : xz456.toInt = (0 : Int) := zi_eq.mp cz464
              omega
            · skip
              have zz489 : ¬ xz456.toInt < (0 : Int) := fun h9 => cz465 (zi_lt.mpr h9)
              have zz490 : ¬ (7 : Int) ≤ xz456.toInt := fun h9 => cz466 (zi_le.mpr h9)
              have zz491 : xz456.toInt = (1 : Int) := zi_eq.mp cz467
              omega
            · skip
              have zz492 : ¬ xz456.toInt < (0 : Int) := fun h9 => cz468 (zi_lt.mpr h9)
              have zz493 : ¬ (7 : Int) ≤ xz456.toInt := fun h9 => cz469 (zi_le.mpr h9)
              have zz494 : xz456.toInt = (2 : Int) := zi_eq.mp cz470
              omega
            · skip
              have zz495 : ¬ xz456.toInt < (0 : Int) := fun h9 => cz471 (zi_lt.mpr h9)
              have zz496 : ¬ (7 : Int) ≤ xz456.toInt := fun h9 => cz472 (zi_le.mpr h9)
              have zz497 : xz456.toInt = (3 : Int) := zi_eq.mp cz473
              omega
            · skip
              have zz498 : ¬ xz456.toInt < (0 : Int) := fun h9 => cz474 (zi_lt.mpr h9)
              have zz499 : ¬ (7 : Int) ≤ xz456.toInt := fun h9 => cz475 (zi_le.mpr h9)
              have zz500 : xz456.toInt = (4 : Int) := zi_eq.mp cz476
              refine W.eq (g2 := F0 m 38 ls [.ref (sY 5 0), .ref (sY 6 0)]) rfl ?_
              have hPc : va_P (dC, dI) vwCl (List.flatten [(wState (sY 6) k (vY 6) (nY 6) (aY 6))] ++ List.flatten [(wState (sY 5) k (vY 5) (nY 5) (aY 5))]) s.heap := wc_subP hP [6, 5] rfl
              have hDc : va_D A (List.flatten [(wState (sY 6) k (vY 6) (nY 6) (aY 6))] ++ List.flatten [(wState (sY 5) k (vY 5) (nY 5) (aY 5))]) := wc_subD hD [6, 5] rfl rfl
              have hFc := wc_free hDc hS hA
              refine va_callv (va_runV (As := [.ref (sY 5 0)]) (rest := []) ⟨hx, hb, hml, hown, hts⟩ (c_X7_take l dC dI k s.heap.size (sY 6) (vY 6) (nY 6) (aY 6) (sY 5) (vY 5) (nY 5) (aY 5) (hnY 6) (hnY 5)) (cwV 1 hts (gk_V (wl_mem 10 rfl) (wl_mem 11 rfl) (wl_mem 12 rfl) (wl_mem 13 rfl) (fun w h => List.mem_cons_of_mem _ (List.mem_append_right _ (List.mem_append_right _ (List.mem_append_right _ (List.mem_append_right _ (List.mem_append_left _ h)))))) wkg_c_X7_take) rfl rfl rfl (by decide +kernel) ⟨Nat.le_of_ble_eq_true rfl, Nat.le_of_ble_eq_true rfl⟩) ⟨fun a U g mk q => by obtain ⟨q0, q1, qP, qK, qD⟩ := q; exact ⟨q0, q1, qP, va_K.moved (u := U) (U := U.calling g mk a) (Vm.Alike.refl U.vm) qK, qD⟩, va_recv hK hPc (ci := 7) (q0 := 0) rfl rfl, fun U hU hW => ⟨rfl, by rw [hU], by rw [hU]; exact hPc, va_K.moved hW.alike hK, hDc.weaken (fun _ _ _ _ => trivial)⟩⟩ rfl rfl hl.1 rfl (lv_room (Nat.le_of_ble_eq_true rfl)) dX8_step_38 ⟨Nat.le_of_ble_eq_true rfl, Nat.le_of_ble_eq_true rfl⟩) hS (fun q _ h => hFc q h) hFc (fun u t H1 locs ht hvm gz501 hB hz1 hk1 hS => ?_)
              obtain ⟨vz503, nz504, az505, hnz504, hP1⟩ := hB
              rw [ht] at hP1
              obtain ⟨hP, hD⟩ := w_callR hP hD hk1 hP1 [6] rfl rfl (wk_memC [5] rfl) rfl [none, none, none, none, none, none, some 0, none] rfl rfl
              clear hPc hDc hFc hk1 hP1
              generalize H1 = H at hP hS ⊢
              have hP : va_P (dC, dI) vwCl (List.flatten [(wState (sY 0) k (vY 0) (nY 0) (aY 0)), (wState (sY 1) k (vY 1) (nY 1) (aY 1)), (wState (sY 2) k (vY 2) (nY 2) (aY 2)), (wState (sY 3) k (vY 3) (nY 3) (aY 3)), (wState (sY 4) k (vY 4) (nY 4) (aY 4)), (wState (sY 5) k (vY 5) (nY 5) (aY 5)), (wState (sY 6) k vz503 nz504 az505), (wState (sY 7) k (vY 7) (nY 7) (aY 7))] ++ List.flatten [(wStoO qY k (qV 0) (qP 0) (sY 0 0) (sY 1 0) (sY 2 0) (sY 3 0) (sY 4 0) (sY 5 0) (sY 6 0) (sY 7 0)), (wValley qV k vV bV cV wV aV eV), (wPlan qP k vP aP eP)]) H := hP
              have hD : va_D A (List.flatten [(wState (sY 0) k (vY 0) (nY 0) (aY 0)), (wState (sY 1) k (vY 1) (nY 1) (aY 1)), (wState (sY 2) k (vY 2) (nY 2) (aY 2)), (wState (sY 3) k (vY 3) (nY 3) (aY 3)), (wState (sY 4) k (vY 4) (nY 4) (aY 4)), (wState (sY 5) k (vY 5) (nY 5) (aY 5)), (wState (sY 6) k vz503 nz504 az505), (wState (sY 7) k (vY 7) (nY 7) (aY 7))] ++ List.flatten [(wStoO qY k (qV 0) (qP 0) (sY 0 0) (sY 1 0) (sY 2 0) (sY 3 0) (sY 4 0) (sY 5 0) (sY 6 0) (sY 7 0)), (wValley qV k vV bV cV wV aV eV), (wPlan qP k vP aP eP)]) := hD
              refine W.widen (k := 0) (n := 0) (Nat.le_refl 0) (Nat.le_refl 0) ?_
              refine lv_aload_n hx hb dX8_step_41 rfl (lv_at hl 1 rfl) ?_
              refine va_get (D := (dC, dI)) (ci := 8) (v := .ref (qP 0)) (C := RX8) (T := TX8) (N := 4) hx hb hts (fun w h => List.mem_cons_of_mem _ (List.mem_append_right _ (List.mem_append_left _ h))) hown hK hP 88 rfl rfl 1 (by decide) (hts (.fieldLink RX8 26 "SagMemory$Story" "plan" "LSagMemory$Plan;") (wl_mem 14 rfl)) (fun _ h9 => h9) rfl dX8_step_42 ?_
              refine va_get (D := (dC, dI)) (ci := 3) (v := .int (vP 1)) (C := RX3) (T := TX3) (N := 4) hx hb hts (fun w h => List.mem_cons_of_mem _ (List.mem_append_right _ (List.mem_append_right _ (List.mem_append_right _ (List.mem_append_right _ (List.mem_append_right _ (List.mem_append_left _ h))))))) hown hK hP 98 rfl rfl 3 (by decide) (hts (.fieldLink RX8 52 "SagMemory$Plan" "cold" "I") (wl_mem 15 rfl)) (fun _ h9 => h9) rfl dX8_step_45 ?_
              refine lv_iload_n hx hb dX8_step_48 rfl (lv_at hl 2 rfl) ?_
              refine lv_ishr hx hb dX8_step_49 ?_
              refine lv_topi (fun xz506 exz506 => ?_)
              refine lv_iconst (v := 1) hx hb dX8_step_50 (by decide) ?_
              refine lv_iand hx hb dX8_step_51 ?_
              refine lv_topi (fun xz507 exz507 => ?_)
              have bxz507 : 0 ≤ xz507.toInt ∧ xz507.toInt ≤ 1 := by rw [exz507]; exact zand _ 1 2 (by decide) (by decide) (by decide)
              have ct66_kz519 : ∀ (H : Heap) (locs : List Loc) (ls : Array Slot) (az516 : Nat → Nat → Nat → Int32) (nz517 : Nat → Nat → Int32) (vz518 : Nat → Nat → Int32), (∀ t9, Rg 0 8 (nz517 t9)) → va_P (dC, dI) vwCl (List.flatten [(wState (sY 0) k (vz518 0) (nz517 0) (az516 0)), (wState (sY 1) k (vz518 1) (nz517 1) (az516 1)), (wState (sY 2) k (vz518 2) (nz517 2) (az516 2)), (wState (sY 3) k (vz518 3) (nz517 3) (az516 3)), (wState (sY 4) k (vz518 4) (nz517 4) (az516 4)), (wState (sY 5) k (vz518 5) (nz517 5) (az516 5)), (wState (sY 6) k (vz518 6) (nz517 6) (az516 6)), (wState (sY 7) k (vz518 7) (nz517 7) (az516 7))] ++ List.flatten [(wStoO qY k (qV 0) (qP 0) (sY 0 0) (sY 1 0) (sY 2 0) (sY 3 0) (sY 4 0) (sY 5 0) (sY 6 0) (sY 7 0)), (wValley qV k vV bV cV wV aV eV), (wPlan qP k vP aP eP)]) H → va_D A (List.flatten [(wState (sY 0) k (vz518 0) (nz517 0) (az516 0)), (wState (sY 1) k (vz518 1) (nz517 1) (az516 1)), (wState (sY 2) k (vz518 2) (nz517 2) (az516 2)), (wState (sY 3) k (vz518 3) (nz517 3) (az516 3)), (wState (sY 4) k (vz518 4) (nz517 4) (az516 4)), (wState (sY 5) k (vz518 5) (nz517 5) (az516 5)), (wState (sY 6) k (vz518 6) (nz517 6) (az516 6)), (wState (sY 7) k (vz518 7) (nz517 7) (az516 7))] ++ List.flatten [(wStoO qY k (qV 0) (qP 0) (sY 0 0) (sY 1 0) (sY 2 0) (sY 3 0) (sY 4 0) (sY 5 0) (sY 6 0) (sY 7 0)), (wValley qV k vV bV cV wV aV eV), (wPlan qP k vP aP eP)]) → va_S A s.heap H locs → lv_has ls 4 [(0, .ref (qY 0)), (2, .int p2), (3, .ref (sY 6 0))] → W p l e (headSpec wk_c_X8_step ({ frames := 2, cells := 0, slots := 0, locals := 108 })).room s m ([.ref (qY 0), .int p1, .int p2] : List Value).toArray below meth c H locs 0 0 Q (F0 m 66 ls []) := by
                intro H locs ls az516 nz517 vz518 hnz517 hP hD hS hl
                refine lv_aload_n hx hb dX8_step_66 rfl (lv_at hl 2 rfl) ?_
                refine lv_aload_n hx hb dX8_step_67 rfl (lv_at hl 0 rfl) ?_
                refine va_get (D := (dC, dI)) (ci := 8) (v := .ref (qV 0)) (C := RX8) (T := TX8) (N := 4) hx hb hts (fun w h => List.mem_cons_of_mem _ (List.mem_append_right _ (List.mem_append_left _ h))) hown hK hP 88 rfl rfl 0 (by decide) (hts (.fieldLink RX8 22 "SagMemory$Story" "valley" "LSagMemory$Valley;") (wl_mem 0 rfl)) (fun _ h9 => h9) rfl dX8_step_68 ?_
                refine lv_iload_n hx hb dX8_step_71 rfl (lv_at hl 1 rfl) ?_
                refine lv_aload_n hx hb dX8_step_72 rfl (lv_at hl 0 rfl) ?_
                refine va_get (D := (dC, dI)) (ci := 8) (v := .ref (qP 0)) (C := RX8) (T := TX8) (N := 4) hx hb hts (fun w h => List.mem_cons_of_mem _ (List.mem_append_right _ (List.mem_append_left _ h))) hown hK hP 88 rfl rfl 1 (by decide) (hts (.fieldLink RX8 26 "SagMemory$Story" "plan" "LSagMemory$Plan;") (wl_mem 14 rfl)) (fun _ h9 => h9) rfl dX8_step_73 ?_
                refine va_get (D := (dC, dI)) (ci := 3) (v := .ref (qP 2)) (C := RX3) (T := TX3) (N := 4) hx hb hts (fun w h => List.mem_cons_of_mem _ (List.mem_append_right _ (List.mem_append_right _ (List.mem_append_right _ (List.mem_append_right _ (List.mem_append_right _ (List.mem_append_left _ h))))))) hown hK hP 98 rfl rfl 1 (by decide) (hts (.fieldLink RX8 64 "SagMemory$Plan" "ways" "[I") (wl_mem 20 rfl)) (fun _ h9 => h9) rfl dX8_step_76 ?_
                refine lv_iload_n hx hb dX8_step_79 rfl (lv_at hl 1 rfl) ?_
                refine va_iald hx hb hK hP 100 0 rfl rfl (vp_in_iff.mpr ⟨by omega, by omega⟩) dX8_step_80 ?_
                refine lv_topi (fun xz520 exz520 => ?_)
                refine lv_aload_n hx hb dX8_step_81 rfl (lv_at hl 0 rfl) ?_
                refine va_get (D := (dC, dI)) (ci := 8) (v := .ref (qP 0)) (C := RX8) (T := TX8) (N := 4) hx hb hts (fun w h => List.mem_cons_of_mem _ (List.mem_append_right _ (List.mem_append_left _ h))) hown hK hP 88 rfl rfl 1 (by decide) (hts (.fieldLink RX8 26 "SagMemory$Story" "plan" "LSagMemory$Plan;") (wl_mem 14 rfl)) (fun _ h9 => h9) rfl dX8_step_82 ?_
                refine va_get (D := (dC, dI)) (ci := 3) (v := .ref (qP 1)) (C := RX3) (T := TX3) (N := 4) hx hb hts (fun w h => List.mem_cons_of_mem _ (List.mem_append_right _ (List.mem_append_right _ (List.mem_append_right _ (List.mem_append_right _ (List.mem_append_right _ (List.mem_append_left _ h))))))) hown hK hP 98 rfl rfl 0 (by decide) (hts (.fieldLink RX8 68 "SagMemory$Plan" "loads" "[I") (wl_mem 21 rfl)) (fun _ h9 => h9) rfl dX8_step_85 ?_
                refine lv_iload_n hx hb dX8_step_88 rfl (lv_at hl 1 rfl) ?_
                refine va_iald hx hb hK hP 99 0 rfl rfl (vp_in_iff.mpr ⟨by omega, by omega⟩) dX8_step_89 ?_
                refine lv_topi (fun xz521 exz521 => ?_)
                have bxz521 : 0 ≤ xz521.toInt ∧ xz521.toInt ≤ 99 := by rw [exz521]; exact (heP 0) _
                refine lv_aload_n hx hb dX8_step_90 rfl (lv_at hl 0 rfl) ?_
                refine va_get (D := (dC, dI)) (ci := 8) (v := .ref (qP 0)) (C := RX8) (T := TX8) (N := 4) hx hb hts (fun w h => List.mem_cons_of_mem _ (List.mem_append_right _ (List.mem_append_left _ h))) hown hK hP 88 rfl rfl 1 (by decide) (hts (.fieldLink RX8 26 "SagMemory$Story" "plan" "LSagMemory$Plan;") (wl_mem 14 rfl)) (fun _ h9 => h9) rfl dX8_step_91 ?_
                refine va_get (D := (dC, dI)) (ci := 3) (v := .int (vP 0)) (C := RX3) (T := TX3) (N := 4) hx hb hts (fun w h => List.mem_cons_of_mem _ (List.mem_append_right _ (List.mem_append_right _ (List.mem_append_right _ (List.mem_append_right _ (List.mem_append_right _ (List.mem_append_left _ h))))))) hown hK hP 98 rfl rfl 2 (by decide) (hts (.fieldLink RX8 71 "SagMemory$Plan" "law" "I") (wl_mem 22 rfl)) (fun _ h9 => h9) rfl dX8_step_94 ?_
                have hPc := hP.sub (ws' := (List.flatten [(wState (sY 6) k (vz518 6) (nz517 6) (az516 6))] ++ List.flatten [(wValley qV k vV bV cV wV aV eV)])) [66, 67, 68, 69, 70, 71, 72, 73, 74, 75, 76, 90, 91, 92, 93, 94, 95, 96, 97] rfl
                have hC : [66, 67, 68, 69, 70, 71, 72, 73, 74, 75, 76, 90, 91, 92, 93, 94, 95, 96, 97].map (fun i => (List.flatten [(wState (sY 0) k (vz518 0) (nz517 0) (az516 0)), (wState (sY 1) k (vz518 1) (nz517 1) (az516 1)), (wState (sY 2) k (vz518 2) (nz517 2) (az516 2)), (wState (sY 3) k (vz518 3) (nz517 3) (az516 3)), (wState (sY 4) k (vz518 4) (nz517 4) (az516 4)), (wState (sY 5) k (vz518 5) (nz517 5) (az516 5)), (wState (sY 6) k (vz518 6) (nz517 6) (az516 6)), (wState (sY 7) k (vz518 7) (nz517 7) (az516 7))] ++ List.flatten [(wStoO qY k (qV 0) (qP 0) (sY 0 0) (sY 1 0) (sY 2 0) (sY 3 0) (sY 4 0) (sY 5 0) (sY 6 0) (sY 7 0)), (wValley qV k vV bV cV wV aV eV), (wPlan qP k vP aP eP)])[i]?) = (List.flatten [(wState (sY 6) k (vz518 6) (nz517 6) (az516 6))] ++ List.flatten [(wValley qV k vV bV cV wV aV eV)]).map some := rfl
                have hDc := hD.sub [66, 67, 68, 69, 70, 71, 72, 73, 74, 75, 76, 90, 91, 92, 93, 94, 95, 96, 97] (by decide) hC
                have hFc := va_free hD hS hA [66, 67, 68, 69, 70, 71, 72, 73, 74, 75, 76, 90, 91, 92, 93, 94, 95, 96, 97] hC
                refine va_callv (va_runV (As := [.ref (qV 0), .int p2, .int xz520, .int xz521, .int (vP 0)]) (rest := []) ⟨hx, hb, hml, hown, hts⟩ (c_X7_meet l dC dI k H.size (sY 6) (vz518 6) (nz517 6) (az516 6) qV vV bV cV wV aV eV p2 xz520 xz521 (vP 0) (hnz517 6) hbV hcV hwV heV (by show 0 ≤ xz521.toInt ∧ xz521.toInt ≤ 99; omega)) (cwV 5 hts (gk_V (wl_mem 23 rfl) (wl_mem 24 rfl) (wl_mem 25 rfl) (wl_mem 13 rfl) (fun w h => List.mem_cons_of_mem _ (List.mem_append_right _ (List.mem_append_right _ (List.mem_append_right _ (List.mem_append_right _ (List.mem_append_right _ (List.mem_append_right _ (List.mem_append_right _ (List.mem_append_right _ (List.mem_append_left _ h)))))))))) wkg_c_X7_meet) rfl rfl rfl (by decide +kernel) ⟨Nat.le_of_ble_eq_true rfl, Nat.le_of_ble_eq_true rfl⟩) ⟨fun a U g mk q => by obtain ⟨q0, q1, qP, qK, qD⟩ := q; exact ⟨q0, q1, qP, va_K.moved (u := U) (U := U.calling g mk a) (Vm.Alike.refl U.vm) qK, qD⟩, va_recv hK hPc (ci := 7) (q0 := 0) rfl rfl, fun U hU hW => ⟨rfl, by rw [hU], by rw [hU]; exact hPc, va_K.moved hW.alike hK, hDc.weaken (fun _ _ _ _ => trivial)⟩⟩ rfl rfl hl.1 rfl (lv_room (Nat.le_of_ble_eq_true rfl)) dX8_step_97 ⟨Nat.le_of_ble_eq_true rfl, Nat.le_of_ble_eq_true rfl⟩) hS (fun q _ h => hFc q h) hFc (fun u t H1 locs ht hvm gz522 hB hz1 hk1 hS => ?_)
                obtain ⟨vz524, nz525, az526, hnz525, hP1⟩ := hB
                rw [ht] at hP1
                obtain ⟨hP, hD⟩ := w_callR hP hD hk1 hP1 [6] rfl rfl (wk_memC [9] rfl) rfl [none, none, none, none, none, none, some 0, none] rfl rfl
                clear hPc hC hDc hFc hk1 hP1
                generalize H1 = H at hP hS ⊢
                have hP : va_P (dC, dI) vwCl (List.flatten [(wState (sY 0) k (vz518 0) (nz517 0) (az516 0)), (wState (sY 1) k (vz518 1) (nz517 1) (az516 1)), (wState (sY 2) k (vz518 2) (nz517 2) (az516 2)), (wState (sY 3) k (vz518 3) (nz517 3) (az516 3)), (wState (sY 4) k (vz518 4) (nz517 4) (az516 4)), (wState (sY 5) k (vz518 5) (nz517 5) (az516 5)), (wState (sY 6) k vz524 nz525 az526), (wState (sY 7) k (vz518 7) (nz517 7) (az516 7))] ++ List.flatten [(wStoO qY k (qV 0) (qP 0) (sY 0 0) (sY 1 0) (sY 2 0) (sY 3 0) (sY 4 0) (sY 5 0) (sY 6 0) (sY 7 0)), (wValley qV k vV bV cV wV aV eV), (wPlan qP k vP aP eP)]) H := hP
                have hD : va_D A (List.flatten [(wState (sY 0) k (vz518 0) (nz517 0) (az516 0)), (wState (sY 1) k (vz518 1) (nz517 1) (az516 1)), (wState (sY 2) k (vz518 2) (nz517 2) (az516 2)), (wState (sY 3) k (vz518 3) (nz517 3) (az516 3)), (wState (sY 4) k (vz518 4) (nz517 4) (az516 4)), (wState (sY 5) k (vz518 5) (nz517 5) (az516 5)), (wState (sY 6) k vz524 nz525 az526), (wState (sY 7) k (vz518 7) (nz517 7) (az516 7))] ++ List.flatten [(wStoO qY k (qV 0) (qP 0) (sY 0 0) (sY 1 0) (sY 2 0) (sY 3 0) (sY 4 0) (sY 5 0) (sY 6 0) (sY 7 0)), (wValley qV k vV bV cV wV aV eV), (wPlan qP k vP aP eP)]) := hD
                refine W.widen (k := 0) (n := 0) (Nat.le_refl 0) (Nat.le_refl 0) ?_
                rw [hQ]
                exact W.vret hx hb hr (fun t ht hW => ⟨⟨(), rfl, trivial, (va_up vz518 6 vz524), (va_up nz517 6 nz525), (va_up az516 6 az526), (rgf_up hnz517 hnz525), by rw [ht]; exact hP⟩, hS.F ht⟩) hS.2.2 dX8_step_100
              refine lv_if_eq (tgt := 66) hx hb dX8_step_52 (by decide) (fun cz527 => ?_) (fun cz527 => ?_)
              · skip
                have zz528 : xz507.toInt = (0 : Int) := zi_eq.mp cz527
                exact ct66_kz519 H locs ls (va_up aY 6 az505) (va_up nY 6 nz504) (va_up vY 6 vz503)  (rgf_up hnY hnz504) hP hD hS (lv_sub hl [1, 3, 0] rfl)
              · skip
                have zz529 : ¬ xz507.toInt = (0 : Int) := fun h9 => cz527 (zi_eq.mpr h9)
                refine lv_aload_n hx hb dX8_step_55 rfl (lv_at hl 0 rfl) ?_
                refine lv_aload_n hx hb dX8_step_56 rfl (lv_at hl 1 rfl) ?_
                refine va_get (D := (dC, dI)) (ci := 8) (v := .ref (qV 0)) (C := RX8) (T := TX8) (N := 4) hx hb hts (fun w h => List.mem_cons_of_mem _ (List.mem_append_right _ (List.mem_append_left _ h))) hown hK hP 88 rfl rfl 0 (by decide) (hts (.fieldLink RX8 22 "SagMemory$Story" "valley" "LSagMemory$Valley;") (wl_mem 0 rfl)) (fun _ h9 => h9) rfl dX8_step_57 ?_
                refine va_get (D := (dC, dI)) (ci := 10) (v := .int (vV 2)) (C := RX10) (T := TX10) (N := 16) hx hb hts (fun w h => List.mem_cons_of_mem _ (List.mem_append_right _ (List.mem_append_right _ (List.mem_append_right _ (List.mem_append_right _ (List.mem_append_right _ (List.mem_append_right _ (List.mem_append_left _ h)))))))) hown hK hP 90 rfl rfl 9 (by decide) (hts (.fieldLink RX8 57 "SagMemory$Valley" "frost" "I") (wl_mem 16 rfl)) (fun _ h9 => h9) rfl dX8_step_60 ?_
                have hPc := hP.sub (ws' := (List.flatten [(wState (sY 6) k vz503 nz504 az505)] ++ List.flatten ([] : List va_W))) [66, 67, 68, 69, 70, 71, 72, 73, 74, 75, 76] rfl
                have hC : [66, 67, 68, 69, 70, 71, 72, 73, 74, 75, 76].map (fun i => (List.flatten [(wState (sY 0) k (vY 0) (nY 0) (aY 0)), (wState (sY 1) k (vY 1) (nY 1) (aY 1)), (wState (sY 2) k (vY 2) (nY 2) (aY 2)), (wState (sY 3) k (vY 3) (nY 3) (aY 3)), (wState (sY 4) k (vY 4) (nY 4) (aY 4)), (wState (sY 5) k (vY 5) (nY 5) (aY 5)), (wState (sY 6) k vz503 nz504 az505), (wState (sY 7) k (vY 7) (nY 7) (aY 7))] ++ List.flatten [(wStoO qY k (qV 0) (qP 0) (sY 0 0) (sY 1 0) (sY 2 0) (sY 3 0) (sY 4 0) (sY 5 0) (sY 6 0) (sY 7 0)), (wValley qV k vV bV cV wV aV eV), (wPlan qP k vP aP eP)])[i]?) = (List.flatten [(wState (sY 6) k vz503 nz504 az505)] ++ List.flatten ([] : List va_W)).map some := rfl
                have hDc := hD.sub [66, 67, 68, 69, 70, 71, 72, 73, 74, 75, 76] (by decide) hC
                have hFc := va_free hD hS hA [66, 67, 68, 69, 70, 71, 72, 73, 74, 75, 76] hC
                refine va_callv (va_runV (As := [.int (vV 2)]) (rest := []) ⟨hx, hb, hml, hown, hts⟩ (c_X7_chill l dC dI k H.size (sY 6) vz503 nz504 az505 (vV 2) hnz504) (cwV 1 hts (gk_V (wl_mem 17 rfl) (wl_mem 18 rfl) (wl_mem 19 rfl) (wl_mem 13 rfl) (fun w h => List.mem_cons_of_mem _ (List.mem_append_right _ (List.mem_append_right _ (List.mem_append_right _ (List.mem_append_right _ (List.mem_append_right _ (List.mem_append_right _ (List.mem_append_right _ (List.mem_append_left _ h))))))))) wkg_c_X7_chill) rfl rfl rfl (by decide +kernel) ⟨Nat.le_of_ble_eq_true rfl, Nat.le_of_ble_eq_true rfl⟩) ⟨fun a U g mk q => by obtain ⟨q0, q1, qP, qK, qD⟩ := q; exact ⟨q0, q1, qP, va_K.moved (u := U) (U := U.calling g mk a) (Vm.Alike.refl U.vm) qK, qD⟩, va_recv hK hPc (ci := 7) (q0 := 0) rfl rfl, fun U hU hW => ⟨rfl, by rw [hU], by rw [hU]; exact hPc, va_K.moved hW.alike hK, hDc.weaken (fun _ _ _ _ => trivial)⟩⟩ rfl rfl hl.1 rfl (lv_room (Nat.le_of_ble_eq_true rfl)) dX8_step_63 ⟨Nat.le_of_ble_eq_true rfl, Nat.le_of_ble_eq_true rfl⟩) hS (fun q _ h => hFc q h) hFc (fun u t H1 locs ht hvm gz530 hB hz1 hk1 hS => ?_)
                obtain ⟨vz532, nz533, az534, hnz533, hP1⟩ := hB
                rw [ht] at hP1
                obtain ⟨hP, hD⟩ := w_callR hP hD hk1 hP1 [6] rfl rfl (fun _ h => absurd h List.not_mem_nil) rfl [none, none, none, none, none, none, some 0, none] rfl rfl
                clear hPc hC hDc hFc hk1 hP1
                generalize H1 = H at hP hS ⊢
                have hP : va_P (dC, dI) vwCl (List.flatten [(wState (sY 0) k (vY 0) (nY 0) (aY 0)), (wState (sY 1) k (vY 1) (nY 1) (aY 1)), (wState (sY 2) k (vY 2) (nY 2) (aY 2)), (wState (sY 3) k (vY 3) (nY 3) (aY 3)), (wState (sY 4) k (vY 4) (nY 4) (aY 4)), (wState (sY 5) k (vY 5) (nY 5) (aY 5)), (wState (sY 6) k vz532 nz533 az534), (wState (sY 7) k (vY 7) (nY 7) (aY 7))] ++ List.flatten [(wStoO qY k (qV 0) (qP 0) (sY 0 0) (sY 1 0) (sY 2 0) (sY 3 0) (sY 4 0) (sY 5 0) (sY 6 0) (sY 7 0)), (wValley qV k vV bV cV wV aV eV), (wPlan qP k vP aP eP)]) H := hP
                have hD : va_D A (List.flatten [(wState (sY 0) k (vY 0) (nY 0) (aY 0)), (wState (sY 1) k (vY 1) (nY 1) (aY 1)), (wState (sY 2) k (vY 2) (nY 2) (aY 2)), (wState (sY 3) k (vY 3) (nY 3) (aY 3)), (wState (sY 4) k (vY 4) (nY 4) (aY 4)), (wState (sY 5) k (vY 5) (nY 5) (aY 5)), (wState (sY 6) k vz532 nz533 az534), (wState (sY 7) k (vY 7) (nY 7) (aY 7))] ++ List.flatten [(wStoO qY k (qV 0) (qP 0) (sY 0 0) (sY 1 0) (sY 2 0) (sY 3 0) (sY 4 0) (sY 5 0) (sY 6 0) (sY 7 0)), (wValley qV k vV bV cV wV aV eV), (wPlan qP k vP aP eP)]) := hD
                refine W.widen (k := 0) (n := 0) (Nat.le_refl 0) (Nat.le_refl 0) ?_
                exact ct66_kz519 H locs ls (va_up aY 6 az534) (va_up nY 6 nz533) (va_up vY 6 vz532)  (rgf_up hnY hnz533) hP hD hS (lv_sub hl [1, 3, 0] rfl)
            · skip
              have zz535 : ¬ xz456.toInt < (0 : Int) := fun h9 => cz477 (zi_lt.mpr h9)
              have zz536 : ¬ (7 : Int) ≤ xz456.toInt := fun h9 => cz478 (zi_le.mpr h9)
              have zz537 : xz456.toInt = (5 : Int) := zi_eq.mp cz479
              omega
            · skip
              have zz538 : ¬ xz456.toInt < (0 : Int) := fun h9 => cz480 (zi_lt.mpr h9)
              have zz539 : ¬ (7 : Int) ≤ xz456.toInt := fun h9 => cz481 (zi_le.mpr h9)
              have zz540 : xz456.toInt = (6 : Int) := zi_eq.mp cz482
              omega
          · skip
            have zz541 : p1.toInt = (6 : Int) := zi_eq.mp cz39
            refine W.eq (g2 := F0 m 28 ls [.int 6, .ref (qY 1)]) (by rw [cz39]) ?_
            refine va_aldq hx hb hK hP 89 5 rfl rfl (by unfold vp_in; decide) dX8_step_28 ?_
            refine W.eq (g2 := F0 m 29 ls [.ref (sY 7 0)]) rfl ?_
            refine lv_astore_n (lv' := [(3, .ref (sY 7 0)), (0, .ref (qY 0)), (1, .int p1), (2, .int p2)]) hx hb dX8_step_29 rfl hl (by decide) rfl (fun ls hl => ?_)
            refine lv_aload_n hx hb dX8_step_30 rfl (lv_at hl 0 rfl) ?_
            refine lv_aload_n hx hb dX8_step_31 rfl (lv_at hl 1 rfl) ?_
            refine lv_iload_n hx hb dX8_step_32 rfl (lv_at hl 2 rfl) ?_
            refine lv_iconst (v := 1) hx hb dX8_step_33 (by decide) ?_
            refine lv_isub hx hb dX8_step_34 ?_
            refine lv_topi (fun xz542 exz542 => ?_)
            have fxz542 : xz542.toInt = p1.toInt - (1 : Int) := by rw [exz542]; exact fb_subI (x := p1) (y := (1 : Int32)) (by show -2147483648 ≤ p1.toInt - (1 : Int); omega) (by show p1.toInt - (1 : Int) < 2147483648; omega)
            have hPc : va_P (dC, dI) vwCl (List.flatten [(wStoO qY k (qV 0) (qP 0) (sY 0 0) (sY 1 0) (sY 2 0) (sY 3 0) (sY 4 0) (sY 5 0) (sY 6 0) (sY 7 0)), (wState (sY 0) k (vY 0) (nY 0) (aY 0)), (wState (sY 1) k (vY 1) (nY 1) (aY 1)), (wState (sY 2) k (vY 2) (nY 2) (aY 2)), (wState (sY 3) k (vY 3) (nY 3) (aY 3)), (wState (sY 4) k (vY 4) (nY 4) (aY 4)), (wState (sY 5) k (vY 5) (nY 5) (aY 5)), (wState (sY 6) k (vY 6) (nY 6) (aY 6)), (wState (sY 7) k (vY 7) (nY 7) (aY 7))]) s.heap := wc_subP1 hP [8, 0, 1, 2, 3, 4, 5, 6, 7] rfl
            refine va_csr (va_Run.run (va_runV (As := [.int xz542]) (rest := [.ref (sY 7 0)]) ⟨hx, hb, hml, hown, hts⟩ (c_X8_behind l dC dI k qY sY (qV 0) (qP 0) vY nY aY xz542 hnY) (cwV 1 hts (gk_V (wl_mem 6 rfl) (wl_mem 7 rfl) (wl_mem 8 rfl) (wl_mem 9 rfl) (fun w h => List.mem_cons_of_mem _ (List.mem_append_right _ (List.mem_append_right _ (List.mem_append_right _ (List.mem_append_left _ h))))) wkg_c_X8_behind) rfl rfl rfl (by decide +kernel) ⟨Nat.le_of_ble_eq_true rfl, Nat.le_of_ble_eq_true rfl⟩) ⟨fun a U g mk q => by obtain ⟨q0, qP, qK⟩ := q; exact ⟨q0, qP, va_K.moved (u := U) (U := U.calling g mk a) (Vm.Alike.refl U.vm) qK⟩, va_recv hK hPc (ci := 8) (q0 := 0) rfl rfl, fun U hU hW => ⟨rfl, by rw [hU]; exact hPc, va_K.moved hW.alike hK⟩⟩ rfl rfl hl.1 rfl (lv_room (Nat.le_of_ble_eq_true rfl)) dX8_step_35 ⟨Nat.le_of_ble_eq_true rfl, Nat.le_of_ble_eq_true rfl⟩)) (fun rz544 gz543 => ?_)
            clear hPc
            rcases gz543 with ⟨rfl, cz545⟩ | ⟨rfl, cz546, cz547⟩ | ⟨rfl, cz548, cz549, cz550⟩ | ⟨rfl, cz551, cz552, cz553⟩ | ⟨rfl, cz554, cz555, cz556⟩ | ⟨rfl, cz557, cz558, cz559⟩ | ⟨rfl, cz560, cz561, cz562⟩ | ⟨rfl, cz563, cz564, cz565⟩ | ⟨rfl, cz566, cz567, cz568⟩
            · skip
              have zz569 : xz542.toInt < (0 : Int) := zi_lt.mp cz545
              omega
            · skip
              have zz570 : ¬ xz542.toInt < (0 : Int) := fun h9 => cz546 (zi_lt.mpr h9)
              have zz571 : (7 : Int) ≤ xz542.toInt := zi_le.mp cz547
              omega
            · skip
              have zz572 : ¬ xz542.toInt < (0 : Int) := fun h9 => cz548 (zi_lt.mpr h9)
              have zz573 : ¬ (7 : Int) ≤ xz542.toInt := fun h9 => cz549 (zi_le.mpr h9)
              have zz574 : xz542.toInt = (0 : Int) := zi_eq.mp cz550
              omega
            · skip
              have zz575 : ¬ xz542.toInt < (0 : Int) := fun h9 => cz551 (zi_lt.mpr h9)
              have zz576 : ¬ (7 : Int) ≤ xz542.toInt := fun h9 => cz552 (zi_le.mpr h9)
              have zz577 : xz542.toInt = (1 : Int) := zi_eq.mp cz553
              omega
            · skip
              have zz578 : ¬ xz542.toInt < (0 : Int) := fun h9 => cz554 (zi_lt.mpr h9)
              have zz579 : ¬ (7 : Int) ≤ xz542.toInt := fun h9 => cz555 (zi_le.mpr h9)
              have zz580 : xz542.toInt = (2 : Int) := zi_eq.mp cz556
              omega
            · skip
              have zz581 : ¬ xz542.toInt < (0 : Int) := fun h9 => cz557 (zi_lt.mpr h9)
              have zz582 : ¬ (7 : Int) ≤ xz542.toInt := fun h9 => cz558 (zi_le.mpr h9)
              have zz583 : xz542.toInt = (3 : Int) := zi_eq.mp cz559
              omega
            · skip
              have zz584 : ¬ xz542.toInt < (0 : Int) := fun h9 => cz560 (zi_lt.mpr h9)
              have zz585 : ¬ (7 : Int) ≤ xz542.toInt := fun h9 => cz561 (zi_le.mpr h9)
              have zz586 : xz542.toInt = (4 : Int) := zi_eq.mp cz562
              omega
            · skip
              have zz587 : ¬ xz542.toInt < (0 : Int) := fun h9 => cz563 (zi_lt.mpr h9)
              have zz588 : ¬ (7 : Int) ≤ xz542.toInt := fun h9 => cz564 (zi_le.mpr h9)
              have zz589 : xz542.toInt = (5 : Int) := zi_eq.mp cz565
              refine W.eq (g2 := F0 m 38 ls [.ref (sY 6 0), .ref (sY 7 0)]) rfl ?_
              have hPc : va_P (dC, dI) vwCl (List.flatten [(wState (sY 7) k (vY 7) (nY 7) (aY 7))] ++ List.flatten [(wState (sY 6) k (vY 6) (nY 6) (aY 6))]) s.heap := wc_subP hP [7, 6] rfl
              have hDc : va_D A (List.flatten [(wState (sY 7) k (vY 7) (nY 7) (aY 7))] ++ List.flatten [(wState (sY 6) k (vY 6) (nY 6) (aY 6))]) := wc_subD hD [7, 6] rfl rfl
              have hFc := wc_free hDc hS hA
              refine va_callv (va_runV (As := [.ref (sY 6 0)]) (rest := []) ⟨hx, hb, hml, hown, hts⟩ (c_X7_take l dC dI k s.heap.size (sY 7) (vY 7) (nY 7) (aY 7) (sY 6) (vY 6) (nY 6) (aY 6) (hnY 7) (hnY 6)) (cwV 1 hts (gk_V (wl_mem 10 rfl) (wl_mem 11 rfl) (wl_mem 12 rfl) (wl_mem 13 rfl) (fun w h => List.mem_cons_of_mem _ (List.mem_append_right _ (List.mem_append_right _ (List.mem_append_right _ (List.mem_append_right _ (List.mem_append_left _ h)))))) wkg_c_X7_take) rfl rfl rfl (by decide +kernel) ⟨Nat.le_of_ble_eq_true rfl, Nat.le_of_ble_eq_true rfl⟩) ⟨fun a U g mk q => by obtain ⟨q0, q1, qP, qK, qD⟩ := q; exact ⟨q0, q1, qP, va_K.moved (u := U) (U := U.calling g mk a) (Vm.Alike.refl U.vm) qK, qD⟩, va_recv hK hPc (ci := 7) (q0 := 0) rfl rfl, fun U hU hW => ⟨rfl, by rw [hU], by rw [hU]; exact hPc, va_K.moved hW.alike hK, hDc.weaken (fun _ _ _ _ => trivial)⟩⟩ rfl rfl hl.1 rfl (lv_room (Nat.le_of_ble_eq_true rfl)) dX8_step_38 ⟨Nat.le_of_ble_eq_true rfl, Nat.le_of_ble_eq_true rfl⟩) hS (fun q _ h => hFc q h) hFc (fun u t H1 locs ht hvm gz590 hB hz1 hk1 hS => ?_)
              obtain ⟨vz592, nz593, az594, hnz593, hP1⟩ := hB
              rw [ht] at hP1
              obtain ⟨hP, hD⟩ := w_callR hP hD hk1 hP1 [7] rfl rfl (wk_memC [6] rfl) rfl [none, none, none, none, none, none, none, some 0] rfl rfl
              clear hPc hDc hFc hk1 hP1
              generalize H1 = H at hP hS ⊢
              have hP : va_P (dC, dI) vwCl (List.flatten [(wState (sY 0) k (vY 0) (nY 0) (aY 0)), (wState (sY 1) k (vY 1) (nY 1) (aY 1)), (wState (sY 2) k (vY 2) (nY 2) (aY 2)), (wState (sY 3) k (vY 3) (nY 3) (aY 3)), (wState (sY 4) k (vY 4) (nY 4) (aY 4)), (wState (sY 5) k (vY 5) (nY 5) (aY 5)), (wState (sY 6) k (vY 6) (nY 6) (aY 6)), (wState (sY 7) k vz592 nz593 az594)] ++ List.flatten [(wStoO qY k (qV 0) (qP 0) (sY 0 0) (sY 1 0) (sY 2 0) (sY 3 0) (sY 4 0) (sY 5 0) (sY 6 0) (sY 7 0)), (wValley qV k vV bV cV wV aV eV), (wPlan qP k vP aP eP)]) H := hP
              have hD : va_D A (List.flatten [(wState (sY 0) k (vY 0) (nY 0) (aY 0)), (wState (sY 1) k (vY 1) (nY 1) (aY 1)), (wState (sY 2) k (vY 2) (nY 2) (aY 2)), (wState (sY 3) k (vY 3) (nY 3) (aY 3)), (wState (sY 4) k (vY 4) (nY 4) (aY 4)), (wState (sY 5) k (vY 5) (nY 5) (aY 5)), (wState (sY 6) k (vY 6) (nY 6) (aY 6)), (wState (sY 7) k vz592 nz593 az594)] ++ List.flatten [(wStoO qY k (qV 0) (qP 0) (sY 0 0) (sY 1 0) (sY 2 0) (sY 3 0) (sY 4 0) (sY 5 0) (sY 6 0) (sY 7 0)), (wValley qV k vV bV cV wV aV eV), (wPlan qP k vP aP eP)]) := hD
              refine W.widen (k := 0) (n := 0) (Nat.le_refl 0) (Nat.le_refl 0) ?_
              refine lv_aload_n hx hb dX8_step_41 rfl (lv_at hl 1 rfl) ?_
              refine va_get (D := (dC, dI)) (ci := 8) (v := .ref (qP 0)) (C := RX8) (T := TX8) (N := 4) hx hb hts (fun w h => List.mem_cons_of_mem _ (List.mem_append_right _ (List.mem_append_left _ h))) hown hK hP 88 rfl rfl 1 (by decide) (hts (.fieldLink RX8 26 "SagMemory$Story" "plan" "LSagMemory$Plan;") (wl_mem 14 rfl)) (fun _ h9 => h9) rfl dX8_step_42 ?_
              refine va_get (D := (dC, dI)) (ci := 3) (v := .int (vP 1)) (C := RX3) (T := TX3) (N := 4) hx hb hts (fun w h => List.mem_cons_of_mem _ (List.mem_append_right _ (List.mem_append_right _ (List.mem_append_right _ (List.mem_append_right _ (List.mem_append_right _ (List.mem_append_left _ h))))))) hown hK hP 98 rfl rfl 3 (by decide) (hts (.fieldLink RX8 52 "SagMemory$Plan" "cold" "I") (wl_mem 15 rfl)) (fun _ h9 => h9) rfl dX8_step_45 ?_
              refine lv_iload_n hx hb dX8_step_48 rfl (lv_at hl 2 rfl) ?_
              refine lv_ishr hx hb dX8_step_49 ?_
              refine lv_topi (fun xz595 exz595 => ?_)
              refine lv_iconst (v := 1) hx hb dX8_step_50 (by decide) ?_
              refine lv_iand hx hb dX8_step_51 ?_
              refine lv_topi (fun xz596 exz596 => ?_)
              have bxz596 : 0 ≤ xz596.toInt ∧ xz596.toInt ≤ 1 := by rw [exz596]; exact zand _ 1 2 (by decide) (by decide) (by decide)
              have ct66_kz608 : ∀ (H : Heap) (locs : List Loc) (ls : Array Slot) (az605 : Nat → Nat → Nat → Int32) (nz606 : Nat → Nat → Int32) (vz607 : Nat → Nat → Int32), (∀ t9, Rg 0 8 (nz606 t9)) → va_P (dC, dI) vwCl (List.flatten [(wState (sY 0) k (vz607 0) (nz606 0) (az605 0)), (wState (sY 1) k (vz607 1) (nz606 1) (az605 1)), (wState (sY 2) k (vz607 2) (nz606 2) (az605 2)), (wState (sY 3) k (vz607 3) (nz606 3) (az605 3)), (wState (sY 4) k (vz607 4) (nz606 4) (az605 4)), (wState (sY 5) k (vz607 5) (nz606 5) (az605 5)), (wState (sY 6) k (vz607 6) (nz606 6) (az605 6)), (wState (sY 7) k (vz607 7) (nz606 7) (az605 7))] ++ List.flatten [(wStoO qY k (qV 0) (qP 0) (sY 0 0) (sY 1 0) (sY 2 0) (sY 3 0) (sY 4 0) (sY 5 0) (sY 6 0) (sY 7 0)), (wValley qV k vV bV cV wV aV eV), (wPlan qP k vP aP eP)]) H → va_D A (List.flatten [(wState (sY 0) k (vz607 0) (nz606 0) (az605 0)), (wState (sY 1) k (vz607 1) (nz606 1) (az605 1)), (wState (sY 2) k (vz607 2) (nz606 2) (az605 2)), (wState (sY 3) k (vz607 3) (nz606 3) (az605 3)), (wState (sY 4) k (vz607 4) (nz606 4) (az605 4)), (wState (sY 5) k (vz607 5) (nz606 5) (az605 5)), (wState (sY 6) k (vz607 6) (nz606 6) (az605 6)), (wState (sY 7) k (vz607 7) (nz606 7) (az605 7))] ++ List.flatten [(wStoO qY k (qV 0) (qP 0) (sY 0 0) (sY 1 0) (sY 2 0) (sY 3 0) (sY 4 0) (sY 5 0) (sY 6 0) (sY 7 0)), (wValley qV k vV bV cV wV aV eV), (wPlan qP k vP aP eP)]) → va_S A s.heap H locs → lv_has ls 4 [(0, .ref (qY 0)), (2, .int p2), (3, .ref (sY 7 0))] → W p l e (headSpec wk_c_X8_step ({ frames := 2, cells := 0, slots := 0, locals := 108 })).room s m ([.ref (qY 0), .int p1, .int p2] : List Value).toArray below meth c H locs 0 0 Q (F0 m 66 ls []) := by
                intro H locs ls az605 nz606 vz607 hnz606 hP hD hS hl
                refine lv_aload_n hx hb dX8_step_66 rfl (lv_at hl 2 rfl) ?_
                refine lv_aload_n hx hb dX8_step_67 rfl (lv_at hl 0 rfl) ?_
                refine va_get (D := (dC, dI)) (ci := 8) (v := .ref (qV 0)) (C := RX8) (T := TX8) (N := 4) hx hb hts (fun w h => List.mem_cons_of_mem _ (List.mem_append_right _ (List.mem_append_left _ h))) hown hK hP 88 rfl rfl 0 (by decide) (hts (.fieldLink RX8 22 "SagMemory$Story" "valley" "LSagMemory$Valley;") (wl_mem 0 rfl)) (fun _ h9 => h9) rfl dX8_step_68 ?_
                refine lv_iload_n hx hb dX8_step_71 rfl (lv_at hl 1 rfl) ?_
                refine lv_aload_n hx hb dX8_step_72 rfl (lv_at hl 0 rfl) ?_
                refine va_get (D := (dC, dI)) (ci := 8) (v := .ref (qP 0)) (C := RX8) (T := TX8) (N := 4) hx hb hts (fun w h => List.mem_cons_of_mem _ (List.mem_append_right _ (List.mem_append_left _ h))) hown hK hP 88 rfl rfl 1 (by decide) (hts (.fieldLink RX8 26 "SagMemory$Story" "plan" "LSagMemory$Plan;") (wl_mem 14 rfl)) (fun _ h9 => h9) rfl dX8_step_73 ?_
                refine va_get (D := (dC, dI)) (ci := 3) (v := .ref (qP 2)) (C := RX3) (T := TX3) (N := 4) hx hb hts (fun w h => List.mem_cons_of_mem _ (List.mem_append_right _ (List.mem_append_right _ (List.mem_append_right _ (List.mem_append_right _ (List.mem_append_right _ (List.mem_append_left _ h))))))) hown hK hP 98 rfl rfl 1 (by decide) (hts (.fieldLink RX8 64 "SagMemory$Plan" "ways" "[I") (wl_mem 20 rfl)) (fun _ h9 => h9) rfl dX8_step_76 ?_
                refine lv_iload_n hx hb dX8_step_79 rfl (lv_at hl 1 rfl) ?_
                refine va_iald hx hb hK hP 100 0 rfl rfl (vp_in_iff.mpr ⟨by omega, by omega⟩) dX8_step_80 ?_
                refine lv_topi (fun xz609 exz609 => ?_)
                refine lv_aload_n hx hb dX8_step_81 rfl (lv_at hl 0 rfl) ?_
                refine va_get (D := (dC, dI)) (ci := 8) (v := .ref (qP 0)) (C := RX8) (T := TX8) (N := 4) hx hb hts (fun w h => List.mem_cons_of_mem _ (List.mem_append_right _ (List.mem_append_left _ h))) hown hK hP 88 rfl rfl 1 (by decide) (hts (.fieldLink RX8 26 "SagMemory$Story" "plan" "LSagMemory$Plan;") (wl_mem 14 rfl)) (fun _ h9 => h9) rfl dX8_step_82 ?_
                refine va_get (D := (dC, dI)) (ci := 3) (v := .ref (qP 1)) (C := RX3) (T := TX3) (N := 4) hx hb hts (fun w h => List.mem_cons_of_mem _ (List.mem_append_right _ (List.mem_append_right _ (List.mem_append_right _ (List.mem_append_right _ (List.mem_append_right _ (List.mem_append_left _ h))))))) hown hK hP 98 rfl rfl 0 (by decide) (hts (.fieldLink RX8 68 "SagMemory$Plan" "loads" "[I") (wl_mem 21 rfl)) (fun _ h9 => h9) rfl dX8_step_85 ?_
                refine lv_iload_n hx hb dX8_step_88 rfl (lv_at hl 1 rfl) ?_
                refine va_iald hx hb hK hP 99 0 rfl rfl (vp_in_iff.mpr ⟨by omega, by omega⟩) dX8_step_89 ?_
                refine lv_topi (fun xz610 exz610 => ?_)
                have bxz610 : 0 ≤ xz610.toInt ∧ xz610.toInt ≤ 99 := by rw [exz610]; exact (heP 0) _
                refine lv_aload_n hx hb dX8_step_90 rfl (lv_at hl 0 rfl) ?_
                refine va_get (D := (dC, dI)) (ci := 8) (v := .ref (qP 0)) (C := RX8) (T := TX8) (N := 4) hx hb hts (fun w h => List.mem_cons_of_mem _ (List.mem_append_right _ (List.mem_append_left _ h))) hown hK hP 88 rfl rfl 1 (by decide) (hts (.fieldLink RX8 26 "SagMemory$Story" "plan" "LSagMemory$Plan;") (wl_mem 14 rfl)) (fun _ h9 => h9) rfl dX8_step_91 ?_
                refine va_get (D := (dC, dI)) (ci := 3) (v := .int (vP 0)) (C := RX3) (T := TX3) (N := 4) hx hb hts (fun w h => List.mem_cons_of_mem _ (List.mem_append_right _ (List.mem_append_right _ (List.mem_append_right _ (List.mem_append_right _ (List.mem_append_right _ (List.mem_append_left _ h))))))) hown hK hP 98 rfl rfl 2 (by decide) (hts (.fieldLink RX8 71 "SagMemory$Plan" "law" "I") (wl_mem 22 rfl)) (fun _ h9 => h9) rfl dX8_step_94 ?_
                have hPc := hP.sub (ws' := (List.flatten [(wState (sY 7) k (vz607 7) (nz606 7) (az605 7))] ++ List.flatten [(wValley qV k vV bV cV wV aV eV)])) [77, 78, 79, 80, 81, 82, 83, 84, 85, 86, 87, 90, 91, 92, 93, 94, 95, 96, 97] rfl
                have hC : [77, 78, 79, 80, 81, 82, 83, 84, 85, 86, 87, 90, 91, 92, 93, 94, 95, 96, 97].map (fun i => (List.flatten [(wState (sY 0) k (vz607 0) (nz606 0) (az605 0)), (wState (sY 1) k (vz607 1) (nz606 1) (az605 1)), (wState (sY 2) k (vz607 2) (nz606 2) (az605 2)), (wState (sY 3) k (vz607 3) (nz606 3) (az605 3)), (wState (sY 4) k (vz607 4) (nz606 4) (az605 4)), (wState (sY 5) k (vz607 5) (nz606 5) (az605 5)), (wState (sY 6) k (vz607 6) (nz606 6) (az605 6)), (wState (sY 7) k (vz607 7) (nz606 7) (az605 7))] ++ List.flatten [(wStoO qY k (qV 0) (qP 0) (sY 0 0) (sY 1 0) (sY 2 0) (sY 3 0) (sY 4 0) (sY 5 0) (sY 6 0) (sY 7 0)), (wValley qV k vV bV cV wV aV eV), (wPlan qP k vP aP eP)])[i]?) = (List.flatten [(wState (sY 7) k (vz607 7) (nz606 7) (az605 7))] ++ List.flatten [(wValley qV k vV bV cV wV aV eV)]).map some := rfl
                have hDc := hD.sub [77, 78, 79, 80, 81, 82, 83, 84, 85, 86, 87, 90, 91, 92, 93, 94, 95, 96, 97] (by decide) hC
                have hFc := va_free hD hS hA [77, 78, 79, 80, 81, 82, 83, 84, 85, 86, 87, 90, 91, 92, 93, 94, 95, 96, 97] hC
                refine va_callv (va_runV (As := [.ref (qV 0), .int p2, .int xz609, .int xz610, .int (vP 0)]) (rest := []) ⟨hx, hb, hml, hown, hts⟩ (c_X7_meet l dC dI k H.size (sY 7) (vz607 7) (nz606 7) (az605 7) qV vV bV cV wV aV eV p2 xz609 xz610 (vP 0) (hnz606 7) hbV hcV hwV heV (by show 0 ≤ xz610.toInt ∧ xz610.toInt ≤ 99; omega)) (cwV 5 hts (gk_V (wl_mem 23 rfl) (wl_mem 24 rfl) (wl_mem 25 rfl) (wl_mem 13 rfl) (fun w h => List.mem_cons_of_mem _ (List.mem_append_right _ (List.mem_append_right _ (List.mem_append_right _ (List.mem_append_right _ (List.mem_append_right _ (List.mem_append_right _ (List.mem_append_right _ (List.mem_append_right _ (List.mem_append_left _ h)))))))))) wkg_c_X7_meet) rfl rfl rfl (by decide +kernel) ⟨Nat.le_of_ble_eq_true rfl, Nat.le_of_ble_eq_true rfl⟩) ⟨fun a U g mk q => by obtain ⟨q0, q1, qP, qK, qD⟩ := q; exact ⟨q0, q1, qP, va_K.moved (u := U) (U := U.calling g mk a) (Vm.Alike.refl U.vm) qK, qD⟩, va_recv hK hPc (ci := 7) (q0 := 0) rfl rfl, fun U hU hW => ⟨rfl, by rw [hU], by rw [hU]; exact hPc, va_K.moved hW.alike hK, hDc.weaken (fun _ _ _ _ => trivial)⟩⟩ rfl rfl hl.1 rfl (lv_room (Nat.le_of_ble_eq_true rfl)) dX8_step_97 ⟨Nat.le_of_ble_eq_true rfl, Nat.le_of_ble_eq_true rfl⟩) hS (fun q _ h => hFc q h) hFc (fun u t H1 locs ht hvm gz611 hB hz1 hk1 hS => ?_)
                obtain ⟨vz613, nz614, az615, hnz614, hP1⟩ := hB
                rw [ht] at hP1
                obtain ⟨hP, hD⟩ := w_callR hP hD hk1 hP1 [7] rfl rfl (wk_memC [9] rfl) rfl [none, none, none, none, none, none, none, some 0] rfl rfl
                clear hPc hC hDc hFc hk1 hP1
                generalize H1 = H at hP hS ⊢
                have hP : va_P (dC, dI) vwCl (List.flatten [(wState (sY 0) k (vz607 0) (nz606 0) (az605 0)), (wState (sY 1) k (vz607 1) (nz606 1) (az605 1)), (wState (sY 2) k (vz607 2) (nz606 2) (az605 2)), (wState (sY 3) k (vz607 3) (nz606 3) (az605 3)), (wState (sY 4) k (vz607 4) (nz606 4) (az605 4)), (wState (sY 5) k (vz607 5) (nz606 5) (az605 5)), (wState (sY 6) k (vz607 6) (nz606 6) (az605 6)), (wState (sY 7) k vz613 nz614 az615)] ++ List.flatten [(wStoO qY k (qV 0) (qP 0) (sY 0 0) (sY 1 0) (sY 2 0) (sY 3 0) (sY 4 0) (sY 5 0) (sY 6 0) (sY 7 0)), (wValley qV k vV bV cV wV aV eV), (wPlan qP k vP aP eP)]) H := hP
                have hD : va_D A (List.flatten [(wState (sY 0) k (vz607 0) (nz606 0) (az605 0)), (wState (sY 1) k (vz607 1) (nz606 1) (az605 1)), (wState (sY 2) k (vz607 2) (nz606 2) (az605 2)), (wState (sY 3) k (vz607 3) (nz606 3) (az605 3)), (wState (sY 4) k (vz607 4) (nz606 4) (az605 4)), (wState (sY 5) k (vz607 5) (nz606 5) (az605 5)), (wState (sY 6) k (vz607 6) (nz606 6) (az605 6)), (wState (sY 7) k vz613 nz614 az615)] ++ List.flatten [(wStoO qY k (qV 0) (qP 0) (sY 0 0) (sY 1 0) (sY 2 0) (sY 3 0) (sY 4 0) (sY 5 0) (sY 6 0) (sY 7 0)), (wValley qV k vV bV cV wV aV eV), (wPlan qP k vP aP eP)]) := hD
                refine W.widen (k := 0) (n := 0) (Nat.le_refl 0) (Nat.le_refl 0) ?_
                rw [hQ]
                exact W.vret hx hb hr (fun t ht hW => ⟨⟨(), rfl, trivial, (va_up vz607 7 vz613), (va_up nz606 7 nz614), (va_up az605 7 az615), (rgf_up hnz606 hnz614), by rw [ht]; exact hP⟩, hS.F ht⟩) hS.2.2 dX8_step_100
              refine lv_if_eq (tgt := 66) hx hb dX8_step_52 (by decide) (fun cz616 => ?_) (fun cz616 => ?_)
              · skip
                have zz617 : xz596.toInt = (0 : Int) := zi_eq.mp cz616
                exact ct66_kz608 H locs ls (va_up aY 7 az594) (va_up nY 7 nz593) (va_up vY 7 vz592)  (rgf_up hnY hnz593) hP hD hS (lv_sub hl [1, 3, 0] rfl)
              · skip
                have zz618 : ¬ xz596.toInt = (0 : Int) := fun h9 => cz616 (zi_eq.mpr h9)
                refine lv_aload_n hx hb dX8_step_55 rfl (lv_at hl 0 rfl) ?_
                refine lv_aload_n hx hb dX8_step_56 rfl (lv_at hl 1 rfl) ?_
                refine va_get (D := (dC, dI)) (ci := 8) (v := .ref (qV 0)) (C := RX8) (T := TX8) (N := 4) hx hb hts (fun w h => List.mem_cons_of_mem _ (List.mem_append_right _ (List.mem_append_left _ h))) hown hK hP 88 rfl rfl 0 (by decide) (hts (.fieldLink RX8 22 "SagMemory$Story" "valley" "LSagMemory$Valley;") (wl_mem 0 rfl)) (fun _ h9 => h9) rfl dX8_step_57 ?_
                refine va_get (D := (dC, dI)) (ci := 10) (v := .int (vV 2)) (C := RX10) (T := TX10) (N := 16) hx hb hts (fun w h => List.mem_cons_of_mem _ (List.mem_append_right _ (List.mem_append_right _ (List.mem_append_right _ (List.mem_append_right _ (List.mem_append_right _ (List.mem_append_right _ (List.mem_append_left _ h)))))))) hown hK hP 90 rfl rfl 9 (by decide) (hts (.fieldLink RX8 57 "SagMemory$Valley" "frost" "I") (wl_mem 16 rfl)) (fun _ h9 => h9) rfl dX8_step_60 ?_
                have hPc := hP.sub (ws' := (List.flatten [(wState (sY 7) k vz592 nz593 az594)] ++ List.flatten ([] : List va_W))) [77, 78, 79, 80, 81, 82, 83, 84, 85, 86, 87] rfl
                have hC : [77, 78, 79, 80, 81, 82, 83, 84, 85, 86, 87].map (fun i => (List.flatten [(wState (sY 0) k (vY 0) (nY 0) (aY 0)), (wState (sY 1) k (vY 1) (nY 1) (aY 1)), (wState (sY 2) k (vY 2) (nY 2) (aY 2)), (wState (sY 3) k (vY 3) (nY 3) (aY 3)), (wState (sY 4) k (vY 4) (nY 4) (aY 4)), (wState (sY 5) k (vY 5) (nY 5) (aY 5)), (wState (sY 6) k (vY 6) (nY 6) (aY 6)), (wState (sY 7) k vz592 nz593 az594)] ++ List.flatten [(wStoO qY k (qV 0) (qP 0) (sY 0 0) (sY 1 0) (sY 2 0) (sY 3 0) (sY 4 0) (sY 5 0) (sY 6 0) (sY 7 0)), (wValley qV k vV bV cV wV aV eV), (wPlan qP k vP aP eP)])[i]?) = (List.flatten [(wState (sY 7) k vz592 nz593 az594)] ++ List.flatten ([] : List va_W)).map some := rfl
                have hDc := hD.sub [77, 78, 79, 80, 81, 82, 83, 84, 85, 86, 87] (by decide) hC
                have hFc := va_free hD hS hA [77, 78, 79, 80, 81, 82, 83, 84, 85, 86, 87] hC
                refine va_callv (va_runV (As := [.int (vV 2)]) (rest := []) ⟨hx, hb, hml, hown, hts⟩ (c_X7_chill l dC dI k H.size (sY 7) vz592 nz593 az594 (vV 2) hnz593) (cwV 1 hts (gk_V (wl_mem 17 rfl) (wl_mem 18 rfl) (wl_mem 19 rfl) (wl_mem 13 rfl) (fun w h => List.mem_cons_of_mem _ (List.mem_append_right _ (List.mem_append_right _ (List.mem_append_right _ (List.mem_append_right _ (List.mem_append_right _ (List.mem_append_right _ (List.mem_append_right _ (List.mem_append_left _ h))))))))) wkg_c_X7_chill) rfl rfl rfl (by decide +kernel) ⟨Nat.le_of_ble_eq_true rfl, Nat.le_of_ble_eq_true rfl⟩) ⟨fun a U g mk q => by obtain ⟨q0, q1, qP, qK, qD⟩ := q; exact ⟨q0, q1, qP, va_K.moved (u := U) (U := U.calling g mk a) (Vm.Alike.refl U.vm) qK, qD⟩, va_recv hK hPc (ci := 7) (q0 := 0) rfl rfl, fun U hU hW => ⟨rfl, by rw [hU], by rw [hU]; exact hPc, va_K.moved hW.alike hK, hDc.weaken (fun _ _ _ _ => trivial)⟩⟩ rfl rfl hl.1 rfl (lv_room (Nat.le_of_ble_eq_true rfl)) dX8_step_63 ⟨Nat.le_of_ble_eq_true rfl, Nat.le_of_ble_eq_true rfl⟩) hS (fun q _ h => hFc q h) hFc (fun u t H1 locs ht hvm gz619 hB hz1 hk1 hS => ?_)
                obtain ⟨vz621, nz622, az623, hnz622, hP1⟩ := hB
                rw [ht] at hP1
                obtain ⟨hP, hD⟩ := w_callR hP hD hk1 hP1 [7] rfl rfl (fun _ h => absurd h List.not_mem_nil) rfl [none, none, none, none, none, none, none, some 0] rfl rfl
                clear hPc hC hDc hFc hk1 hP1
                generalize H1 = H at hP hS ⊢
                have hP : va_P (dC, dI) vwCl (List.flatten [(wState (sY 0) k (vY 0) (nY 0) (aY 0)), (wState (sY 1) k (vY 1) (nY 1) (aY 1)), (wState (sY 2) k (vY 2) (nY 2) (aY 2)), (wState (sY 3) k (vY 3) (nY 3) (aY 3)), (wState (sY 4) k (vY 4) (nY 4) (aY 4)), (wState (sY 5) k (vY 5) (nY 5) (aY 5)), (wState (sY 6) k (vY 6) (nY 6) (aY 6)), (wState (sY 7) k vz621 nz622 az623)] ++ List.flatten [(wStoO qY k (qV 0) (qP 0) (sY 0 0) (sY 1 0) (sY 2 0) (sY 3 0) (sY 4 0) (sY 5 0) (sY 6 0) (sY 7 0)), (wValley qV k vV bV cV wV aV eV), (wPlan qP k vP aP eP)]) H := hP
                have hD : va_D A (List.flatten [(wState (sY 0) k (vY 0) (nY 0) (aY 0)), (wState (sY 1) k (vY 1) (nY 1) (aY 1)), (wState (sY 2) k (vY 2) (nY 2) (aY 2)), (wState (sY 3) k (vY 3) (nY 3) (aY 3)), (wState (sY 4) k (vY 4) (nY 4) (aY 4)), (wState (sY 5) k (vY 5) (nY 5) (aY 5)), (wState (sY 6) k (vY 6) (nY 6) (aY 6)), (wState (sY 7) k vz621 nz622 az623)] ++ List.flatten [(wStoO qY k (qV 0) (qP 0) (sY 0 0) (sY 1 0) (sY 2 0) (sY 3 0) (sY 4 0) (sY 5 0) (sY 6 0) (sY 7 0)), (wValley qV k vV bV cV wV aV eV), (wPlan qP k vP aP eP)]) := hD
                refine W.widen (k := 0) (n := 0) (Nat.le_refl 0) (Nat.le_refl 0) ?_
                exact ct66_kz608 H locs ls (va_up aY 7 az623) (va_up nY 7 nz622) (va_up vY 7 vz621)  (rgf_up hnY hnz622) hP hD hS (lv_sub hl [1, 3, 0] rfl)
            · skip
              have zz624 : ¬ xz542.toInt < (0 : Int) := fun h9 => cz566 (zi_lt.mpr h9)
              have zz625 : ¬ (7 : Int) ≤ xz542.toInt := fun h9 => cz567 (zi_le.mpr h9)
              have zz626 : xz542.toInt = (6 : Int) := zi_eq.mp cz568
              omega
        · skip
          exact absurd cz38 (by decide)
