def wk_c_X12_in : List Cond := .code yX12_in cX12_in 6 (some .boolean) :: ([] ++ ([]))
theorem wkg_c_X12_in : wk_c_X12_in.all goodWord = true := by decide +kernel
set_option maxHeartbeats 4000000 in
set_option maxRecDepth 100000 in
theorem c_X12_in (l : Launch) (dC : Nat → ClassId) (dI : Nat → Nat → Nat) (k : Nat → ClassId) (p1 : Int64) (p2 : Int64) (p3 : Int64) : Met l yX12_in wk_c_X12_in ({ frames := 0, cells := 0, slots := 0, locals := 0 }) (va_Pc [.long p1, .long p2, .long p3] (fun U => va_P (dC, dI) vwCl (List.flatten ([] : List va_W)) U.heap ∧ va_K (dC, dI) vwCl (tK k) U)) (vp_Si (fun r : Int32 => (r = 0 ∧ p1 < p2) ∨ (r = 0 ∧ ¬ p1 < p2 ∧ p3 < p1) ∨ (r = 1 ∧ ¬ p1 < p2 ∧ ¬ p3 < p1))) 0 0 (fun _ => False) := by
  refine Met.ofW (cc := cX12_in) (maxL := 6) (ret := (some .boolean)) (by decide) rfl ?_
  intro p e s m args below meth c s₁ B hml hv
  obtain ⟨rfl, hP, hK⟩ := hv
  have hx := B.exec
  have hb := B.bytes
  have hr := B.returns
  have hts := atoms_spec (ws := wk_c_X12_in) B.pre
  have hown : s.vm.findClass RX12 = some m.cls := findClass_of_methodNamed B.named
  have hlocks := B.notSynchronized
  have hP : va_P (dC, dI) vwCl (List.flatten ([] : List va_W)) s.heap := hP
  have hl := lv_entry ([.long p1, .long p2, .long p3]) (n := 6) (Nat.le_of_ble_eq_true rfl)
  rw [lg_entry_eq]
  generalize (lg_sl ([.long p1, .long p2, .long p3]) ++ List.replicate (6 - (lg_sl ([.long p1, .long p2, .long p3])).length) Slot.unset).toArray = ls at hl ⊢
  have hl : lv_has ls 6 [(0, .long p1), (2, .long p2), (4, .long p3)] := hl
  refine w_gen (fun Q hQ => ?_)
  refine lv_lload_n hx hb dX12_in_0 rfl (lv_at hl 0 rfl) ?_
  refine lv_lload_n hx hb dX12_in_1 rfl (lv_at hl 1 rfl) ?_
  refine W.lcmp hx hb dX12_in_2 ?_
  refine lv_if_lt (tgt := 17) hx hb dX12_in_3 (by decide) (fun cz1 => ?_) (fun cz1 => ?_)
  · skip
    rw [lg_cmp_lt] at cz1
    have zz2 : p1.toInt < p2.toInt := zi_ltL.mp cz1
    refine lv_iconst (v := 0) hx hb dX12_in_17 (by decide) ?_
    rw [hQ]
    exact W.zret (v := (0 : Int32)) hx hb hr rfl (fun t ht hW => ⟨(0 : Int32), rfl, Or.inl ⟨rfl, cz1⟩, ht⟩) (fun _ h => absurd h List.not_mem_nil) dX12_in_18
  · skip
    rw [lg_cmp_lt] at cz1
    have zz3 : ¬ p1.toInt < p2.toInt := fun h9 => cz1 (zi_ltL.mpr h9)
    refine lv_lload_n hx hb dX12_in_6 rfl (lv_at hl 0 rfl) ?_
    refine lv_lload hx hb dX12_in_7 (lv_at hl 2 rfl) ?_
    refine W.lcmp hx hb dX12_in_9 ?_
    refine lv_if_gt (tgt := 17) hx hb dX12_in_10 (by decide) (fun cz4 => ?_) (fun cz4 => ?_)
    · skip
      rw [lg_cmp_gt] at cz4
      have zz5 : p3.toInt < p1.toInt := zi_ltL.mp cz4
      refine lv_iconst (v := 0) hx hb dX12_in_17 (by decide) ?_
      rw [hQ]
      exact W.zret (v := (0 : Int32)) hx hb hr rfl (fun t ht hW => ⟨(0 : Int32), rfl, Or.inr (Or.inl ⟨rfl, cz1, cz4⟩), ht⟩) (fun _ h => absurd h List.not_mem_nil) dX12_in_18
    · skip
      rw [lg_cmp_gt] at cz4
      have zz6 : ¬ p3.toInt < p1.toInt := fun h9 => cz4 (zi_ltL.mpr h9)
      refine lv_iconst (v := 1) hx hb dX12_in_13 (by decide) ?_
      refine lv_goto (tgt := 18) hx hb dX12_in_14 (by decide) ?_
      rw [hQ]
      exact W.zret (v := (1 : Int32)) hx hb hr rfl (fun t ht hW => ⟨(1 : Int32), rfl, Or.inr (Or.inr (⟨rfl, cz1, cz4⟩)), ht⟩) (fun _ h => absurd h List.not_mem_nil) dX12_in_18
def wk_c_X12_isSlot : List Cond := .code yX12_isSlot cX12_isSlot 1 (some .boolean) :: ([.constantLong RX12 119 (3), .methodLink RX12 121 yX12_in, .static yX12_in, .initialized RX12] ++ (wk_c_X12_in ++ []))
theorem wkg_c_X12_isSlot : wk_c_X12_isSlot.all goodWord = true := by decide +kernel
set_option maxHeartbeats 4000000 in
set_option maxRecDepth 100000 in
theorem c_X12_isSlot (l : Launch) (dC : Nat → ClassId) (dI : Nat → Nat → Nat) (k : Nat → ClassId) (p1 : Int32) : Met l yX12_isSlot wk_c_X12_isSlot ({ frames := 1, cells := 0, slots := 0, locals := 25 }) (va_Pc [.int p1] (fun U => va_P (dC, dI) vwCl (List.flatten ([] : List va_W)) U.heap ∧ va_K (dC, dI) vwCl (tK k) U)) (vp_Si (fun r : Int32 => (r = 0 ∧ p1.toInt64 < (0 : Int64)) ∨ (r = 0 ∧ ¬ p1.toInt64 < (0 : Int64) ∧ (3 : Int64) < p1.toInt64) ∨ (r = 1 ∧ ¬ p1.toInt64 < (0 : Int64) ∧ ¬ (3 : Int64) < p1.toInt64))) 0 0 (fun _ => False) := by
  refine Met.ofW (cc := cX12_isSlot) (maxL := 1) (ret := (some .boolean)) (by decide) rfl ?_
  intro p e s m args below meth c s₁ B hml hv
  obtain ⟨rfl, hP, hK⟩ := hv
  have hx := B.exec
  have hb := B.bytes
  have hr := B.returns
  have hts := atoms_spec (ws := wk_c_X12_isSlot) B.pre
  have hown : s.vm.findClass RX12 = some m.cls := findClass_of_methodNamed B.named
  have hlocks := B.notSynchronized
  have hP : va_P (dC, dI) vwCl (List.flatten ([] : List va_W)) s.heap := hP
  have hl := lv_entry ([.int p1]) (n := 1) (Nat.le_of_ble_eq_true rfl)
  rw [lg_entry_eq]
  generalize (lg_sl ([.int p1]) ++ List.replicate (1 - (lg_sl ([.int p1])).length) Slot.unset).toArray = ls at hl ⊢
  have hl : lv_has ls 1 [(0, .int p1)] := hl
  refine w_gen (fun Q hQ => ?_)
  refine lv_iload_n hx hb dX12_isSlot_0 rfl (lv_at hl 0 rfl) ?_
  refine lv_i2l hx hb dX12_isSlot_1 rfl ?_
  refine lv_lconst (v := 0) hx hb dX12_isSlot_2 (by decide) ?_
  refine lv_ldc2 (v := 3) hx hb hown (hts (.constantLong RX12 119 (3)) (wl_mem 0 rfl)) dX12_isSlot_3 ?_
  have hPc : va_P (dC, dI) vwCl (List.flatten ([] : List va_W)) s.heap := fun k q h => by simp at h
  refine vp_callSi (va_Run.run (va_runS (As := [.long p1.toInt64, .long 0, .long 3]) (rest := []) ⟨hx, hb, hml, hown, hts⟩ (c_X12_in l dC dI k p1.toInt64 (0 : Int64) (3 : Int64)) (va_cwS 3 hts (gk_S (wl_mem 1 rfl) (wl_mem 2 rfl) (wl_mem 3 rfl) (fun w h => List.mem_cons_of_mem _ (List.mem_append_right _ (List.mem_append_left _ h))) wkg_c_X12_in) rfl rfl rfl (by decide +kernel) ⟨Nat.le_of_ble_eq_true rfl, Nat.le_of_ble_eq_true rfl⟩) ⟨fun a U g mk q => by obtain ⟨q0, qP, qK⟩ := q; exact ⟨q0, qP, va_K.moved (u := U) (U := U.calling g mk a) (Vm.Alike.refl U.vm) qK⟩, fun U hU hW => ⟨rfl, by rw [hU]; exact hPc, va_K.moved hW.alike hK⟩⟩ rfl rfl hl.1 rfl (lv_room (Nat.le_of_ble_eq_true rfl)) dX12_isSlot_6 ⟨Nat.le_of_ble_eq_true rfl, Nat.le_of_ble_eq_true rfl⟩)) (fun rz2 gz1 => ?_)
  clear hPc
  rcases gz1 with ⟨er, cz3⟩ | ⟨er, cz4, cz5⟩ | ⟨er, cz6, cz7⟩
  · obtain rfl := er.symm
    have zz8 : p1.toInt < (0 : Int) := by have h9 := zi_ltL.mp cz3; simp only [Int32.toInt_toInt64] at h9; exact h9
    rw [hQ]
    exact W.zret (v := (0 : Int32)) hx hb hr rfl (fun t ht hW => ⟨(0 : Int32), rfl, Or.inl ⟨rfl, cz3⟩, ht⟩) (fun _ h => absurd h List.not_mem_nil) dX12_isSlot_9
  · obtain rfl := er.symm
    have zz9 : ¬ p1.toInt < (0 : Int) := by intro h9; apply cz4; rw [zi_ltL]; simp only [Int32.toInt_toInt64]; exact h9
    have zz10 : (3 : Int) < p1.toInt := by have h9 := zi_ltL.mp cz5; simp only [Int32.toInt_toInt64] at h9; exact h9
    rw [hQ]
    exact W.zret (v := (0 : Int32)) hx hb hr rfl (fun t ht hW => ⟨(0 : Int32), rfl, Or.inr (Or.inl ⟨rfl, cz4, cz5⟩), ht⟩) (fun _ h => absurd h List.not_mem_nil) dX12_isSlot_9
  · obtain rfl := er.symm
    have zz11 : ¬ p1.toInt < (0 : Int) := by intro h9; apply cz6; rw [zi_ltL]; simp only [Int32.toInt_toInt64]; exact h9
    have zz12 : ¬ (3 : Int) < p1.toInt := by intro h9; apply cz7; rw [zi_ltL]; simp only [Int32.toInt_toInt64]; exact h9
    rw [hQ]
    exact W.zret (v := (1 : Int32)) hx hb hr rfl (fun t ht hW => ⟨(1 : Int32), rfl, Or.inr (Or.inr (⟨rfl, cz6, cz7⟩)), ht⟩) (fun _ h => absurd h List.not_mem_nil) dX12_isSlot_9
def wk_c_X12_isHalf : List Cond := .code yX12_isHalf cX12_isHalf 1 (some .boolean) :: ([.methodLink RX12 121 yX12_in, .static yX12_in, .initialized RX12] ++ (wk_c_X12_in ++ []))
theorem wkg_c_X12_isHalf : wk_c_X12_isHalf.all goodWord = true := by decide +kernel
set_option maxHeartbeats 4000000 in
set_option maxRecDepth 100000 in
theorem c_X12_isHalf (l : Launch) (dC : Nat → ClassId) (dI : Nat → Nat → Nat) (k : Nat → ClassId) (p1 : Int32) : Met l yX12_isHalf wk_c_X12_isHalf ({ frames := 1, cells := 0, slots := 0, locals := 25 }) (va_Pc [.int p1] (fun U => va_P (dC, dI) vwCl (List.flatten ([] : List va_W)) U.heap ∧ va_K (dC, dI) vwCl (tK k) U)) (vp_Si (fun r : Int32 => (r = 0 ∧ p1.toInt64 < (0 : Int64)) ∨ (r = 0 ∧ ¬ p1.toInt64 < (0 : Int64) ∧ (1 : Int64) < p1.toInt64) ∨ (r = 1 ∧ ¬ p1.toInt64 < (0 : Int64) ∧ ¬ (1 : Int64) < p1.toInt64))) 0 0 (fun _ => False) := by
  refine Met.ofW (cc := cX12_isHalf) (maxL := 1) (ret := (some .boolean)) (by decide) rfl ?_
  intro p e s m args below meth c s₁ B hml hv
  obtain ⟨rfl, hP, hK⟩ := hv
  have hx := B.exec
  have hb := B.bytes
  have hr := B.returns
  have hts := atoms_spec (ws := wk_c_X12_isHalf) B.pre
  have hown : s.vm.findClass RX12 = some m.cls := findClass_of_methodNamed B.named
  have hlocks := B.notSynchronized
  have hP : va_P (dC, dI) vwCl (List.flatten ([] : List va_W)) s.heap := hP
  have hl := lv_entry ([.int p1]) (n := 1) (Nat.le_of_ble_eq_true rfl)
  rw [lg_entry_eq]
  generalize (lg_sl ([.int p1]) ++ List.replicate (1 - (lg_sl ([.int p1])).length) Slot.unset).toArray = ls at hl ⊢
  have hl : lv_has ls 1 [(0, .int p1)] := hl
  refine w_gen (fun Q hQ => ?_)
  refine lv_iload_n hx hb dX12_isHalf_0 rfl (lv_at hl 0 rfl) ?_
  refine lv_i2l hx hb dX12_isHalf_1 rfl ?_
  refine lv_lconst (v := 0) hx hb dX12_isHalf_2 (by decide) ?_
  refine lv_lconst (v := 1) hx hb dX12_isHalf_3 (by decide) ?_
  have hPc : va_P (dC, dI) vwCl (List.flatten ([] : List va_W)) s.heap := fun k q h => by simp at h
  refine vp_callSi (va_Run.run (va_runS (As := [.long p1.toInt64, .long 0, .long 1]) (rest := []) ⟨hx, hb, hml, hown, hts⟩ (c_X12_in l dC dI k p1.toInt64 (0 : Int64) (1 : Int64)) (va_cwS 3 hts (gk_S (wl_mem 0 rfl) (wl_mem 1 rfl) (wl_mem 2 rfl) (fun w h => List.mem_cons_of_mem _ (List.mem_append_right _ (List.mem_append_left _ h))) wkg_c_X12_in) rfl rfl rfl (by decide +kernel) ⟨Nat.le_of_ble_eq_true rfl, Nat.le_of_ble_eq_true rfl⟩) ⟨fun a U g mk q => by obtain ⟨q0, qP, qK⟩ := q; exact ⟨q0, qP, va_K.moved (u := U) (U := U.calling g mk a) (Vm.Alike.refl U.vm) qK⟩, fun U hU hW => ⟨rfl, by rw [hU]; exact hPc, va_K.moved hW.alike hK⟩⟩ rfl rfl hl.1 rfl (lv_room (Nat.le_of_ble_eq_true rfl)) dX12_isHalf_4 ⟨Nat.le_of_ble_eq_true rfl, Nat.le_of_ble_eq_true rfl⟩)) (fun rz2 gz1 => ?_)
  clear hPc
  rcases gz1 with ⟨er, cz3⟩ | ⟨er, cz4, cz5⟩ | ⟨er, cz6, cz7⟩
  · obtain rfl := er.symm
    have zz8 : p1.toInt < (0 : Int) := by have h9 := zi_ltL.mp cz3; simp only [Int32.toInt_toInt64] at h9; exact h9
    rw [hQ]
    exact W.zret (v := (0 : Int32)) hx hb hr rfl (fun t ht hW => ⟨(0 : Int32), rfl, Or.inl ⟨rfl, cz3⟩, ht⟩) (fun _ h => absurd h List.not_mem_nil) dX12_isHalf_7
  · obtain rfl := er.symm
    have zz9 : ¬ p1.toInt < (0 : Int) := by intro h9; apply cz4; rw [zi_ltL]; simp only [Int32.toInt_toInt64]; exact h9
    have zz10 : (1 : Int) < p1.toInt := by have h9 := zi_ltL.mp cz5; simp only [Int32.toInt_toInt64] at h9; exact h9
    rw [hQ]
    exact W.zret (v := (0 : Int32)) hx hb hr rfl (fun t ht hW => ⟨(0 : Int32), rfl, Or.inr (Or.inl ⟨rfl, cz4, cz5⟩), ht⟩) (fun _ h => absurd h List.not_mem_nil) dX12_isHalf_7
  · obtain rfl := er.symm
    have zz11 : ¬ p1.toInt < (0 : Int) := by intro h9; apply cz6; rw [zi_ltL]; simp only [Int32.toInt_toInt64]; exact h9
    have zz12 : ¬ (1 : Int) < p1.toInt := by intro h9; apply cz7; rw [zi_ltL]; simp only [Int32.toInt_toInt64]; exact h9
    rw [hQ]
    exact W.zret (v := (1 : Int32)) hx hb hr rfl (fun t ht hW => ⟨(1 : Int32), rfl, Or.inr (Or.inr (⟨rfl, cz6, cz7⟩)), ht⟩) (fun _ h => absurd h List.not_mem_nil) dX12_isHalf_7
def wk_c_X12_isSeed : List Cond := .code yX12_isSeed cX12_isSeed 1 (some .boolean) :: ([.constantLong RX12 492 (2000000000), .methodLink RX12 121 yX12_in, .static yX12_in, .initialized RX12] ++ (wk_c_X12_in ++ []))
theorem wkg_c_X12_isSeed : wk_c_X12_isSeed.all goodWord = true := by decide +kernel
set_option maxHeartbeats 4000000 in
set_option maxRecDepth 100000 in
theorem c_X12_isSeed (l : Launch) (dC : Nat → ClassId) (dI : Nat → Nat → Nat) (k : Nat → ClassId) (p1 : Int32) : Met l yX12_isSeed wk_c_X12_isSeed ({ frames := 1, cells := 0, slots := 0, locals := 25 }) (va_Pc [.int p1] (fun U => va_P (dC, dI) vwCl (List.flatten ([] : List va_W)) U.heap ∧ va_K (dC, dI) vwCl (tK k) U)) (vp_Si (fun r : Int32 => (r = 0 ∧ p1.toInt64 < (0 : Int64)) ∨ (r = 0 ∧ ¬ p1.toInt64 < (0 : Int64) ∧ (2000000000 : Int64) < p1.toInt64) ∨ (r = 1 ∧ ¬ p1.toInt64 < (0 : Int64) ∧ ¬ (2000000000 : Int64) < p1.toInt64))) 0 0 (fun _ => False) := by
  refine Met.ofW (cc := cX12_isSeed) (maxL := 1) (ret := (some .boolean)) (by decide) rfl ?_
  intro p e s m args below meth c s₁ B hml hv
  obtain ⟨rfl, hP, hK⟩ := hv
  have hx := B.exec
  have hb := B.bytes
  have hr := B.returns
  have hts := atoms_spec (ws := wk_c_X12_isSeed) B.pre
  have hown : s.vm.findClass RX12 = some m.cls := findClass_of_methodNamed B.named
  have hlocks := B.notSynchronized
  have hP : va_P (dC, dI) vwCl (List.flatten ([] : List va_W)) s.heap := hP
  have hl := lv_entry ([.int p1]) (n := 1) (Nat.le_of_ble_eq_true rfl)
  rw [lg_entry_eq]
  generalize (lg_sl ([.int p1]) ++ List.replicate (1 - (lg_sl ([.int p1])).length) Slot.unset).toArray = ls at hl ⊢
  have hl : lv_has ls 1 [(0, .int p1)] := hl
  refine w_gen (fun Q hQ => ?_)
  refine lv_iload_n hx hb dX12_isSeed_0 rfl (lv_at hl 0 rfl) ?_
  refine lv_i2l hx hb dX12_isSeed_1 rfl ?_
  refine lv_lconst (v := 0) hx hb dX12_isSeed_2 (by decide) ?_
  refine lv_ldc2 (v := 2000000000) hx hb hown (hts (.constantLong RX12 492 (2000000000)) (wl_mem 0 rfl)) dX12_isSeed_3 ?_
  have hPc : va_P (dC, dI) vwCl (List.flatten ([] : List va_W)) s.heap := fun k q h => by simp at h
  refine vp_callSi (va_Run.run (va_runS (As := [.long p1.toInt64, .long 0, .long 2000000000]) (rest := []) ⟨hx, hb, hml, hown, hts⟩ (c_X12_in l dC dI k p1.toInt64 (0 : Int64) (2000000000 : Int64)) (va_cwS 3 hts (gk_S (wl_mem 1 rfl) (wl_mem 2 rfl) (wl_mem 3 rfl) (fun w h => List.mem_cons_of_mem _ (List.mem_append_right _ (List.mem_append_left _ h))) wkg_c_X12_in) rfl rfl rfl (by decide +kernel) ⟨Nat.le_of_ble_eq_true rfl, Nat.le_of_ble_eq_true rfl⟩) ⟨fun a U g mk q => by obtain ⟨q0, qP, qK⟩ := q; exact ⟨q0, qP, va_K.moved (u := U) (U := U.calling g mk a) (Vm.Alike.refl U.vm) qK⟩, fun U hU hW => ⟨rfl, by rw [hU]; exact hPc, va_K.moved hW.alike hK⟩⟩ rfl rfl hl.1 rfl (lv_room (Nat.le_of_ble_eq_true rfl)) dX12_isSeed_6 ⟨Nat.le_of_ble_eq_true rfl, Nat.le_of_ble_eq_true rfl⟩)) (fun rz2 gz1 => ?_)
  clear hPc
  rcases gz1 with ⟨er, cz3⟩ | ⟨er, cz4, cz5⟩ | ⟨er, cz6, cz7⟩
  · obtain rfl := er.symm
    have zz8 : p1.toInt < (0 : Int) := by have h9 := zi_ltL.mp cz3; simp only [Int32.toInt_toInt64] at h9; exact h9
    rw [hQ]
    exact W.zret (v := (0 : Int32)) hx hb hr rfl (fun t ht hW => ⟨(0 : Int32), rfl, Or.inl ⟨rfl, cz3⟩, ht⟩) (fun _ h => absurd h List.not_mem_nil) dX12_isSeed_9
  · obtain rfl := er.symm
    have zz9 : ¬ p1.toInt < (0 : Int) := by intro h9; apply cz4; rw [zi_ltL]; simp only [Int32.toInt_toInt64]; exact h9
    have zz10 : (2000000000 : Int) < p1.toInt := by have h9 := zi_ltL.mp cz5; simp only [Int32.toInt_toInt64] at h9; exact h9
    rw [hQ]
    exact W.zret (v := (0 : Int32)) hx hb hr rfl (fun t ht hW => ⟨(0 : Int32), rfl, Or.inr (Or.inl ⟨rfl, cz4, cz5⟩), ht⟩) (fun _ h => absurd h List.not_mem_nil) dX12_isSeed_9
  · obtain rfl := er.symm
    have zz11 : ¬ p1.toInt < (0 : Int) := by intro h9; apply cz6; rw [zi_ltL]; simp only [Int32.toInt_toInt64]; exact h9
    have zz12 : ¬ (2000000000 : Int) < p1.toInt := by intro h9; apply cz7; rw [zi_ltL]; simp only [Int32.toInt_toInt64]; exact h9
    rw [hQ]
    exact W.zret (v := (1 : Int32)) hx hb hr rfl (fun t ht hW => ⟨(1 : Int32), rfl, Or.inr (Or.inr (⟨rfl, cz6, cz7⟩)), ht⟩) (fun _ h => absurd h List.not_mem_nil) dX12_isSeed_9
def wk_c_X12_cut : List Cond := .code yX12_cut cX12_cut 3 (some .long) :: ([] ++ ([]))
theorem wkg_c_X12_cut : wk_c_X12_cut.all goodWord = true := by decide +kernel
set_option maxHeartbeats 4000000 in
set_option maxRecDepth 100000 in
theorem c_X12_cut (l : Launch) (dC : Nat → ClassId) (dI : Nat → Nat → Nat) (k : Nat → ClassId) (p1 : Int64) (p2 : Int32) : Met l yX12_cut wk_c_X12_cut ({ frames := 0, cells := 0, slots := 0, locals := 0 }) (va_Pc [.long p1, .int p2] (fun U => va_P (dC, dI) vwCl (List.flatten ([] : List va_W)) U.heap ∧ va_K (dC, dI) vwCl (tK k) U)) (vp_Sl (fun r : Int64 => True)) 0 0 (fun _ => False) := by
  refine Met.ofW (cc := cX12_cut) (maxL := 3) (ret := (some .long)) (by decide) rfl ?_
  intro p e s m args below meth c s₁ B hml hv
  obtain ⟨rfl, hP, hK⟩ := hv
  have hx := B.exec
  have hb := B.bytes
  have hr := B.returns
  have hts := atoms_spec (ws := wk_c_X12_cut) B.pre
  have hown : s.vm.findClass RX12 = some m.cls := findClass_of_methodNamed B.named
  have hlocks := B.notSynchronized
  have hP : va_P (dC, dI) vwCl (List.flatten ([] : List va_W)) s.heap := hP
  have hl := lv_entry ([.long p1, .int p2]) (n := 3) (Nat.le_of_ble_eq_true rfl)
  rw [lg_entry_eq]
  generalize (lg_sl ([.long p1, .int p2]) ++ List.replicate (3 - (lg_sl ([.long p1, .int p2])).length) Slot.unset).toArray = ls at hl ⊢
  have hl : lv_has ls 3 [(0, .long p1), (2, .int p2)] := hl
  refine w_gen (fun Q hQ => ?_)
  refine lv_iload_n hx hb dX12_cut_0 rfl (lv_at hl 1 rfl) ?_
  refine lv_if_ne (tgt := 11) hx hb dX12_cut_1 (by decide) (fun cz1 => ?_) (fun cz1 => ?_)
  · skip
    have zz2 : ¬ p2.toInt = (0 : Int) := fun h9 => cz1 (zi_eq.mpr h9)
    refine lv_iload_n hx hb dX12_cut_11 rfl (lv_at hl 1 rfl) ?_
    refine lv_iconst (v := 1) hx hb dX12_cut_12 (by decide) ?_
    refine lv_icmp_ne (tgt := 23) hx hb dX12_cut_13 (by decide) (fun cz3 => ?_) (fun cz3 => ?_)
    · skip
      have zz4 : ¬ p2.toInt = (1 : Int) := fun h9 => cz3 (zi_eq.mpr h9)
      refine lv_iload_n hx hb dX12_cut_23 rfl (lv_at hl 1 rfl) ?_
      refine lv_iconst (v := 2) hx hb dX12_cut_24 (by decide) ?_
      refine lv_icmp_ne (tgt := 34) hx hb dX12_cut_25 (by decide) (fun cz5 => ?_) (fun cz5 => ?_)
      · skip
        have zz6 : ¬ p2.toInt = (2 : Int) := fun h9 => cz5 (zi_eq.mpr h9)
        refine lv_lload_n hx hb dX12_cut_34 rfl (lv_at hl 0 rfl) ?_
        rw [hQ]
        exact W.lret (v := p1) hx hb hr (fun t ht hW => ⟨p1, rfl, trivial, ht⟩) (fun _ h => absurd h List.not_mem_nil) dX12_cut_35
      · skip
        have zz7 : p2.toInt = (2 : Int) := zi_eq.mp cz5
        refine lv_lload_n hx hb dX12_cut_28 rfl (lv_at hl 0 rfl) ?_
        refine lv_l2i hx hb dX12_cut_29 rfl ?_
        refine lv_topi (fun xz8 exz8 => ?_)
        refine lv_i2l hx hb dX12_cut_30 rfl ?_
        refine lv_goto (tgt := 35) hx hb dX12_cut_31 (by decide) ?_
        rw [hQ]
        exact W.lret (v := xz8.toInt64) hx hb hr (fun t ht hW => ⟨xz8.toInt64, rfl, trivial, ht⟩) (fun _ h => absurd h List.not_mem_nil) dX12_cut_35
    · skip
      have zz9 : p2.toInt = (1 : Int) := zi_eq.mp cz3
      refine lv_lload_n hx hb dX12_cut_16 rfl (lv_at hl 0 rfl) ?_
      refine lv_l2i hx hb dX12_cut_17 rfl ?_
      refine lv_topi (fun xz10 exz10 => ?_)
      refine lv_i2s hx hb dX12_cut_18 rfl ?_
      refine lv_topi (fun xz11 exz11 => ?_)
      refine lv_i2l hx hb dX12_cut_19 rfl ?_
      refine lv_goto (tgt := 35) hx hb dX12_cut_20 (by decide) ?_
      rw [hQ]
      exact W.lret (v := xz11.toInt64) hx hb hr (fun t ht hW => ⟨xz11.toInt64, rfl, trivial, ht⟩) (fun _ h => absurd h List.not_mem_nil) dX12_cut_35
  · skip
    have zz12 : p2.toInt = (0 : Int) := zi_eq.mp cz1
    refine lv_lload_n hx hb dX12_cut_4 rfl (lv_at hl 0 rfl) ?_
    refine lv_l2i hx hb dX12_cut_5 rfl ?_
    refine lv_topi (fun xz13 exz13 => ?_)
    refine lv_i2b hx hb dX12_cut_6 rfl ?_
    refine lv_topi (fun xz14 exz14 => ?_)
    refine lv_i2l hx hb dX12_cut_7 rfl ?_
    refine lv_goto (tgt := 35) hx hb dX12_cut_8 (by decide) ?_
    rw [hQ]
    exact W.lret (v := xz14.toInt64) hx hb hr (fun t ht hW => ⟨xz14.toInt64, rfl, trivial, ht⟩) (fun _ h => absurd h List.not_mem_nil) dX12_cut_35
def wk_c_X12_isBit : List Cond := .code yX12_isBit cX12_isBit 2 (some .boolean) :: ([] ++ ([]))
theorem wkg_c_X12_isBit : wk_c_X12_isBit.all goodWord = true := by decide +kernel
set_option maxHeartbeats 4000000 in
set_option maxRecDepth 100000 in
theorem c_X12_isBit (l : Launch) (dC : Nat → ClassId) (dI : Nat → Nat → Nat) (k : Nat → ClassId) (p1 : Int32) (p2 : Int32) : Met l yX12_isBit wk_c_X12_isBit ({ frames := 0, cells := 0, slots := 0, locals := 0 }) (va_Pc [.int p1, .int p2] (fun U => va_P (dC, dI) vwCl (List.flatten ([] : List va_W)) U.heap ∧ va_K (dC, dI) vwCl (tK k) U)) (vp_Si (fun r : Int32 => (r.toInt = 0 ∨ r.toInt = 1))) 0 0 (fun _ => False) := by
  refine Met.ofW (cc := cX12_isBit) (maxL := 2) (ret := (some .boolean)) (by decide) rfl ?_
  intro p e s m args below meth c s₁ B hml hv
  obtain ⟨rfl, hP, hK⟩ := hv
  have hx := B.exec
  have hb := B.bytes
  have hr := B.returns
  have hts := atoms_spec (ws := wk_c_X12_isBit) B.pre
  have hown : s.vm.findClass RX12 = some m.cls := findClass_of_methodNamed B.named
  have hlocks := B.notSynchronized
  have hP : va_P (dC, dI) vwCl (List.flatten ([] : List va_W)) s.heap := hP
  have hl := lv_entry ([.int p1, .int p2]) (n := 2) (Nat.le_of_ble_eq_true rfl)
  rw [lg_entry_eq]
  generalize (lg_sl ([.int p1, .int p2]) ++ List.replicate (2 - (lg_sl ([.int p1, .int p2])).length) Slot.unset).toArray = ls at hl ⊢
  have hl : lv_has ls 2 [(0, .int p1), (1, .int p2)] := hl
  refine w_gen (fun Q hQ => ?_)
  refine lv_iload_n hx hb dX12_isBit_0 rfl (lv_at hl 0 rfl) ?_
  refine lv_iload_n hx hb dX12_isBit_1 rfl (lv_at hl 1 rfl) ?_
  refine lv_ishr hx hb dX12_isBit_2 ?_
  refine lv_topi (fun xz1 exz1 => ?_)
  refine lv_iconst (v := 1) hx hb dX12_isBit_3 (by decide) ?_
  refine lv_iand hx hb dX12_isBit_4 ?_
  refine lv_topi (fun xz2 exz2 => ?_)
  have bxz2 : 0 ≤ xz2.toInt ∧ xz2.toInt ≤ 1 := by rw [exz2]; exact zand _ 1 2 (by decide) (by decide) (by decide)
  refine lv_iconst (v := 1) hx hb dX12_isBit_5 (by decide) ?_
  refine lv_icmp_ne (tgt := 13) hx hb dX12_isBit_6 (by decide) (fun cz3 => ?_) (fun cz3 => ?_)
  · skip
    have zz4 : ¬ xz2.toInt = (1 : Int) := fun h9 => cz3 (zi_eq.mpr h9)
    refine lv_iconst (v := 0) hx hb dX12_isBit_13 (by decide) ?_
    rw [hQ]
    exact W.zret (v := (0 : Int32)) hx hb hr rfl (fun t ht hW => ⟨(0 : Int32), rfl, (by show (0 : Int) = 0 ∨ (0 : Int) = 1; omega), ht⟩) (fun _ h => absurd h List.not_mem_nil) dX12_isBit_14
  · skip
    have zz5 : xz2.toInt = (1 : Int) := zi_eq.mp cz3
    refine lv_iconst (v := 1) hx hb dX12_isBit_9 (by decide) ?_
    refine lv_goto (tgt := 14) hx hb dX12_isBit_10 (by decide) ?_
    rw [hQ]
    exact W.zret (v := (1 : Int32)) hx hb hr rfl (fun t ht hW => ⟨(1 : Int32), rfl, (by show (1 : Int) = 0 ∨ (1 : Int) = 1; omega), ht⟩) (fun _ h => absurd h List.not_mem_nil) dX12_isBit_14
def wk_c_X12_isValley : List Cond := .code yX12_isValley cX12_isValley 1 (some .boolean) :: ([.fieldLink RX12 31 "SagMemoryModel" "lines" "[I"] ++ (wsX120 ++ []))
theorem wkg_c_X12_isValley : wk_c_X12_isValley.all goodWord = true := by decide +kernel
set_option maxHeartbeats 4000000 in
set_option maxRecDepth 100000 in
theorem c_X12_isValley (l : Launch) (dC : Nat → ClassId) (dI : Nat → Nat → Nat) (k : Nat → ClassId) (qO : Nat → Nat) (widthO : Nat) (manyO : Nat) (cellsO : Nat) (movedO : Nat) (tapeO : Nat) (hasO : Nat) (bridgeO : Nat) (cartO : Nat) (wardO : Nat) (frostAtO : Nat) (actO : Nat) (isKeptO : Nat) (loadNowO : Nat) (byNowO : Nat) (rowO : Nat) (memoryO : Nat) (whoseO : Nat) (deepNowO : Nat) (brokenByO : Nat) (brokenAtO : Nat) (goesByO : Nat) (comesToO : Nat) (sagMoreO : Nat) (creakOfO : Nat) (wipedByO : Nat) (deepAtO : Nat) (sagAtO : Nat) (loadAtO : Nat) (orderRowO : Nat) (oftenO : Nat) (lossOneO : Nat) (lossOtherO : Nat) (vO : Nat → Int32) (tO : Nat → Int32) (mO : Nat → Int32) (gO : Nat → Int64) (qLi : Nat → Nat) (aLi : Nat → Nat → Int32) (htO : Rg 0 700 tO) (hmO : Rg (-1) 127 mO) : Met l yX12_isValley wk_c_X12_isValley ({ frames := 0, cells := 0, slots := 0, locals := 0 }) (va_Pc [.ref (qO 0)] (fun U => va_P (dC, dI) vwCl (List.flatten [(wMO qO k widthO manyO cellsO movedO tapeO (qLi 0) hasO bridgeO cartO wardO frostAtO actO isKeptO loadNowO byNowO rowO memoryO whoseO deepNowO brokenByO brokenAtO goesByO comesToO sagMoreO creakOfO wipedByO deepAtO sagAtO loadAtO orderRowO oftenO lossOneO lossOtherO vO tO mO gO), (wmLi qLi k aLi)]) U.heap ∧ va_K (dC, dI) vwCl (tK k) U)) (vp_Si (fun r : Int32 => (r.toInt = 0 ∨ r.toInt = 1))) 0 0 (fun _ => False) := by
  refine Met.ofW (cc := cX12_isValley) (maxL := 1) (ret := (some .boolean)) (by decide) rfl ?_
  intro p e s m args below meth c s₁ B hml hv
  obtain ⟨rfl, hP, hK⟩ := hv
  have hx := B.exec
  have hb := B.bytes
  have hr := B.returns
  have hts := atoms_spec (ws := wk_c_X12_isValley) B.pre
  have hown : s.vm.findClass RX12 = some m.cls := findClass_of_methodNamed B.named
  have hlocks := B.notSynchronized
  have hP : va_P (dC, dI) vwCl (List.flatten [(wMO qO k widthO manyO cellsO movedO tapeO (qLi 0) hasO bridgeO cartO wardO frostAtO actO isKeptO loadNowO byNowO rowO memoryO whoseO deepNowO brokenByO brokenAtO goesByO comesToO sagMoreO creakOfO wipedByO deepAtO sagAtO loadAtO orderRowO oftenO lossOneO lossOtherO vO tO mO gO), (wmLi qLi k aLi)]) s.heap := hP
  have hl := lv_entry ([.ref (qO 0)]) (n := 1) (Nat.le_of_ble_eq_true rfl)
  rw [lg_entry_eq]
  generalize (lg_sl ([.ref (qO 0)]) ++ List.replicate (1 - (lg_sl ([.ref (qO 0)])).length) Slot.unset).toArray = ls at hl ⊢
  have hl : lv_has ls 1 [(0, .ref (qO 0))] := hl
  refine w_gen (fun Q hQ => ?_)
  refine lv_aload_n hx hb dX12_isValley_0 rfl (lv_at hl 0 rfl) ?_
  refine va_get (D := (dC, dI)) (ci := 12) (v := .ref (qLi 0)) (C := RX12) (T := TX12) (N := 59) hx hb hts (fun w h => List.mem_cons_of_mem _ (List.mem_append_right _ (List.mem_append_left _ h))) hown hK hP 0 rfl rfl 16 (by decide) (hts (.fieldLink RX12 31 "SagMemoryModel" "lines" "[I") (wl_mem 0 rfl)) (fun _ h9 => h9) rfl dX12_isValley_1 ?_
  refine lv_iconst (v := 0) hx hb dX12_isValley_4 (by decide) ?_
  refine va_iald hx hb hK hP 1 0 rfl rfl (by unfold vp_in; decide) dX12_isValley_5 ?_
  refine lv_topi (fun xz1 exz1 => ?_)
  refine lv_if_le (tgt := 13) hx hb dX12_isValley_6 (by decide) (fun cz2 => ?_) (fun cz2 => ?_)
  · skip
    have bz3 := fb_rng xz1
    have zz4 : xz1.toInt ≤ (0 : Int) := zi_le.mp cz2
    refine lv_iconst (v := 0) hx hb dX12_isValley_13 (by decide) ?_
    rw [hQ]
    exact W.zret (v := (0 : Int32)) hx hb hr rfl (fun t ht hW => ⟨(0 : Int32), rfl, (by show (0 : Int) = 0 ∨ (0 : Int) = 1; omega), ht⟩) (fun _ h => absurd h List.not_mem_nil) dX12_isValley_14
  · skip
    have bz5 := fb_rng xz1
    have zz6 : ¬ xz1.toInt ≤ (0 : Int) := fun h9 => cz2 (zi_le.mpr h9)
    refine lv_iconst (v := 1) hx hb dX12_isValley_9 (by decide) ?_
    refine lv_goto (tgt := 14) hx hb dX12_isValley_10 (by decide) ?_
    rw [hQ]
    exact W.zret (v := (1 : Int32)) hx hb hr rfl (fun t ht hW => ⟨(1 : Int32), rfl, (by show (1 : Int) = 0 ∨ (1 : Int) = 1; omega), ht⟩) (fun _ h => absurd h List.not_mem_nil) dX12_isValley_14
def wk_c_X12_bridges : List Cond := .code yX12_bridges cX12_bridges 1 (some .int) :: ([.fieldLink RX12 34 "SagMemoryModel" "has" "[I"] ++ (wsX120 ++ []))
theorem wkg_c_X12_bridges : wk_c_X12_bridges.all goodWord = true := by decide +kernel
set_option maxHeartbeats 4000000 in
set_option maxRecDepth 100000 in
theorem c_X12_bridges (l : Launch) (dC : Nat → ClassId) (dI : Nat → Nat → Nat) (k : Nat → ClassId) (qO : Nat → Nat) (widthO : Nat) (manyO : Nat) (cellsO : Nat) (movedO : Nat) (tapeO : Nat) (linesO : Nat) (bridgeO : Nat) (cartO : Nat) (wardO : Nat) (frostAtO : Nat) (actO : Nat) (isKeptO : Nat) (loadNowO : Nat) (byNowO : Nat) (rowO : Nat) (memoryO : Nat) (whoseO : Nat) (deepNowO : Nat) (brokenByO : Nat) (brokenAtO : Nat) (goesByO : Nat) (comesToO : Nat) (sagMoreO : Nat) (creakOfO : Nat) (wipedByO : Nat) (deepAtO : Nat) (sagAtO : Nat) (loadAtO : Nat) (orderRowO : Nat) (oftenO : Nat) (lossOneO : Nat) (lossOtherO : Nat) (vO : Nat → Int32) (tO : Nat → Int32) (mO : Nat → Int32) (gO : Nat → Int64) (qHa : Nat → Nat) (hHa : Nat → Nat → Int32) (htO : Rg 0 700 tO) (hmO : Rg (-1) 127 mO) (hhHa : Pa_h hHa) : Met l yX12_bridges wk_c_X12_bridges ({ frames := 0, cells := 0, slots := 0, locals := 0 }) (va_Pc [.ref (qO 0)] (fun U => va_P (dC, dI) vwCl (List.flatten [(wMO qO k widthO manyO cellsO movedO tapeO linesO (qHa 0) bridgeO cartO wardO frostAtO actO isKeptO loadNowO byNowO rowO memoryO whoseO deepNowO brokenByO brokenAtO goesByO comesToO sagMoreO creakOfO wipedByO deepAtO sagAtO loadAtO orderRowO oftenO lossOneO lossOtherO vO tO mO gO), (wmHa qHa k hHa)]) U.heap ∧ va_K (dC, dI) vwCl (tK k) U)) (vp_Si (fun r : Int32 => (0 ≤ r.toInt ∧ r.toInt ≤ 3))) 0 0 (fun _ => False) := by
  refine Met.ofW (cc := cX12_bridges) (maxL := 1) (ret := (some .int)) (by decide) rfl ?_
  intro p e s m args below meth c s₁ B hml hv
  obtain ⟨rfl, hP, hK⟩ := hv
  have hx := B.exec
  have hb := B.bytes
  have hr := B.returns
  have hts := atoms_spec (ws := wk_c_X12_bridges) B.pre
  have hown : s.vm.findClass RX12 = some m.cls := findClass_of_methodNamed B.named
  have hlocks := B.notSynchronized
  have hP : va_P (dC, dI) vwCl (List.flatten [(wMO qO k widthO manyO cellsO movedO tapeO linesO (qHa 0) bridgeO cartO wardO frostAtO actO isKeptO loadNowO byNowO rowO memoryO whoseO deepNowO brokenByO brokenAtO goesByO comesToO sagMoreO creakOfO wipedByO deepAtO sagAtO loadAtO orderRowO oftenO lossOneO lossOtherO vO tO mO gO), (wmHa qHa k hHa)]) s.heap := hP
  have hl := lv_entry ([.ref (qO 0)]) (n := 1) (Nat.le_of_ble_eq_true rfl)
  rw [lg_entry_eq]
  generalize (lg_sl ([.ref (qO 0)]) ++ List.replicate (1 - (lg_sl ([.ref (qO 0)])).length) Slot.unset).toArray = ls at hl ⊢
  have hl : lv_has ls 1 [(0, .ref (qO 0))] := hl
  refine w_gen (fun Q hQ => ?_)
  refine lv_aload_n hx hb dX12_bridges_0 rfl (lv_at hl 0 rfl) ?_
  refine va_get (D := (dC, dI)) (ci := 12) (v := .ref (qHa 0)) (C := RX12) (T := TX12) (N := 59) hx hb hts (fun w h => List.mem_cons_of_mem _ (List.mem_append_right _ (List.mem_append_left _ h))) hown hK hP 0 rfl rfl 17 (by decide) (hts (.fieldLink RX12 34 "SagMemoryModel" "has" "[I") (wl_mem 0 rfl)) (fun _ h9 => h9) rfl dX12_bridges_1 ?_
  refine lv_iconst (v := 3) hx hb dX12_bridges_4 (by decide) ?_
  refine va_iald hx hb hK hP 1 0 rfl rfl (by unfold vp_in; decide) dX12_bridges_5 ?_
  refine lv_topi (fun xz1 exz1 => ?_)
  have gxz1 : xz1.toInt = ((hHa 0) 3).toInt := by rw [exz1]; rfl
  have bxz1 : 0 ≤ xz1.toInt ∧ xz1.toInt ≤ 3 := by rw [exz1]; exact (hhHa 0).1 3 (by decide)
  rw [hQ]
  exact W.iret (v := xz1) hx hb hr (fun t ht hW => ⟨xz1, rfl, (by show 0 ≤ xz1.toInt ∧ xz1.toInt ≤ 3; omega), ht⟩) (fun _ h => absurd h List.not_mem_nil) dX12_bridges_6
def wk_c_X12_carts : List Cond := .code yX12_carts cX12_carts 1 (some .int) :: ([.fieldLink RX12 34 "SagMemoryModel" "has" "[I"] ++ (wsX120 ++ []))
theorem wkg_c_X12_carts : wk_c_X12_carts.all goodWord = true := by decide +kernel
set_option maxHeartbeats 4000000 in
set_option maxRecDepth 100000 in
theorem c_X12_carts (l : Launch) (dC : Nat → ClassId) (dI : Nat → Nat → Nat) (k : Nat → ClassId) (qO : Nat → Nat) (widthO : Nat) (manyO : Nat) (cellsO : Nat) (movedO : Nat) (tapeO : Nat) (linesO : Nat) (bridgeO : Nat) (cartO : Nat) (wardO : Nat) (frostAtO : Nat) (actO : Nat) (isKeptO : Nat) (loadNowO : Nat) (byNowO : Nat) (rowO : Nat) (memoryO : Nat) (whoseO : Nat) (deepNowO : Nat) (brokenByO : Nat) (brokenAtO : Nat) (goesByO : Nat) (comesToO : Nat) (sagMoreO : Nat) (creakOfO : Nat) (wipedByO : Nat) (deepAtO : Nat) (sagAtO : Nat) (loadAtO : Nat) (orderRowO : Nat) (oftenO : Nat) (lossOneO : Nat) (lossOtherO : Nat) (vO : Nat → Int32) (tO : Nat → Int32) (mO : Nat → Int32) (gO : Nat → Int64) (qHa : Nat → Nat) (hHa : Nat → Nat → Int32) (htO : Rg 0 700 tO) (hmO : Rg (-1) 127 mO) (hhHa : Pa_h hHa) : Met l yX12_carts wk_c_X12_carts ({ frames := 0, cells := 0, slots := 0, locals := 0 }) (va_Pc [.ref (qO 0)] (fun U => va_P (dC, dI) vwCl (List.flatten [(wMO qO k widthO manyO cellsO movedO tapeO linesO (qHa 0) bridgeO cartO wardO frostAtO actO isKeptO loadNowO byNowO rowO memoryO whoseO deepNowO brokenByO brokenAtO goesByO comesToO sagMoreO creakOfO wipedByO deepAtO sagAtO loadAtO orderRowO oftenO lossOneO lossOtherO vO tO mO gO), (wmHa qHa k hHa)]) U.heap ∧ va_K (dC, dI) vwCl (tK k) U)) (vp_Si (fun r : Int32 => (0 ≤ r.toInt ∧ r.toInt ≤ 7) ∧ (r.toInt = ((hHa 0) 4).toInt))) 0 0 (fun _ => False) := by
  refine Met.ofW (cc := cX12_carts) (maxL := 1) (ret := (some .int)) (by decide) rfl ?_
  intro p e s m args below meth c s₁ B hml hv
  obtain ⟨rfl, hP, hK⟩ := hv
  have hx := B.exec
  have hb := B.bytes
  have hr := B.returns
  have hts := atoms_spec (ws := wk_c_X12_carts) B.pre
  have hown : s.vm.findClass RX12 = some m.cls := findClass_of_methodNamed B.named
  have hlocks := B.notSynchronized
  have hP : va_P (dC, dI) vwCl (List.flatten [(wMO qO k widthO manyO cellsO movedO tapeO linesO (qHa 0) bridgeO cartO wardO frostAtO actO isKeptO loadNowO byNowO rowO memoryO whoseO deepNowO brokenByO brokenAtO goesByO comesToO sagMoreO creakOfO wipedByO deepAtO sagAtO loadAtO orderRowO oftenO lossOneO lossOtherO vO tO mO gO), (wmHa qHa k hHa)]) s.heap := hP
  have hl := lv_entry ([.ref (qO 0)]) (n := 1) (Nat.le_of_ble_eq_true rfl)
  rw [lg_entry_eq]
  generalize (lg_sl ([.ref (qO 0)]) ++ List.replicate (1 - (lg_sl ([.ref (qO 0)])).length) Slot.unset).toArray = ls at hl ⊢
  have hl : lv_has ls 1 [(0, .ref (qO 0))] := hl
  refine w_gen (fun Q hQ => ?_)
  refine lv_aload_n hx hb dX12_carts_0 rfl (lv_at hl 0 rfl) ?_
  refine va_get (D := (dC, dI)) (ci := 12) (v := .ref (qHa 0)) (C := RX12) (T := TX12) (N := 59) hx hb hts (fun w h => List.mem_cons_of_mem _ (List.mem_append_right _ (List.mem_append_left _ h))) hown hK hP 0 rfl rfl 17 (by decide) (hts (.fieldLink RX12 34 "SagMemoryModel" "has" "[I") (wl_mem 0 rfl)) (fun _ h9 => h9) rfl dX12_carts_1 ?_
  refine lv_iconst (v := 4) hx hb dX12_carts_4 (by decide) ?_
  refine va_iald hx hb hK hP 1 0 rfl rfl (by unfold vp_in; decide) dX12_carts_5 ?_
  refine lv_topi (fun xz1 exz1 => ?_)
  have gxz1 : xz1.toInt = ((hHa 0) 4).toInt := by rw [exz1]; rfl
  have bxz1 : 0 ≤ xz1.toInt ∧ xz1.toInt ≤ 7 := by rw [exz1]; exact (hhHa 0).2.1 4 (by decide)
  rw [hQ]
  exact W.iret (v := xz1) hx hb hr (fun t ht hW => ⟨xz1, rfl, ⟨(by show 0 ≤ xz1.toInt ∧ xz1.toInt ≤ 7; omega), (by show xz1.toInt = ((hHa 0) 4).toInt; omega)⟩, ht⟩) (fun _ h => absurd h List.not_mem_nil) dX12_carts_6
def wk_c_X12_isByte : List Cond := .code yX12_isByte cX12_isByte 4 (some .boolean) :: ([.fieldLink RX12 133 "SagMemoryModel" "taped" "I", .fieldLink RX12 23 "SagMemoryModel" "tape" "[B"] ++ (wsX120 ++ []))
theorem wkg_c_X12_isByte : wk_c_X12_isByte.all goodWord = true := by decide +kernel
set_option maxHeartbeats 4000000 in
set_option maxRecDepth 100000 in
theorem c_X12_isByte (l : Launch) (dC : Nat → ClassId) (dI : Nat → Nat → Nat) (k : Nat → ClassId) (qO : Nat → Nat) (widthO : Nat) (manyO : Nat) (cellsO : Nat) (movedO : Nat) (linesO : Nat) (hasO : Nat) (bridgeO : Nat) (cartO : Nat) (wardO : Nat) (frostAtO : Nat) (actO : Nat) (isKeptO : Nat) (loadNowO : Nat) (byNowO : Nat) (rowO : Nat) (memoryO : Nat) (whoseO : Nat) (deepNowO : Nat) (brokenByO : Nat) (brokenAtO : Nat) (goesByO : Nat) (comesToO : Nat) (sagMoreO : Nat) (creakOfO : Nat) (wipedByO : Nat) (deepAtO : Nat) (sagAtO : Nat) (loadAtO : Nat) (orderRowO : Nat) (oftenO : Nat) (lossOneO : Nat) (lossOtherO : Nat) (vO : Nat → Int32) (tO : Nat → Int32) (mO : Nat → Int32) (gO : Nat → Int64) (qTa : Nat → Nat) (aTa : Nat → Nat → Int32) (p1 : Int32) (p2 : Int32) (p3 : Int32) (htO : Rg 0 700 tO) (hmO : Rg (-1) 127 mO) (hp0 : 0 ≤ p1.toInt) : Met l yX12_isByte wk_c_X12_isByte ({ frames := 0, cells := 0, slots := 0, locals := 0 }) (va_Pc [.ref (qO 0), .int p1, .int p2, .int p3] (fun U => va_P (dC, dI) vwCl (List.flatten [(wMO qO k widthO manyO cellsO movedO (qTa 0) linesO hasO bridgeO cartO wardO frostAtO actO isKeptO loadNowO byNowO rowO memoryO whoseO deepNowO brokenByO brokenAtO goesByO comesToO sagMoreO creakOfO wipedByO deepAtO sagAtO loadAtO orderRowO oftenO lossOneO lossOtherO vO tO mO gO), (wmTa qTa k aTa)]) U.heap ∧ va_K (dC, dI) vwCl (tK k) U)) (vp_Si (fun r : Int32 => ((r.toInt = 1 ∧ p1.toInt < (tO 0).toInt ∧ p2.toInt ≤ ((aTa 0) p1.toNatClampNeg).toInt ∧ ((aTa 0) p1.toNatClampNeg).toInt ≤ p3.toInt) ∨ (r.toInt = 0 ∧ ((tO 0).toInt ≤ p1.toInt ∨ ((aTa 0) p1.toNatClampNeg).toInt < p2.toInt ∨ p3.toInt < ((aTa 0) p1.toNatClampNeg).toInt))) ∧ (r.toInt = 0 ∨ r.toInt = 1))) 0 0 (fun _ => False) := by
  refine Met.ofW (cc := cX12_isByte) (maxL := 4) (ret := (some .boolean)) (by decide) rfl ?_
  intro p e s m args below meth c s₁ B hml hv
  obtain ⟨rfl, hP, hK⟩ := hv
  have hx := B.exec
  have hb := B.bytes
  have hr := B.returns
  have hts := atoms_spec (ws := wk_c_X12_isByte) B.pre
  have hown : s.vm.findClass RX12 = some m.cls := findClass_of_methodNamed B.named
  have hlocks := B.notSynchronized
  have hP : va_P (dC, dI) vwCl (List.flatten [(wMO qO k widthO manyO cellsO movedO (qTa 0) linesO hasO bridgeO cartO wardO frostAtO actO isKeptO loadNowO byNowO rowO memoryO whoseO deepNowO brokenByO brokenAtO goesByO comesToO sagMoreO creakOfO wipedByO deepAtO sagAtO loadAtO orderRowO oftenO lossOneO lossOtherO vO tO mO gO), (wmTa qTa k aTa)]) s.heap := hP
  have hl := lv_entry ([.ref (qO 0), .int p1, .int p2, .int p3]) (n := 4) (Nat.le_of_ble_eq_true rfl)
  rw [lg_entry_eq]
  generalize (lg_sl ([.ref (qO 0), .int p1, .int p2, .int p3]) ++ List.replicate (4 - (lg_sl ([.ref (qO 0), .int p1, .int p2, .int p3])).length) Slot.unset).toArray = ls at hl ⊢
  have hl : lv_has ls 4 [(0, .ref (qO 0)), (1, .int p1), (2, .int p2), (3, .int p3)] := hl
  refine w_gen (fun Q hQ => ?_)
  refine lv_iload_n hx hb dX12_isByte_0 rfl (lv_at hl 1 rfl) ?_
  refine lv_aload_n hx hb dX12_isByte_1 rfl (lv_at hl 0 rfl) ?_
  refine va_get (D := (dC, dI)) (ci := 12) (v := .int (tO 0)) (C := RX12) (T := TX12) (N := 59) hx hb hts (fun w h => List.mem_cons_of_mem _ (List.mem_append_right _ (List.mem_append_left _ h))) hown hK hP 0 rfl rfl 6 (by decide) (hts (.fieldLink RX12 133 "SagMemoryModel" "taped" "I") (wl_mem 0 rfl)) (fun _ h9 => h9) rfl dX12_isByte_2 ?_
  have bz1 := htO 0
  refine lv_icmp_ge (tgt := 32) hx hb dX12_isByte_5 (by decide) (fun cz2 => ?_) (fun cz2 => ?_)
  · skip
    have bz3 := fb_rng p1
    have zz4 : (tO 0).toInt ≤ p1.toInt := zi_le.mp cz2
    refine lv_iconst (v := 0) hx hb dX12_isByte_32 (by decide) ?_
    rw [hQ]
    exact W.zret (v := (0 : Int32)) hx hb hr rfl (fun t ht hW => ⟨(0 : Int32), rfl, ⟨(by show ((0 : Int) = 1 ∧ p1.toInt < (tO 0).toInt ∧ p2.toInt ≤ ((aTa 0) p1.toNatClampNeg).toInt ∧ ((aTa 0) p1.toNatClampNeg).toInt ≤ p3.toInt) ∨ ((0 : Int) = 0 ∧ ((tO 0).toInt ≤ p1.toInt ∨ ((aTa 0) p1.toNatClampNeg).toInt < p2.toInt ∨ p3.toInt < ((aTa 0) p1.toNatClampNeg).toInt)); omega), (by show (0 : Int) = 0 ∨ (0 : Int) = 1; omega)⟩, ht⟩) (fun _ h => absurd h List.not_mem_nil) dX12_isByte_33
  · skip
    have bz5 := fb_rng p1
    have zz6 : ¬ (tO 0).toInt ≤ p1.toInt := fun h9 => cz2 (zi_le.mpr h9)
    refine lv_aload_n hx hb dX12_isByte_8 rfl (lv_at hl 0 rfl) ?_
    refine va_get (D := (dC, dI)) (ci := 12) (v := .ref (qTa 0)) (C := RX12) (T := TX12) (N := 59) hx hb hts (fun w h => List.mem_cons_of_mem _ (List.mem_append_right _ (List.mem_append_left _ h))) hown hK hP 0 rfl rfl 5 (by decide) (hts (.fieldLink RX12 23 "SagMemoryModel" "tape" "[B") (wl_mem 1 rfl)) (fun _ h9 => h9) rfl dX12_isByte_9 ?_
    refine lv_iload_n hx hb dX12_isByte_12 rfl (lv_at hl 1 rfl) ?_
    refine va_bald hx hb hK hP 1 2 rfl rfl (vp_in_iff.mpr ⟨by omega, by omega⟩) dX12_isByte_13 ?_
    refine lv_topi (fun xz7 exz7 => ?_)
    have gxz7 : xz7.toInt = ((aTa 0) p1.toNatClampNeg).toInt := congrArg Int32.toInt exz7
    refine lv_iload_n hx hb dX12_isByte_14 rfl (lv_at hl 2 rfl) ?_
    refine lv_icmp_lt (tgt := 32) hx hb dX12_isByte_15 (by decide) (fun cz8 => ?_) (fun cz8 => ?_)
    · skip
      have bz9 := fb_rng xz7
      have bz10 := fb_rng p2
      have zz11 : xz7.toInt < p2.toInt := zi_lt.mp cz8
      refine lv_iconst (v := 0) hx hb dX12_isByte_32 (by decide) ?_
      rw [hQ]
      exact W.zret (v := (0 : Int32)) hx hb hr rfl (fun t ht hW => ⟨(0 : Int32), rfl, ⟨(by show ((0 : Int) = 1 ∧ p1.toInt < (tO 0).toInt ∧ p2.toInt ≤ ((aTa 0) p1.toNatClampNeg).toInt ∧ ((aTa 0) p1.toNatClampNeg).toInt ≤ p3.toInt) ∨ ((0 : Int) = 0 ∧ ((tO 0).toInt ≤ p1.toInt ∨ ((aTa 0) p1.toNatClampNeg).toInt < p2.toInt ∨ p3.toInt < ((aTa 0) p1.toNatClampNeg).toInt)); omega), (by show (0 : Int) = 0 ∨ (0 : Int) = 1; omega)⟩, ht⟩) (fun _ h => absurd h List.not_mem_nil) dX12_isByte_33
    · skip
      have bz12 := fb_rng xz7
      have bz13 := fb_rng p2
      have zz14 : ¬ xz7.toInt < p2.toInt := fun h9 => cz8 (zi_lt.mpr h9)
      refine lv_aload_n hx hb dX12_isByte_18 rfl (lv_at hl 0 rfl) ?_
      refine va_get (D := (dC, dI)) (ci := 12) (v := .ref (qTa 0)) (C := RX12) (T := TX12) (N := 59) hx hb hts (fun w h => List.mem_cons_of_mem _ (List.mem_append_right _ (List.mem_append_left _ h))) hown hK hP 0 rfl rfl 5 (by decide) (hts (.fieldLink RX12 23 "SagMemoryModel" "tape" "[B") (wl_mem 1 rfl)) (fun _ h9 => h9) rfl dX12_isByte_19 ?_
      refine lv_iload_n hx hb dX12_isByte_22 rfl (lv_at hl 1 rfl) ?_
      refine va_bald hx hb hK hP 1 2 rfl rfl (vp_in_iff.mpr ⟨by omega, by omega⟩) dX12_isByte_23 ?_
      refine lv_topi (fun xz15 exz15 => ?_)
      have gxz15 : xz15.toInt = ((aTa 0) p1.toNatClampNeg).toInt := congrArg Int32.toInt exz15
      refine lv_iload_n hx hb dX12_isByte_24 rfl (lv_at hl 3 rfl) ?_
      refine lv_icmp_gt (tgt := 32) hx hb dX12_isByte_25 (by decide) (fun cz16 => ?_) (fun cz16 => ?_)
      · skip
        have bz17 := fb_rng p3
        have bz18 := fb_rng xz15
        have zz19 : p3.toInt < xz15.toInt := zi_lt.mp cz16
        refine lv_iconst (v := 0) hx hb dX12_isByte_32 (by decide) ?_
        rw [hQ]
        exact W.zret (v := (0 : Int32)) hx hb hr rfl (fun t ht hW => ⟨(0 : Int32), rfl, ⟨(by show ((0 : Int) = 1 ∧ p1.toInt < (tO 0).toInt ∧ p2.toInt ≤ ((aTa 0) p1.toNatClampNeg).toInt ∧ ((aTa 0) p1.toNatClampNeg).toInt ≤ p3.toInt) ∨ ((0 : Int) = 0 ∧ ((tO 0).toInt ≤ p1.toInt ∨ ((aTa 0) p1.toNatClampNeg).toInt < p2.toInt ∨ p3.toInt < ((aTa 0) p1.toNatClampNeg).toInt)); omega), (by show (0 : Int) = 0 ∨ (0 : Int) = 1; omega)⟩, ht⟩) (fun _ h => absurd h List.not_mem_nil) dX12_isByte_33
      · skip
        have bz20 := fb_rng p3
        have bz21 := fb_rng xz15
        have zz22 : ¬ p3.toInt < xz15.toInt := fun h9 => cz16 (zi_lt.mpr h9)
        refine lv_iconst (v := 1) hx hb dX12_isByte_28 (by decide) ?_
        refine lv_goto (tgt := 33) hx hb dX12_isByte_29 (by decide) ?_
        rw [hQ]
        exact W.zret (v := (1 : Int32)) hx hb hr rfl (fun t ht hW => ⟨(1 : Int32), rfl, ⟨(by show ((1 : Int) = 1 ∧ p1.toInt < (tO 0).toInt ∧ p2.toInt ≤ ((aTa 0) p1.toNatClampNeg).toInt ∧ ((aTa 0) p1.toNatClampNeg).toInt ≤ p3.toInt) ∨ ((1 : Int) = 0 ∧ ((tO 0).toInt ≤ p1.toInt ∨ ((aTa 0) p1.toNatClampNeg).toInt < p2.toInt ∨ p3.toInt < ((aTa 0) p1.toNatClampNeg).toInt)); omega), (by show (1 : Int) = 0 ∨ (1 : Int) = 1; omega)⟩, ht⟩) (fun _ h => absurd h List.not_mem_nil) dX12_isByte_33
def wk_c_X12_next : List Cond := .code yX12_next cX12_next 2 none :: ([.fieldLink RX12 140 "SagMemoryModel" "spot" "I", .methodLink RX12 143 yX12_isByte, .instanceMethod yX12_isByte, .selects RX12 yX12_isByte yX12_isByte, .initialized RX12, .fieldLink RX12 147 "SagMemoryModel" "place" "I", .fieldLink RX12 150 "SagMemoryModel" "value" "I", .fieldLink RX12 153 "SagMemoryModel" "word" "J", .fieldLink RX12 133 "SagMemoryModel" "taped" "I", .fieldLink RX12 23 "SagMemoryModel" "tape" "[B", .fieldLink RX12 157 "SagMemoryModel" "token" "I", .constant RX12 166 (100000), .constant RX12 167 (1000000), .constantLong RX12 162 (27), .constantLong RX12 164 (96), .constantLong RX12 160 (-1)] ++ (wsX120 ++ (wk_c_X12_isByte ++ [])))
theorem wkg_c_X12_next : wk_c_X12_next.all goodWord = true := by decide +kernel
set_option maxHeartbeats 4000000 in
set_option maxRecDepth 100000 in
theorem c_X12_next (l : Launch) (dC : Nat → ClassId) (dI : Nat → Nat → Nat) (k : Nat → ClassId) (sz : Nat) (qO : Nat → Nat) (widthO : Nat) (manyO : Nat) (cellsO : Nat) (movedO : Nat) (linesO : Nat) (hasO : Nat) (bridgeO : Nat) (cartO : Nat) (wardO : Nat) (frostAtO : Nat) (actO : Nat) (isKeptO : Nat) (loadNowO : Nat) (byNowO : Nat) (rowO : Nat) (memoryO : Nat) (whoseO : Nat) (deepNowO : Nat) (brokenByO : Nat) (brokenAtO : Nat) (goesByO : Nat) (comesToO : Nat) (sagMoreO : Nat) (creakOfO : Nat) (wipedByO : Nat) (deepAtO : Nat) (sagAtO : Nat) (loadAtO : Nat) (orderRowO : Nat) (oftenO : Nat) (lossOneO : Nat) (lossOtherO : Nat) (vO : Nat → Int32) (tO : Nat → Int32) (mO : Nat → Int32) (gO : Nat → Int64) (qTa : Nat → Nat) (aTa : Nat → Nat → Int32) (htO : Rg 0 700 tO) (hmO : Rg (-1) 127 mO) (hp0 : (tO 1).toInt ≤ (tO 0).toInt) : Met l yX12_next wk_c_X12_next ({ frames := 1, cells := 0, slots := 0, locals := 23 }) (va_Pc [.ref (qO 0)] (fun U => U.heap.size = sz ∧ va_P (dC, dI) vwCl (List.flatten [(wMO qO k widthO manyO cellsO movedO (qTa 0) linesO hasO bridgeO cartO wardO frostAtO actO isKeptO loadNowO byNowO rowO memoryO whoseO deepNowO brokenByO brokenAtO goesByO comesToO sagMoreO creakOfO wipedByO deepAtO sagAtO loadAtO orderRowO oftenO lossOneO lossOtherO vO tO mO gO)] ++ List.flatten [(wmTa qTa k aTa)]) U.heap ∧ va_K (dC, dI) vwCl (tK k) U ∧ va_D (fun _ => True) (List.flatten [(wMO qO k widthO manyO cellsO movedO (qTa 0) linesO hasO bridgeO cartO wardO frostAtO actO isKeptO loadNowO byNowO rowO memoryO whoseO deepNowO brokenByO brokenAtO goesByO comesToO sagMoreO creakOfO wipedByO deepAtO sagAtO loadAtO orderRowO oftenO lossOneO lossOtherO vO tO mO gO)] ++ List.flatten [(wmTa qTa k aTa)]))) (va_Qv (fun _ : Unit => True) (fun (_ : Unit) (t : State) => ∃ (vO' : Nat → Int32) (tO' : Nat → Int32) (mO' : Nat → Int32) (gO' : Nat → Int64), Rg 0 700 tO' ∧ Rg (-1) 127 mO' ∧ ((tO' 0).toInt = (tO 0).toInt) ∧ ((tO' 1).toInt ≤ (tO 0).toInt) ∧ ((tO 1).toInt ≤ (tO' 1).toInt) ∧ ((vO' 1).toInt = 0 ∨ (tO 1).toInt < (tO' 1).toInt) ∧ ((vO' 4).toInt = (vO 4).toInt) ∧ va_P (dC, dI) vwCl (List.flatten [(wMO qO k widthO manyO cellsO movedO (qTa 0) linesO hasO bridgeO cartO wardO frostAtO actO isKeptO loadNowO byNowO rowO memoryO whoseO deepNowO brokenByO brokenAtO goesByO comesToO sagMoreO creakOfO wipedByO deepAtO sagAtO loadAtO orderRowO oftenO lossOneO lossOtherO vO' tO' mO' gO')] ++ List.flatten [(wmTa qTa k aTa)]) t.heap) (va_A (List.flatten [(wMO qO k widthO manyO cellsO movedO (qTa 0) linesO hasO bridgeO cartO wardO frostAtO actO isKeptO loadNowO byNowO rowO memoryO whoseO deepNowO brokenByO brokenAtO goesByO comesToO sagMoreO creakOfO wipedByO deepAtO sagAtO loadAtO orderRowO oftenO lossOneO lossOtherO vO tO mO gO)] ++ List.flatten [(wmTa qTa k aTa)]) sz)) 0 0 (va_A (List.flatten [(wMO qO k widthO manyO cellsO movedO (qTa 0) linesO hasO bridgeO cartO wardO frostAtO actO isKeptO loadNowO byNowO rowO memoryO whoseO deepNowO brokenByO brokenAtO goesByO comesToO sagMoreO creakOfO wipedByO deepAtO sagAtO loadAtO orderRowO oftenO lossOneO lossOtherO vO tO mO gO)] ++ List.flatten [(wmTa qTa k aTa)]) sz) := by
  refine Met.ofW (cc := cX12_next) (maxL := 2) (ret := none) (by decide) rfl ?_
  intro p e s m args below meth c s₁ B hml hv
  obtain ⟨rfl, hsz, hP, hK, hD0⟩ := hv
  have hx := B.exec
  have hb := B.bytes
  have hr := B.returns
  have hts := atoms_spec (ws := wk_c_X12_next) B.pre
  have hown : s.vm.findClass RX12 = some m.cls := findClass_of_methodNamed B.named
  have hlocks := B.notSynchronized
  subst hsz
  have hD := hD0.self (sz := s.heap.size)
  generalize hAe : va_A (List.flatten [(wMO qO k widthO manyO cellsO movedO (qTa 0) linesO hasO bridgeO cartO wardO frostAtO actO isKeptO loadNowO byNowO rowO memoryO whoseO deepNowO brokenByO brokenAtO goesByO comesToO sagMoreO creakOfO wipedByO deepAtO sagAtO loadAtO orderRowO oftenO lossOneO lossOtherO vO tO mO gO)] ++ List.flatten [(wmTa qTa k aTa)]) s.heap.size = A at hD ⊢
  have hA : ∀ q : Nat, s.heap.size ≤ q → A q := fun q h => by rw [← hAe]; exact Or.inr h
  have hS : va_S A s.heap s.heap [] := va_S.rf
  have hP : va_P (dC, dI) vwCl (List.flatten [(wMO qO k widthO manyO cellsO movedO (qTa 0) linesO hasO bridgeO cartO wardO frostAtO actO isKeptO loadNowO byNowO rowO memoryO whoseO deepNowO brokenByO brokenAtO goesByO comesToO sagMoreO creakOfO wipedByO deepAtO sagAtO loadAtO orderRowO oftenO lossOneO lossOtherO vO tO mO gO)] ++ List.flatten [(wmTa qTa k aTa)]) s.heap := hP
  have hl := lv_entry ([.ref (qO 0)]) (n := 2) (Nat.le_of_ble_eq_true rfl)
  rw [lg_entry_eq]
  generalize (lg_sl ([.ref (qO 0)]) ++ List.replicate (2 - (lg_sl ([.ref (qO 0)])).length) Slot.unset).toArray = ls at hl ⊢
  have hl : lv_has ls 2 [(0, .ref (qO 0))] := hl
  refine w_gen (fun Q hQ => ?_)
  have lp0_kz357 : ∀ (n9_0 : Nat) (H : Heap) (locs : List Loc) (ls : Array Slot) (tz356 : Nat → Int32), (700 - (tz356 1).toInt).toNat < n9_0 → Rg 0 700 tz356 → (tz356 0).toInt = (tO 0).toInt → (tz356 1).toInt ≤ (tz356 0).toInt → (tO 1).toInt ≤ (tz356 1).toInt → (vO 4).toInt = (vO 4).toInt → va_P (dC, dI) vwCl (List.flatten [(wMO qO k widthO manyO cellsO movedO (qTa 0) linesO hasO bridgeO cartO wardO frostAtO actO isKeptO loadNowO byNowO rowO memoryO whoseO deepNowO brokenByO brokenAtO goesByO comesToO sagMoreO creakOfO wipedByO deepAtO sagAtO loadAtO orderRowO oftenO lossOneO lossOtherO vO tz356 mO gO)] ++ List.flatten [(wmTa qTa k aTa)]) H → va_D A (List.flatten [(wMO qO k widthO manyO cellsO movedO (qTa 0) linesO hasO bridgeO cartO wardO frostAtO actO isKeptO loadNowO byNowO rowO memoryO whoseO deepNowO brokenByO brokenAtO goesByO comesToO sagMoreO creakOfO wipedByO deepAtO sagAtO loadAtO orderRowO oftenO lossOneO lossOtherO vO tz356 mO gO)] ++ List.flatten [(wmTa qTa k aTa)]) → va_S A s.heap H locs → lv_has ls 2 [(0, .ref (qO 0))] → W p l e (headSpec wk_c_X12_next ({ frames := 1, cells := 0, slots := 0, locals := 23 })).room s m ([.ref (qO 0)] : List Value).toArray below meth c H locs 0 0 Q (F0 m 0 ls []) := by
    intro n9_0
    induction n9_0 with
    | zero => intro H locs ls tz356 hm; exact absurd hm (Nat.not_lt_zero _)
    | succ n9_0 ih0 =>
      intro H locs ls tz356 hm0 htz356 jz358 jz359 jz360 jz361 hP hD hS hl
      refine lv_aload_n hx hb dX12_next_0 rfl (lv_at hl 0 rfl) ?_
      refine lv_aload_n hx hb dX12_next_1 rfl (lv_at hl 0 rfl) ?_
      refine va_get (D := (dC, dI)) (ci := 12) (v := .int (tz356 1)) (C := RX12) (T := TX12) (N := 59) hx hb hts (fun w h => List.mem_cons_of_mem _ (List.mem_append_right _ (List.mem_append_left _ h))) hown hK hP 0 rfl rfl 7 (by decide) (hts (.fieldLink RX12 140 "SagMemoryModel" "spot" "I") (wl_mem 0 rfl)) (fun _ h9 => h9) rfl dX12_next_2 ?_
      have bz362 := htz356 1
      refine lv_bipush (v := 32) hx hb dX12_next_5 (by decide) ?_
      refine lv_bipush (v := 32) hx hb dX12_next_7 (by decide) ?_
      have hPc := hP.sub (ws' := (List.flatten [(wMO qO k widthO manyO cellsO movedO (qTa 0) linesO hasO bridgeO cartO wardO frostAtO actO isKeptO loadNowO byNowO rowO memoryO whoseO deepNowO brokenByO brokenAtO goesByO comesToO sagMoreO creakOfO wipedByO deepAtO sagAtO loadAtO orderRowO oftenO lossOneO lossOtherO vO tz356 mO gO), (wmTa qTa k aTa)])) [0, 1] rfl
      refine vp_callSi (va_Run.run (va_runV (As := [.int (tz356 1), .int 32, .int 32]) (rest := []) ⟨hx, hb, hml, hown, hts⟩ (c_X12_isByte l dC dI k qO widthO manyO cellsO movedO linesO hasO bridgeO cartO wardO frostAtO actO isKeptO loadNowO byNowO rowO memoryO whoseO deepNowO brokenByO brokenAtO goesByO comesToO sagMoreO creakOfO wipedByO deepAtO sagAtO loadAtO orderRowO oftenO lossOneO lossOtherO vO tz356 mO gO qTa aTa (tz356 1) (32 : Int32) (32 : Int32) htz356 hmO (by show 0 ≤ (tz356 1).toInt; omega)) (cwV 3 hts (gk_V (wl_mem 1 rfl) (wl_mem 2 rfl) (wl_mem 3 rfl) (wl_mem 4 rfl) (fun w h => List.mem_cons_of_mem _ (List.mem_append_right _ (List.mem_append_right _ (List.mem_append_left _ h)))) wkg_c_X12_isByte) rfl rfl rfl (by decide +kernel) ⟨Nat.le_of_ble_eq_true rfl, Nat.le_of_ble_eq_true rfl⟩) ⟨fun a U g mk q => by obtain ⟨q0, qP, qK⟩ := q; exact ⟨q0, qP, va_K.moved (u := U) (U := U.calling g mk a) (Vm.Alike.refl U.vm) qK⟩, va_recv hK hPc (ci := 12) (q0 := 0) rfl rfl, fun U hU hW => ⟨rfl, by rw [hU]; exact hPc, va_K.moved hW.alike hK⟩⟩ rfl rfl hl.1 rfl (lv_room (Nat.le_of_ble_eq_true rfl)) dX12_next_9 ⟨Nat.le_of_ble_eq_true rfl, Nat.le_of_ble_eq_true rfl⟩)) (fun rz364 gz363 => ?_)
      clear hPc
      obtain ⟨pz365, pz366⟩ := gz363
      have pz365 : (rz364.toInt = 1 ∧ (tz356 1).toInt < (tz356 0).toInt ∧ (32 : Int) ≤ ((aTa 0) (tz356 1).toNatClampNeg).toInt ∧ ((aTa 0) (tz356 1).toNatClampNeg).toInt ≤ (32 : Int)) ∨ (rz364.toInt = 0 ∧ ((tz356 0).toInt ≤ (tz356 1).toInt ∨ ((aTa 0) (tz356 1).toNatClampNeg).toInt < (32 : Int) ∨ (32 : Int) < ((aTa 0) (tz356 1).toNatClampNeg).toInt)) := pz365
      have pz366 : rz364.toInt = 0 ∨ rz364.toInt = 1 := pz366
      have bz367 := htz356 0
      have ct30_kz696 : ∀ (H : Heap) (locs : List Loc) (ls : Array Slot), (tz356 1).toInt < (tz356 0).toInt → (tz356 0).toInt = (tO 0).toInt → (tz356 1).toInt ≤ (tz356 0).toInt → (tO 1).toInt ≤ (tz356 1).toInt → (vO 4).toInt = (vO 4).toInt → va_P (dC, dI) vwCl (List.flatten [(wMO qO k widthO manyO cellsO movedO (qTa 0) linesO hasO bridgeO cartO wardO frostAtO actO isKeptO loadNowO byNowO rowO memoryO whoseO deepNowO brokenByO brokenAtO goesByO comesToO sagMoreO creakOfO wipedByO deepAtO sagAtO loadAtO orderRowO oftenO lossOneO lossOtherO vO tz356 mO gO)] ++ List.flatten [(wmTa qTa k aTa)]) H → va_D A (List.flatten [(wMO qO k widthO manyO cellsO movedO (qTa 0) linesO hasO bridgeO cartO wardO frostAtO actO isKeptO loadNowO byNowO rowO memoryO whoseO deepNowO brokenByO brokenAtO goesByO comesToO sagMoreO creakOfO wipedByO deepAtO sagAtO loadAtO orderRowO oftenO lossOneO lossOtherO vO tz356 mO gO)] ++ List.flatten [(wmTa qTa k aTa)]) → va_S A s.heap H locs → lv_has ls 2 [(0, .ref (qO 0))] → W p l e (headSpec wk_c_X12_next ({ frames := 1, cells := 0, slots := 0, locals := 23 })).room s m ([.ref (qO 0)] : List Value).toArray below meth c H locs 0 0 Q (F0 m 30 ls []) := by
        intro H locs ls jz697 jz698 jz699 jz700 jz701 hP hD hS hl
        refine lv_aload_n hx hb dX12_next_30 rfl (lv_at hl 0 rfl) ?_
        refine lv_dup hx hb dX12_next_31 rfl ?_
        refine va_get (D := (dC, dI)) (ci := 12) (v := .int (tz356 1)) (C := RX12) (T := TX12) (N := 59) hx hb hts (fun w h => List.mem_cons_of_mem _ (List.mem_append_right _ (List.mem_append_left _ h))) hown hK hP 0 rfl rfl 7 (by decide) (hts (.fieldLink RX12 140 "SagMemoryModel" "spot" "I") (wl_mem 0 rfl)) (fun _ h9 => h9) rfl dX12_next_32 ?_
        refine lv_iconst (v := 1) hx hb dX12_next_35 (by decide) ?_
        refine lv_iadd hx hb dX12_next_36 ?_
        refine lv_topi (fun xz702 exz702 => ?_)
        have fxz702 : xz702.toInt = (tz356 1).toInt + (1 : Int) := by rw [exz702]; exact fb_addI (x := (tz356 1)) (y := (1 : Int32)) (by show -2147483648 ≤ (tz356 1).toInt + (1 : Int); omega) (by show (tz356 1).toInt + (1 : Int) < 2147483648; omega)
        refine va_put (D := (dC, dI)) (ci := 12) (v := .int xz702) (ty := .int) (C := RX12) (T := TX12) (N := 59) hx hb hts (fun w h => List.mem_cons_of_mem _ (List.mem_append_right _ (List.mem_append_left _ h))) tyX12 tyX12_ok nmX12 hown hK hP hD hS 0 rfl rfl 7 (by decide) (hts (.fieldLink RX12 140 "SagMemoryModel" "spot" "I") (wl_mem 0 rfl)) (fun _ h9 => h9) rfl (by decide +kernel) rfl rfl (Nat.le_of_ble_eq_true rfl) dX12_next_37 (fun H locs hP hD hS => ?_)
        have hP : va_P (dC, dI) vwCl (List.flatten [(wMO qO k widthO manyO cellsO movedO (qTa 0) linesO hasO bridgeO cartO wardO frostAtO actO isKeptO loadNowO byNowO rowO memoryO whoseO deepNowO brokenByO brokenAtO goesByO comesToO sagMoreO creakOfO wipedByO deepAtO sagAtO loadAtO orderRowO oftenO lossOneO lossOtherO vO (va_up tz356 1 xz702) mO gO)] ++ List.flatten [(wmTa qTa k aTa)]) H := hP
        have hD : va_D A (List.flatten [(wMO qO k widthO manyO cellsO movedO (qTa 0) linesO hasO bridgeO cartO wardO frostAtO actO isKeptO loadNowO byNowO rowO memoryO whoseO deepNowO brokenByO brokenAtO goesByO comesToO sagMoreO creakOfO wipedByO deepAtO sagAtO loadAtO orderRowO oftenO lossOneO lossOtherO vO (va_up tz356 1 xz702) mO gO)] ++ List.flatten [(wmTa qTa k aTa)]) := hD
        refine lv_goto (tgt := 0) hx hb dX12_next_40 (by decide) ?_
        exact ih0 H locs ls (va_up tz356 1 xz702) (by show (700 - xz702.toInt).toNat < n9_0; omega) (rg_up htz356 (by show 0 ≤ xz702.toInt ∧ xz702.toInt ≤ 700; omega)) (by show (tz356 0).toInt = (tO 0).toInt; omega) (by show xz702.toInt ≤ (tz356 0).toInt; omega) (by show (tO 1).toInt ≤ xz702.toInt; omega) (by show (vO 4).toInt = (vO 4).toInt; omega) hP hD hS (lv_sub hl [0] rfl)
      refine lv_if_ne (tgt := 30) hx hb dX12_next_12 (by decide) (fun cz703 => ?_) (fun cz703 => ?_)
      · skip
        have zz704 : ¬ rz364.toInt = (0 : Int) := fun h9 => cz703 (zi_eq.mpr h9)
        exact ct30_kz696 H locs ls  (by show (tz356 1).toInt < (tz356 0).toInt; omega) (by show (tz356 0).toInt = (tO 0).toInt; omega) (by show (tz356 1).toInt ≤ (tz356 0).toInt; omega) (by show (tO 1).toInt ≤ (tz356 1).toInt; omega) (by show (vO 4).toInt = (vO 4).toInt; omega) hP hD hS (lv_sub hl [0] rfl)
      · skip
        have zz705 : rz364.toInt = (0 : Int) := zi_eq.mp cz703
        refine lv_aload_n hx hb dX12_next_15 rfl (lv_at hl 0 rfl) ?_
        refine lv_aload_n hx hb dX12_next_16 rfl (lv_at hl 0 rfl) ?_
        refine va_get (D := (dC, dI)) (ci := 12) (v := .int (tz356 1)) (C := RX12) (T := TX12) (N := 59) hx hb hts (fun w h => List.mem_cons_of_mem _ (List.mem_append_right _ (List.mem_append_left _ h))) hown hK hP 0 rfl rfl 7 (by decide) (hts (.fieldLink RX12 140 "SagMemoryModel" "spot" "I") (wl_mem 0 rfl)) (fun _ h9 => h9) rfl dX12_next_17 ?_
        refine lv_bipush (v := 10) hx hb dX12_next_20 (by decide) ?_
        refine lv_bipush (v := 10) hx hb dX12_next_22 (by decide) ?_
        have hPc := hP.sub (ws' := (List.flatten [(wMO qO k widthO manyO cellsO movedO (qTa 0) linesO hasO bridgeO cartO wardO frostAtO actO isKeptO loadNowO byNowO rowO memoryO whoseO deepNowO brokenByO brokenAtO goesByO comesToO sagMoreO creakOfO wipedByO deepAtO sagAtO loadAtO orderRowO oftenO lossOneO lossOtherO vO tz356 mO gO), (wmTa qTa k aTa)])) [0, 1] rfl
        refine vp_callSi (va_Run.run (va_runV (As := [.int (tz356 1), .int 10, .int 10]) (rest := []) ⟨hx, hb, hml, hown, hts⟩ (c_X12_isByte l dC dI k qO widthO manyO cellsO movedO linesO hasO bridgeO cartO wardO frostAtO actO isKeptO loadNowO byNowO rowO memoryO whoseO deepNowO brokenByO brokenAtO goesByO comesToO sagMoreO creakOfO wipedByO deepAtO sagAtO loadAtO orderRowO oftenO lossOneO lossOtherO vO tz356 mO gO qTa aTa (tz356 1) (10 : Int32) (10 : Int32) htz356 hmO (by show 0 ≤ (tz356 1).toInt; omega)) (cwV 3 hts (gk_V (wl_mem 1 rfl) (wl_mem 2 rfl) (wl_mem 3 rfl) (wl_mem 4 rfl) (fun w h => List.mem_cons_of_mem _ (List.mem_append_right _ (List.mem_append_right _ (List.mem_append_left _ h)))) wkg_c_X12_isByte) rfl rfl rfl (by decide +kernel) ⟨Nat.le_of_ble_eq_true rfl, Nat.le_of_ble_eq_true rfl⟩) ⟨fun a U g mk q => by obtain ⟨q0, qP, qK⟩ := q; exact ⟨q0, qP, va_K.moved (u := U) (U := U.calling g mk a) (Vm.Alike.refl U.vm) qK⟩, va_recv hK hPc (ci := 12) (q0 := 0) rfl rfl, fun U hU hW => ⟨rfl, by rw [hU]; exact hPc, va_K.moved hW.alike hK⟩⟩ rfl rfl hl.1 rfl (lv_room (Nat.le_of_ble_eq_true rfl)) dX12_next_24 ⟨Nat.le_of_ble_eq_true rfl, Nat.le_of_ble_eq_true rfl⟩)) (fun rz707 gz706 => ?_)
        clear hPc
        obtain ⟨pz708, pz709⟩ := gz706
        have pz708 : (rz707.toInt = 1 ∧ (tz356 1).toInt < (tz356 0).toInt ∧ (10 : Int) ≤ ((aTa 0) (tz356 1).toNatClampNeg).toInt ∧ ((aTa 0) (tz356 1).toNatClampNeg).toInt ≤ (10 : Int)) ∨ (rz707.toInt = 0 ∧ ((tz356 0).toInt ≤ (tz356 1).toInt ∨ ((aTa 0) (tz356 1).toNatClampNeg).toInt < (10 : Int) ∨ (10 : Int) < ((aTa 0) (tz356 1).toNatClampNeg).toInt)) := pz708
        have pz709 : rz707.toInt = 0 ∨ rz707.toInt = 1 := pz709
        refine lv_if_eq (tgt := 43) hx hb dX12_next_27 (by decide) (fun cz710 => ?_) (fun cz710 => ?_)
        · skip
          have zz711 : rz707.toInt = (0 : Int) := zi_eq.mp cz710
          refine lv_aload_n hx hb dX12_next_43 rfl (lv_at hl 0 rfl) ?_
          refine lv_aload_n hx hb dX12_next_44 rfl (lv_at hl 0 rfl) ?_
          refine va_get (D := (dC, dI)) (ci := 12) (v := .int (tz356 1)) (C := RX12) (T := TX12) (N := 59) hx hb hts (fun w h => List.mem_cons_of_mem _ (List.mem_append_right _ (List.mem_append_left _ h))) hown hK hP 0 rfl rfl 7 (by decide) (hts (.fieldLink RX12 140 "SagMemoryModel" "spot" "I") (wl_mem 0 rfl)) (fun _ h9 => h9) rfl dX12_next_45 ?_
          refine va_put (D := (dC, dI)) (ci := 12) (v := .int (tz356 1)) (ty := .int) (C := RX12) (T := TX12) (N := 59) hx hb hts (fun w h => List.mem_cons_of_mem _ (List.mem_append_right _ (List.mem_append_left _ h))) tyX12 tyX12_ok nmX12 hown hK hP hD hS 0 rfl rfl 9 (by decide) (hts (.fieldLink RX12 147 "SagMemoryModel" "place" "I") (wl_mem 5 rfl)) (fun _ h9 => h9) rfl (by decide +kernel) rfl rfl (Nat.le_of_ble_eq_true rfl) dX12_next_48 (fun H locs hP hD hS => ?_)
          have hP : va_P (dC, dI) vwCl (List.flatten [(wMO qO k widthO manyO cellsO movedO (qTa 0) linesO hasO bridgeO cartO wardO frostAtO actO isKeptO loadNowO byNowO rowO memoryO whoseO deepNowO brokenByO brokenAtO goesByO comesToO sagMoreO creakOfO wipedByO deepAtO sagAtO loadAtO orderRowO oftenO lossOneO lossOtherO (va_up vO 2 (tz356 1)) tz356 mO gO)] ++ List.flatten [(wmTa qTa k aTa)]) H := hP
          have hD : va_D A (List.flatten [(wMO qO k widthO manyO cellsO movedO (qTa 0) linesO hasO bridgeO cartO wardO frostAtO actO isKeptO loadNowO byNowO rowO memoryO whoseO deepNowO brokenByO brokenAtO goesByO comesToO sagMoreO creakOfO wipedByO deepAtO sagAtO loadAtO orderRowO oftenO lossOneO lossOtherO (va_up vO 2 (tz356 1)) tz356 mO gO)] ++ List.flatten [(wmTa qTa k aTa)]) := hD
          refine lv_aload_n hx hb dX12_next_51 rfl (lv_at hl 0 rfl) ?_
          refine lv_iconst (v := 0) hx hb dX12_next_52 (by decide) ?_
          refine va_put (D := (dC, dI)) (ci := 12) (v := .int 0) (ty := .int) (C := RX12) (T := TX12) (N := 59) hx hb hts (fun w h => List.mem_cons_of_mem _ (List.mem_append_right _ (List.mem_append_left _ h))) tyX12 tyX12_ok nmX12 hown hK hP hD hS 0 rfl rfl 10 (by decide) (hts (.fieldLink RX12 150 "SagMemoryModel" "value" "I") (wl_mem 6 rfl)) (fun _ h9 => h9) rfl (by decide +kernel) rfl rfl (Nat.le_of_ble_eq_true rfl) dX12_next_53 (fun H locs hP hD hS => ?_)
          have hP : va_P (dC, dI) vwCl (List.flatten [(wMO qO k widthO manyO cellsO movedO (qTa 0) linesO hasO bridgeO cartO wardO frostAtO actO isKeptO loadNowO byNowO rowO memoryO whoseO deepNowO brokenByO brokenAtO goesByO comesToO sagMoreO creakOfO wipedByO deepAtO sagAtO loadAtO orderRowO oftenO lossOneO lossOtherO (va_up (va_up vO 2 (tz356 1)) 3 (0 : Int32)) tz356 mO gO)] ++ List.flatten [(wmTa qTa k aTa)]) H := hP
          have hD : va_D A (List.flatten [(wMO qO k widthO manyO cellsO movedO (qTa 0) linesO hasO bridgeO cartO wardO frostAtO actO isKeptO loadNowO byNowO rowO memoryO whoseO deepNowO brokenByO brokenAtO goesByO comesToO sagMoreO creakOfO wipedByO deepAtO sagAtO loadAtO orderRowO oftenO lossOneO lossOtherO (va_up (va_up vO 2 (tz356 1)) 3 (0 : Int32)) tz356 mO gO)] ++ List.flatten [(wmTa qTa k aTa)]) := hD
          refine lv_aload_n hx hb dX12_next_56 rfl (lv_at hl 0 rfl) ?_
          refine lv_lconst (v := 0) hx hb dX12_next_57 (by decide) ?_
          refine va_put (D := (dC, dI)) (ci := 12) (v := .long 0) (ty := .long) (C := RX12) (T := TX12) (N := 59) hx hb hts (fun w h => List.mem_cons_of_mem _ (List.mem_append_right _ (List.mem_append_left _ h))) tyX12 tyX12_ok nmX12 hown hK hP hD hS 0 rfl rfl 11 (by decide) (hts (.fieldLink RX12 153 "SagMemoryModel" "word" "J") (wl_mem 7 rfl)) (fun _ h9 => h9) rfl (by decide +kernel) rfl rfl (Nat.le_of_ble_eq_true rfl) dX12_next_58 (fun H locs hP hD hS => ?_)
          have hP : va_P (dC, dI) vwCl (List.flatten [(wMO qO k widthO manyO cellsO movedO (qTa 0) linesO hasO bridgeO cartO wardO frostAtO actO isKeptO loadNowO byNowO rowO memoryO whoseO deepNowO brokenByO brokenAtO goesByO comesToO sagMoreO creakOfO wipedByO deepAtO sagAtO loadAtO orderRowO oftenO lossOneO lossOtherO (va_up (va_up vO 2 (tz356 1)) 3 (0 : Int32)) tz356 mO (va_up gO 0 (0 : Int64)))] ++ List.flatten [(wmTa qTa k aTa)]) H := hP
          have hD : va_D A (List.flatten [(wMO qO k widthO manyO cellsO movedO (qTa 0) linesO hasO bridgeO cartO wardO frostAtO actO isKeptO loadNowO byNowO rowO memoryO whoseO deepNowO brokenByO brokenAtO goesByO comesToO sagMoreO creakOfO wipedByO deepAtO sagAtO loadAtO orderRowO oftenO lossOneO lossOtherO (va_up (va_up vO 2 (tz356 1)) 3 (0 : Int32)) tz356 mO (va_up gO 0 (0 : Int64)))] ++ List.flatten [(wmTa qTa k aTa)]) := hD
          refine lv_aload_n hx hb dX12_next_61 rfl (lv_at hl 0 rfl) ?_
          refine va_get (D := (dC, dI)) (ci := 12) (v := .int (tz356 1)) (C := RX12) (T := TX12) (N := 59) hx hb hts (fun w h => List.mem_cons_of_mem _ (List.mem_append_right _ (List.mem_append_left _ h))) hown hK hP 0 rfl rfl 7 (by decide) (hts (.fieldLink RX12 140 "SagMemoryModel" "spot" "I") (wl_mem 0 rfl)) (fun _ h9 => h9) rfl dX12_next_62 ?_
          refine lv_aload_n hx hb dX12_next_65 rfl (lv_at hl 0 rfl) ?_
          refine va_get (D := (dC, dI)) (ci := 12) (v := .int (tz356 0)) (C := RX12) (T := TX12) (N := 59) hx hb hts (fun w h => List.mem_cons_of_mem _ (List.mem_append_right _ (List.mem_append_left _ h))) hown hK hP 0 rfl rfl 6 (by decide) (hts (.fieldLink RX12 133 "SagMemoryModel" "taped" "I") (wl_mem 8 rfl)) (fun _ h9 => h9) rfl dX12_next_66 ?_
          refine lv_icmp_ne (tgt := 80) hx hb dX12_next_69 (by decide) (fun cz712 => ?_) (fun cz712 => ?_)
          · skip
            have zz713 : ¬ (tz356 1).toInt = (tz356 0).toInt := fun h9 => cz712 (zi_eq.mpr h9)
            refine lv_aload_n hx hb dX12_next_80 rfl (lv_at hl 0 rfl) ?_
            refine lv_aload_n hx hb dX12_next_81 rfl (lv_at hl 0 rfl) ?_
            refine va_get (D := (dC, dI)) (ci := 12) (v := .int (tz356 1)) (C := RX12) (T := TX12) (N := 59) hx hb hts (fun w h => List.mem_cons_of_mem _ (List.mem_append_right _ (List.mem_append_left _ h))) hown hK hP 0 rfl rfl 7 (by decide) (hts (.fieldLink RX12 140 "SagMemoryModel" "spot" "I") (wl_mem 0 rfl)) (fun _ h9 => h9) rfl dX12_next_82 ?_
            refine lv_bipush (v := 97) hx hb dX12_next_85 (by decide) ?_
            refine lv_bipush (v := 122) hx hb dX12_next_87 (by decide) ?_
            have hPc := hP.sub (ws' := (List.flatten [(wMO qO k widthO manyO cellsO movedO (qTa 0) linesO hasO bridgeO cartO wardO frostAtO actO isKeptO loadNowO byNowO rowO memoryO whoseO deepNowO brokenByO brokenAtO goesByO comesToO sagMoreO creakOfO wipedByO deepAtO sagAtO loadAtO orderRowO oftenO lossOneO lossOtherO (va_up (va_up vO 2 (tz356 1)) 3 (0 : Int32)) tz356 mO (va_up gO 0 (0 : Int64))), (wmTa qTa k aTa)])) [0, 1] rfl
            refine vp_callSi (va_Run.run (va_runV (As := [.int (tz356 1), .int 97, .int 122]) (rest := []) ⟨hx, hb, hml, hown, hts⟩ (c_X12_isByte l dC dI k qO widthO manyO cellsO movedO linesO hasO bridgeO cartO wardO frostAtO actO isKeptO loadNowO byNowO rowO memoryO whoseO deepNowO brokenByO brokenAtO goesByO comesToO sagMoreO creakOfO wipedByO deepAtO sagAtO loadAtO orderRowO oftenO lossOneO lossOtherO (va_up (va_up vO 2 (tz356 1)) 3 (0 : Int32)) tz356 mO (va_up gO 0 (0 : Int64)) qTa aTa (tz356 1) (97 : Int32) (122 : Int32) htz356 hmO (by show 0 ≤ (tz356 1).toInt; omega)) (cwV 3 hts (gk_V (wl_mem 1 rfl) (wl_mem 2 rfl) (wl_mem 3 rfl) (wl_mem 4 rfl) (fun w h => List.mem_cons_of_mem _ (List.mem_append_right _ (List.mem_append_right _ (List.mem_append_left _ h)))) wkg_c_X12_isByte) rfl rfl rfl (by decide +kernel) ⟨Nat.le_of_ble_eq_true rfl, Nat.le_of_ble_eq_true rfl⟩) ⟨fun a U g mk q => by obtain ⟨q0, qP, qK⟩ := q; exact ⟨q0, qP, va_K.moved (u := U) (U := U.calling g mk a) (Vm.Alike.refl U.vm) qK⟩, va_recv hK hPc (ci := 12) (q0 := 0) rfl rfl, fun U hU hW => ⟨rfl, by rw [hU]; exact hPc, va_K.moved hW.alike hK⟩⟩ rfl rfl hl.1 rfl (lv_room (Nat.le_of_ble_eq_true rfl)) dX12_next_89 ⟨Nat.le_of_ble_eq_true rfl, Nat.le_of_ble_eq_true rfl⟩)) (fun rz715 gz714 => ?_)
            clear hPc
            obtain ⟨pz716, pz717⟩ := gz714
            have pz716 : (rz715.toInt = 1 ∧ (tz356 1).toInt < (tz356 0).toInt ∧ (97 : Int) ≤ ((aTa 0) (tz356 1).toNatClampNeg).toInt ∧ ((aTa 0) (tz356 1).toNatClampNeg).toInt ≤ (122 : Int)) ∨ (rz715.toInt = 0 ∧ ((tz356 0).toInt ≤ (tz356 1).toInt ∨ ((aTa 0) (tz356 1).toNatClampNeg).toInt < (97 : Int) ∨ (122 : Int) < ((aTa 0) (tz356 1).toNatClampNeg).toInt)) := pz716
            have pz717 : rz715.toInt = 0 ∨ rz715.toInt = 1 := pz717
            refine lv_if_eq (tgt := 188) hx hb dX12_next_92 (by decide) (fun cz718 => ?_) (fun cz718 => ?_)
            · skip
              have zz719 : rz715.toInt = (0 : Int) := zi_eq.mp cz718
              refine lv_aload_n hx hb dX12_next_188 rfl (lv_at hl 0 rfl) ?_
              refine lv_aload_n hx hb dX12_next_189 rfl (lv_at hl 0 rfl) ?_
              refine va_get (D := (dC, dI)) (ci := 12) (v := .int (tz356 1)) (C := RX12) (T := TX12) (N := 59) hx hb hts (fun w h => List.mem_cons_of_mem _ (List.mem_append_right _ (List.mem_append_left _ h))) hown hK hP 0 rfl rfl 7 (by decide) (hts (.fieldLink RX12 140 "SagMemoryModel" "spot" "I") (wl_mem 0 rfl)) (fun _ h9 => h9) rfl dX12_next_190 ?_
              refine lv_bipush (v := 48) hx hb dX12_next_193 (by decide) ?_
              refine lv_bipush (v := 57) hx hb dX12_next_195 (by decide) ?_
              have hPc := hP.sub (ws' := (List.flatten [(wMO qO k widthO manyO cellsO movedO (qTa 0) linesO hasO bridgeO cartO wardO frostAtO actO isKeptO loadNowO byNowO rowO memoryO whoseO deepNowO brokenByO brokenAtO goesByO comesToO sagMoreO creakOfO wipedByO deepAtO sagAtO loadAtO orderRowO oftenO lossOneO lossOtherO (va_up (va_up vO 2 (tz356 1)) 3 (0 : Int32)) tz356 mO (va_up gO 0 (0 : Int64))), (wmTa qTa k aTa)])) [0, 1] rfl
              refine vp_callSi (va_Run.run (va_runV (As := [.int (tz356 1), .int 48, .int 57]) (rest := []) ⟨hx, hb, hml, hown, hts⟩ (c_X12_isByte l dC dI k qO widthO manyO cellsO movedO linesO hasO bridgeO cartO wardO frostAtO actO isKeptO loadNowO byNowO rowO memoryO whoseO deepNowO brokenByO brokenAtO goesByO comesToO sagMoreO creakOfO wipedByO deepAtO sagAtO loadAtO orderRowO oftenO lossOneO lossOtherO (va_up (va_up vO 2 (tz356 1)) 3 (0 : Int32)) tz356 mO (va_up gO 0 (0 : Int64)) qTa aTa (tz356 1) (48 : Int32) (57 : Int32) htz356 hmO (by show 0 ≤ (tz356 1).toInt; omega)) (cwV 3 hts (gk_V (wl_mem 1 rfl) (wl_mem 2 rfl) (wl_mem 3 rfl) (wl_mem 4 rfl) (fun w h => List.mem_cons_of_mem _ (List.mem_append_right _ (List.mem_append_right _ (List.mem_append_left _ h)))) wkg_c_X12_isByte) rfl rfl rfl (by decide +kernel) ⟨Nat.le_of_ble_eq_true rfl, Nat.le_of_ble_eq_true rfl⟩) ⟨fun a U g mk q => by obtain ⟨q0, qP, qK⟩ := q; exact ⟨q0, qP, va_K.moved (u := U) (U := U.calling g mk a) (Vm.Alike.refl U.vm) qK⟩, va_recv hK hPc (ci := 12) (q0 := 0) rfl rfl, fun U hU hW => ⟨rfl, by rw [hU]; exact hPc, va_K.moved hW.alike hK⟩⟩ rfl rfl hl.1 rfl (lv_room (Nat.le_of_ble_eq_true rfl)) dX12_next_197 ⟨Nat.le_of_ble_eq_true rfl, Nat.le_of_ble_eq_true rfl⟩)) (fun rz721 gz720 => ?_)
              clear hPc
              obtain ⟨pz722, pz723⟩ := gz720
              have pz722 : (rz721.toInt = 1 ∧ (tz356 1).toInt < (tz356 0).toInt ∧ (48 : Int) ≤ ((aTa 0) (tz356 1).toNatClampNeg).toInt ∧ ((aTa 0) (tz356 1).toNatClampNeg).toInt ≤ (57 : Int)) ∨ (rz721.toInt = 0 ∧ ((tz356 0).toInt ≤ (tz356 1).toInt ∨ ((aTa 0) (tz356 1).toNatClampNeg).toInt < (48 : Int) ∨ (57 : Int) < ((aTa 0) (tz356 1).toNatClampNeg).toInt)) := pz722
              have pz723 : rz721.toInt = 0 ∨ rz721.toInt = 1 := pz723
              refine lv_if_eq (tgt := 274) hx hb dX12_next_200 (by decide) (fun cz724 => ?_) (fun cz724 => ?_)
              · skip
                have zz725 : rz721.toInt = (0 : Int) := zi_eq.mp cz724
                refine lv_aload_n hx hb dX12_next_274 rfl (lv_at hl 0 rfl) ?_
                refine lv_aload_n hx hb dX12_next_275 rfl (lv_at hl 0 rfl) ?_
                refine va_get (D := (dC, dI)) (ci := 12) (v := .ref (qTa 0)) (C := RX12) (T := TX12) (N := 59) hx hb hts (fun w h => List.mem_cons_of_mem _ (List.mem_append_right _ (List.mem_append_left _ h))) hown hK hP 0 rfl rfl 5 (by decide) (hts (.fieldLink RX12 23 "SagMemoryModel" "tape" "[B") (wl_mem 9 rfl)) (fun _ h9 => h9) rfl dX12_next_276 ?_
                refine lv_aload_n hx hb dX12_next_279 rfl (lv_at hl 0 rfl) ?_
                refine va_get (D := (dC, dI)) (ci := 12) (v := .int (tz356 1)) (C := RX12) (T := TX12) (N := 59) hx hb hts (fun w h => List.mem_cons_of_mem _ (List.mem_append_right _ (List.mem_append_left _ h))) hown hK hP 0 rfl rfl 7 (by decide) (hts (.fieldLink RX12 140 "SagMemoryModel" "spot" "I") (wl_mem 0 rfl)) (fun _ h9 => h9) rfl dX12_next_280 ?_
                refine va_bald hx hb hK hP 1 2 rfl rfl (vp_in_iff.mpr ⟨by omega, by omega⟩) dX12_next_283 ?_
                refine lv_topi (fun xz726 exz726 => ?_)
                have gxz726 : xz726.toInt = ((aTa 0) (tz356 1).toNatClampNeg).toInt := congrArg Int32.toInt exz726
                refine lv_bipush (v := 59) hx hb dX12_next_284 (by decide) ?_
                refine lv_icmp_ne (tgt := 293) hx hb dX12_next_286 (by decide) (fun cz732 => ?_) (fun cz732 => ?_)
                · skip
                  have zz733 : ¬ xz726.toInt = (59 : Int) := fun h9 => cz732 (zi_eq.mpr h9)
                  refine lv_iconst (v := 4) hx hb dX12_next_293 (by decide) ?_
                  refine va_put (D := (dC, dI)) (ci := 12) (v := .int 4) (ty := .int) (C := RX12) (T := TX12) (N := 59) hx hb hts (fun w h => List.mem_cons_of_mem _ (List.mem_append_right _ (List.mem_append_left _ h))) tyX12 tyX12_ok nmX12 hown hK hP hD hS 0 rfl rfl 8 (by decide) (hts (.fieldLink RX12 157 "SagMemoryModel" "token" "I") (wl_mem 10 rfl)) (fun _ h9 => h9) rfl (by decide +kernel) rfl rfl (Nat.le_of_ble_eq_true rfl) dX12_next_294 (fun H locs hP hD hS => ?_)
                  have hP : va_P (dC, dI) vwCl (List.flatten [(wMO qO k widthO manyO cellsO movedO (qTa 0) linesO hasO bridgeO cartO wardO frostAtO actO isKeptO loadNowO byNowO rowO memoryO whoseO deepNowO brokenByO brokenAtO goesByO comesToO sagMoreO creakOfO wipedByO deepAtO sagAtO loadAtO orderRowO oftenO lossOneO lossOtherO (va_up (va_up (va_up vO 2 (tz356 1)) 3 (0 : Int32)) 1 (4 : Int32)) tz356 mO (va_up gO 0 (0 : Int64)))] ++ List.flatten [(wmTa qTa k aTa)]) H := hP
                  have hD : va_D A (List.flatten [(wMO qO k widthO manyO cellsO movedO (qTa 0) linesO hasO bridgeO cartO wardO frostAtO actO isKeptO loadNowO byNowO rowO memoryO whoseO deepNowO brokenByO brokenAtO goesByO comesToO sagMoreO creakOfO wipedByO deepAtO sagAtO loadAtO orderRowO oftenO lossOneO lossOtherO (va_up (va_up (va_up vO 2 (tz356 1)) 3 (0 : Int32)) 1 (4 : Int32)) tz356 mO (va_up gO 0 (0 : Int64)))] ++ List.flatten [(wmTa qTa k aTa)]) := hD
                  refine lv_aload_n hx hb dX12_next_297 rfl (lv_at hl 0 rfl) ?_
                  refine lv_dup hx hb dX12_next_298 rfl ?_
                  refine va_get (D := (dC, dI)) (ci := 12) (v := .int (tz356 1)) (C := RX12) (T := TX12) (N := 59) hx hb hts (fun w h => List.mem_cons_of_mem _ (List.mem_append_right _ (List.mem_append_left _ h))) hown hK hP 0 rfl rfl 7 (by decide) (hts (.fieldLink RX12 140 "SagMemoryModel" "spot" "I") (wl_mem 0 rfl)) (fun _ h9 => h9) rfl dX12_next_299 ?_
                  refine lv_iconst (v := 1) hx hb dX12_next_302 (by decide) ?_
                  refine lv_iadd hx hb dX12_next_303 ?_
                  refine lv_topi (fun xz734 exz734 => ?_)
                  have fxz734 : xz734.toInt = (tz356 1).toInt + (1 : Int) := by rw [exz734]; exact fb_addI (x := (tz356 1)) (y := (1 : Int32)) (by show -2147483648 ≤ (tz356 1).toInt + (1 : Int); omega) (by show (tz356 1).toInt + (1 : Int) < 2147483648; omega)
                  refine va_put (D := (dC, dI)) (ci := 12) (v := .int xz734) (ty := .int) (C := RX12) (T := TX12) (N := 59) hx hb hts (fun w h => List.mem_cons_of_mem _ (List.mem_append_right _ (List.mem_append_left _ h))) tyX12 tyX12_ok nmX12 hown hK hP hD hS 0 rfl rfl 7 (by decide) (hts (.fieldLink RX12 140 "SagMemoryModel" "spot" "I") (wl_mem 0 rfl)) (fun _ h9 => h9) rfl (by decide +kernel) rfl rfl (Nat.le_of_ble_eq_true rfl) dX12_next_304 (fun H locs hP hD hS => ?_)
                  have hP : va_P (dC, dI) vwCl (List.flatten [(wMO qO k widthO manyO cellsO movedO (qTa 0) linesO hasO bridgeO cartO wardO frostAtO actO isKeptO loadNowO byNowO rowO memoryO whoseO deepNowO brokenByO brokenAtO goesByO comesToO sagMoreO creakOfO wipedByO deepAtO sagAtO loadAtO orderRowO oftenO lossOneO lossOtherO (va_up (va_up (va_up vO 2 (tz356 1)) 3 (0 : Int32)) 1 (4 : Int32)) (va_up tz356 1 xz734) mO (va_up gO 0 (0 : Int64)))] ++ List.flatten [(wmTa qTa k aTa)]) H := hP
                  have hD : va_D A (List.flatten [(wMO qO k widthO manyO cellsO movedO (qTa 0) linesO hasO bridgeO cartO wardO frostAtO actO isKeptO loadNowO byNowO rowO memoryO whoseO deepNowO brokenByO brokenAtO goesByO comesToO sagMoreO creakOfO wipedByO deepAtO sagAtO loadAtO orderRowO oftenO lossOneO lossOtherO (va_up (va_up (va_up vO 2 (tz356 1)) 3 (0 : Int32)) 1 (4 : Int32)) (va_up tz356 1 xz734) mO (va_up gO 0 (0 : Int64)))] ++ List.flatten [(wmTa qTa k aTa)]) := hD
                  rw [hQ]
                  exact W.vret hx hb hr (fun t ht hW => ⟨⟨(), rfl, trivial, (va_up (va_up (va_up vO 2 (tz356 1)) 3 (0 : Int32)) 1 (4 : Int32)), (va_up tz356 1 xz734), mO, (va_up gO 0 (0 : Int64)), (rg_up htz356 (by show 0 ≤ xz734.toInt ∧ xz734.toInt ≤ 700; omega)), hmO, (by show (tz356 0).toInt = (tO 0).toInt; omega), (by show xz734.toInt ≤ (tO 0).toInt; omega), (by show (tO 1).toInt ≤ xz734.toInt; omega), (by show (4 : Int) = 0 ∨ (tO 1).toInt < xz734.toInt; omega), (by show (vO 4).toInt = (vO 4).toInt; omega), by rw [ht]; exact hP⟩, hS.F ht⟩) hS.2.2 dX12_next_307
                · skip
                  have zz735 : xz726.toInt = (59 : Int) := zi_eq.mp cz732
                  refine lv_iconst (v := 3) hx hb dX12_next_289 (by decide) ?_
                  refine lv_goto (tgt := 294) hx hb dX12_next_290 (by decide) ?_
                  refine va_put (D := (dC, dI)) (ci := 12) (v := .int 3) (ty := .int) (C := RX12) (T := TX12) (N := 59) hx hb hts (fun w h => List.mem_cons_of_mem _ (List.mem_append_right _ (List.mem_append_left _ h))) tyX12 tyX12_ok nmX12 hown hK hP hD hS 0 rfl rfl 8 (by decide) (hts (.fieldLink RX12 157 "SagMemoryModel" "token" "I") (wl_mem 10 rfl)) (fun _ h9 => h9) rfl (by decide +kernel) rfl rfl (Nat.le_of_ble_eq_true rfl) dX12_next_294 (fun H locs hP hD hS => ?_)
                  have hP : va_P (dC, dI) vwCl (List.flatten [(wMO qO k widthO manyO cellsO movedO (qTa 0) linesO hasO bridgeO cartO wardO frostAtO actO isKeptO loadNowO byNowO rowO memoryO whoseO deepNowO brokenByO brokenAtO goesByO comesToO sagMoreO creakOfO wipedByO deepAtO sagAtO loadAtO orderRowO oftenO lossOneO lossOtherO (va_up (va_up (va_up vO 2 (tz356 1)) 3 (0 : Int32)) 1 (3 : Int32)) tz356 mO (va_up gO 0 (0 : Int64)))] ++ List.flatten [(wmTa qTa k aTa)]) H := hP
                  have hD : va_D A (List.flatten [(wMO qO k widthO manyO cellsO movedO (qTa 0) linesO hasO bridgeO cartO wardO frostAtO actO isKeptO loadNowO byNowO rowO memoryO whoseO deepNowO brokenByO brokenAtO goesByO comesToO sagMoreO creakOfO wipedByO deepAtO sagAtO loadAtO orderRowO oftenO lossOneO lossOtherO (va_up (va_up (va_up vO 2 (tz356 1)) 3 (0 : Int32)) 1 (3 : Int32)) tz356 mO (va_up gO 0 (0 : Int64)))] ++ List.flatten [(wmTa qTa k aTa)]) := hD
                  refine lv_aload_n hx hb dX12_next_297 rfl (lv_at hl 0 rfl) ?_
                  refine lv_dup hx hb dX12_next_298 rfl ?_
                  refine va_get (D := (dC, dI)) (ci := 12) (v := .int (tz356 1)) (C := RX12) (T := TX12) (N := 59) hx hb hts (fun w h => List.mem_cons_of_mem _ (List.mem_append_right _ (List.mem_append_left _ h))) hown hK hP 0 rfl rfl 7 (by decide) (hts (.fieldLink RX12 140 "SagMemoryModel" "spot" "I") (wl_mem 0 rfl)) (fun _ h9 => h9) rfl dX12_next_299 ?_
                  refine lv_iconst (v := 1) hx hb dX12_next_302 (by decide) ?_
                  refine lv_iadd hx hb dX12_next_303 ?_
                  refine lv_topi (fun xz736 exz736 => ?_)
                  have fxz736 : xz736.toInt = (tz356 1).toInt + (1 : Int) := by rw [exz736]; exact fb_addI (x := (tz356 1)) (y := (1 : Int32)) (by show -2147483648 ≤ (tz356 1).toInt + (1 : Int); omega) (by show (tz356 1).toInt + (1 : Int) < 2147483648; omega)
                  refine va_put (D := (dC, dI)) (ci := 12) (v := .int xz736) (ty := .int) (C := RX12) (T := TX12) (N := 59) hx hb hts (fun w h => List.mem_cons_of_mem _ (List.mem_append_right _ (List.mem_append_left _ h))) tyX12 tyX12_ok nmX12 hown hK hP hD hS 0 rfl rfl 7 (by decide) (hts (.fieldLink RX12 140 "SagMemoryModel" "spot" "I") (wl_mem 0 rfl)) (fun _ h9 => h9) rfl (by decide +kernel) rfl rfl (Nat.le_of_ble_eq_true rfl) dX12_next_304 (fun H locs hP hD hS => ?_)
                  have hP : va_P (dC, dI) vwCl (List.flatten [(wMO qO k widthO manyO cellsO movedO (qTa 0) linesO hasO bridgeO cartO wardO frostAtO actO isKeptO loadNowO byNowO rowO memoryO whoseO deepNowO brokenByO brokenAtO goesByO comesToO sagMoreO creakOfO wipedByO deepAtO sagAtO loadAtO orderRowO oftenO lossOneO lossOtherO (va_up (va_up (va_up vO 2 (tz356 1)) 3 (0 : Int32)) 1 (3 : Int32)) (va_up tz356 1 xz736) mO (va_up gO 0 (0 : Int64)))] ++ List.flatten [(wmTa qTa k aTa)]) H := hP
                  have hD : va_D A (List.flatten [(wMO qO k widthO manyO cellsO movedO (qTa 0) linesO hasO bridgeO cartO wardO frostAtO actO isKeptO loadNowO byNowO rowO memoryO whoseO deepNowO brokenByO brokenAtO goesByO comesToO sagMoreO creakOfO wipedByO deepAtO sagAtO loadAtO orderRowO oftenO lossOneO lossOtherO (va_up (va_up (va_up vO 2 (tz356 1)) 3 (0 : Int32)) 1 (3 : Int32)) (va_up tz356 1 xz736) mO (va_up gO 0 (0 : Int64)))] ++ List.flatten [(wmTa qTa k aTa)]) := hD
                  rw [hQ]
                  exact W.vret hx hb hr (fun t ht hW => ⟨⟨(), rfl, trivial, (va_up (va_up (va_up vO 2 (tz356 1)) 3 (0 : Int32)) 1 (3 : Int32)), (va_up tz356 1 xz736), mO, (va_up gO 0 (0 : Int64)), (rg_up htz356 (by show 0 ≤ xz736.toInt ∧ xz736.toInt ≤ 700; omega)), hmO, (by show (tz356 0).toInt = (tO 0).toInt; omega), (by show xz736.toInt ≤ (tO 0).toInt; omega), (by show (tO 1).toInt ≤ xz736.toInt; omega), (by show (3 : Int) = 0 ∨ (tO 1).toInt < xz736.toInt; omega), (by show (vO 4).toInt = (vO 4).toInt; omega), by rw [ht]; exact hP⟩, hS.F ht⟩) hS.2.2 dX12_next_307
              · skip
                have zz737 : ¬ rz721.toInt = (0 : Int) := fun h9 => cz724 (zi_eq.mpr h9)
                refine lv_aload_n hx hb dX12_next_203 rfl (lv_at hl 0 rfl) ?_
                refine lv_iconst (v := 2) hx hb dX12_next_204 (by decide) ?_
                refine va_put (D := (dC, dI)) (ci := 12) (v := .int 2) (ty := .int) (C := RX12) (T := TX12) (N := 59) hx hb hts (fun w h => List.mem_cons_of_mem _ (List.mem_append_right _ (List.mem_append_left _ h))) tyX12 tyX12_ok nmX12 hown hK hP hD hS 0 rfl rfl 8 (by decide) (hts (.fieldLink RX12 157 "SagMemoryModel" "token" "I") (wl_mem 10 rfl)) (fun _ h9 => h9) rfl (by decide +kernel) rfl rfl (Nat.le_of_ble_eq_true rfl) dX12_next_205 (fun H locs hP hD hS => ?_)
                have hP : va_P (dC, dI) vwCl (List.flatten [(wMO qO k widthO manyO cellsO movedO (qTa 0) linesO hasO bridgeO cartO wardO frostAtO actO isKeptO loadNowO byNowO rowO memoryO whoseO deepNowO brokenByO brokenAtO goesByO comesToO sagMoreO creakOfO wipedByO deepAtO sagAtO loadAtO orderRowO oftenO lossOneO lossOtherO (va_up (va_up (va_up vO 2 (tz356 1)) 3 (0 : Int32)) 1 (2 : Int32)) tz356 mO (va_up gO 0 (0 : Int64)))] ++ List.flatten [(wmTa qTa k aTa)]) H := hP
                have hD : va_D A (List.flatten [(wMO qO k widthO manyO cellsO movedO (qTa 0) linesO hasO bridgeO cartO wardO frostAtO actO isKeptO loadNowO byNowO rowO memoryO whoseO deepNowO brokenByO brokenAtO goesByO comesToO sagMoreO creakOfO wipedByO deepAtO sagAtO loadAtO orderRowO oftenO lossOneO lossOtherO (va_up (va_up (va_up vO 2 (tz356 1)) 3 (0 : Int32)) 1 (2 : Int32)) tz356 mO (va_up gO 0 (0 : Int64)))] ++ List.flatten [(wmTa qTa k aTa)]) := hD
                refine lv_aload_n hx hb dX12_next_208 rfl (lv_at hl 0 rfl) ?_
                refine lv_aload_n hx hb dX12_next_209 rfl (lv_at hl 0 rfl) ?_
                refine va_get (D := (dC, dI)) (ci := 12) (v := .int (tz356 1)) (C := RX12) (T := TX12) (N := 59) hx hb hts (fun w h => List.mem_cons_of_mem _ (List.mem_append_right _ (List.mem_append_left _ h))) hown hK hP 0 rfl rfl 7 (by decide) (hts (.fieldLink RX12 140 "SagMemoryModel" "spot" "I") (wl_mem 0 rfl)) (fun _ h9 => h9) rfl dX12_next_210 ?_
                refine lv_bipush (v := 48) hx hb dX12_next_213 (by decide) ?_
                refine lv_bipush (v := 57) hx hb dX12_next_215 (by decide) ?_
                have hPc := hP.sub (ws' := (List.flatten [(wMO qO k widthO manyO cellsO movedO (qTa 0) linesO hasO bridgeO cartO wardO frostAtO actO isKeptO loadNowO byNowO rowO memoryO whoseO deepNowO brokenByO brokenAtO goesByO comesToO sagMoreO creakOfO wipedByO deepAtO sagAtO loadAtO orderRowO oftenO lossOneO lossOtherO (va_up (va_up (va_up vO 2 (tz356 1)) 3 (0 : Int32)) 1 (2 : Int32)) tz356 mO (va_up gO 0 (0 : Int64))), (wmTa qTa k aTa)])) [0, 1] rfl
                refine vp_callSi (va_Run.run (va_runV (As := [.int (tz356 1), .int 48, .int 57]) (rest := []) ⟨hx, hb, hml, hown, hts⟩ (c_X12_isByte l dC dI k qO widthO manyO cellsO movedO linesO hasO bridgeO cartO wardO frostAtO actO isKeptO loadNowO byNowO rowO memoryO whoseO deepNowO brokenByO brokenAtO goesByO comesToO sagMoreO creakOfO wipedByO deepAtO sagAtO loadAtO orderRowO oftenO lossOneO lossOtherO (va_up (va_up (va_up vO 2 (tz356 1)) 3 (0 : Int32)) 1 (2 : Int32)) tz356 mO (va_up gO 0 (0 : Int64)) qTa aTa (tz356 1) (48 : Int32) (57 : Int32) htz356 hmO (by show 0 ≤ (tz356 1).toInt; omega)) (cwV 3 hts (gk_V (wl_mem 1 rfl) (wl_mem 2 rfl) (wl_mem 3 rfl) (wl_mem 4 rfl) (fun w h => List.mem_cons_of_mem _ (List.mem_append_right _ (List.mem_append_right _ (List.mem_append_left _ h)))) wkg_c_X12_isByte) rfl rfl rfl (by decide +kernel) ⟨Nat.le_of_ble_eq_true rfl, Nat.le_of_ble_eq_true rfl⟩) ⟨fun a U g mk q => by obtain ⟨q0, qP, qK⟩ := q; exact ⟨q0, qP, va_K.moved (u := U) (U := U.calling g mk a) (Vm.Alike.refl U.vm) qK⟩, va_recv hK hPc (ci := 12) (q0 := 0) rfl rfl, fun U hU hW => ⟨rfl, by rw [hU]; exact hPc, va_K.moved hW.alike hK⟩⟩ rfl rfl hl.1 rfl (lv_room (Nat.le_of_ble_eq_true rfl)) dX12_next_217 ⟨Nat.le_of_ble_eq_true rfl, Nat.le_of_ble_eq_true rfl⟩)) (fun rz739 gz738 => ?_)
                clear hPc
                obtain ⟨pz740, pz741⟩ := gz738
                have pz740 : (rz739.toInt = 1 ∧ (tz356 1).toInt < (tz356 0).toInt ∧ (48 : Int) ≤ ((aTa 0) (tz356 1).toNatClampNeg).toInt ∧ ((aTa 0) (tz356 1).toNatClampNeg).toInt ≤ (57 : Int)) ∨ (rz739.toInt = 0 ∧ ((tz356 0).toInt ≤ (tz356 1).toInt ∨ ((aTa 0) (tz356 1).toNatClampNeg).toInt < (48 : Int) ∨ (57 : Int) < ((aTa 0) (tz356 1).toNatClampNeg).toInt)) := pz740
                have pz741 : rz739.toInt = 0 ∨ rz739.toInt = 1 := pz741
                refine lv_if_eq (tgt := 307) hx hb dX12_next_220 (by decide) (fun cz742 => ?_) (fun cz742 => ?_)
                · skip
                  have zz743 : rz739.toInt = (0 : Int) := zi_eq.mp cz742
                  rw [hQ]
                  exact W.vret hx hb hr (fun t ht hW => ⟨⟨(), rfl, trivial, (va_up (va_up (va_up vO 2 (tz356 1)) 3 (0 : Int32)) 1 (2 : Int32)), tz356, mO, (va_up gO 0 (0 : Int64)), htz356, hmO, (by show (tz356 0).toInt = (tO 0).toInt; omega), (by show (tz356 1).toInt ≤ (tO 0).toInt; omega), (by show (tO 1).toInt ≤ (tz356 1).toInt; omega), (by show (2 : Int) = 0 ∨ (tO 1).toInt < (tz356 1).toInt; omega), (by show (vO 4).toInt = (vO 4).toInt; omega), by rw [ht]; exact hP⟩, hS.F ht⟩) hS.2.2 dX12_next_307
                · skip
                  have zz744 : ¬ rz739.toInt = (0 : Int) := fun h9 => cz742 (zi_eq.mpr h9)
                  refine lv_aload_n hx hb dX12_next_223 rfl (lv_at hl 0 rfl) ?_
                  refine lv_aload_n hx hb dX12_next_224 rfl (lv_at hl 0 rfl) ?_
                  refine va_get (D := (dC, dI)) (ci := 12) (v := .int 0) (C := RX12) (T := TX12) (N := 59) hx hb hts (fun w h => List.mem_cons_of_mem _ (List.mem_append_right _ (List.mem_append_left _ h))) hown hK hP 0 rfl rfl 10 (by decide) (hts (.fieldLink RX12 150 "SagMemoryModel" "value" "I") (wl_mem 6 rfl)) (fun _ h9 => h9) rfl dX12_next_225 ?_
                  refine lv_ldc (v := 100000) hx hb hown (hts (.constant RX12 166 (100000)) (wl_mem 11 rfl)) dX12_next_228 ?_
                  refine lv_icmp_le (tgt := 238) hx hb dX12_next_230 (by decide) (fun cz804 => ?_) (fun cz804 => ?_)
                  · skip
                    refine lv_bipush (v := 10) hx hb dX12_next_238 (by decide) ?_
                    refine lv_aload_n hx hb dX12_next_240 rfl (lv_at hl 0 rfl) ?_
                    refine va_get (D := (dC, dI)) (ci := 12) (v := .int 0) (C := RX12) (T := TX12) (N := 59) hx hb hts (fun w h => List.mem_cons_of_mem _ (List.mem_append_right _ (List.mem_append_left _ h))) hown hK hP 0 rfl rfl 10 (by decide) (hts (.fieldLink RX12 150 "SagMemoryModel" "value" "I") (wl_mem 6 rfl)) (fun _ h9 => h9) rfl dX12_next_241 ?_
                    refine lv_imul hx hb dX12_next_244 ?_
                    refine lv_topi (fun xz805 exz805 => ?_)
                    obtain rfl : xz805 = 0 := exz805.trans (by decide)
                    refine lv_aload_n hx hb dX12_next_245 rfl (lv_at hl 0 rfl) ?_
                    refine va_get (D := (dC, dI)) (ci := 12) (v := .ref (qTa 0)) (C := RX12) (T := TX12) (N := 59) hx hb hts (fun w h => List.mem_cons_of_mem _ (List.mem_append_right _ (List.mem_append_left _ h))) hown hK hP 0 rfl rfl 5 (by decide) (hts (.fieldLink RX12 23 "SagMemoryModel" "tape" "[B") (wl_mem 9 rfl)) (fun _ h9 => h9) rfl dX12_next_246 ?_
                    refine lv_aload_n hx hb dX12_next_249 rfl (lv_at hl 0 rfl) ?_
                    refine va_get (D := (dC, dI)) (ci := 12) (v := .int (tz356 1)) (C := RX12) (T := TX12) (N := 59) hx hb hts (fun w h => List.mem_cons_of_mem _ (List.mem_append_right _ (List.mem_append_left _ h))) hown hK hP 0 rfl rfl 7 (by decide) (hts (.fieldLink RX12 140 "SagMemoryModel" "spot" "I") (wl_mem 0 rfl)) (fun _ h9 => h9) rfl dX12_next_250 ?_
                    refine va_bald hx hb hK hP 1 2 rfl rfl (vp_in_iff.mpr ⟨by omega, by omega⟩) dX12_next_253 ?_
                    refine lv_topi (fun xz806 exz806 => ?_)
                    have gxz806 : xz806.toInt = ((aTa 0) (tz356 1).toNatClampNeg).toInt := congrArg Int32.toInt exz806
                    refine lv_iadd hx hb dX12_next_254 ?_
                    have bz807 := fb_rng xz806
                    refine lv_topi (fun xz808 exz808 => ?_)
                    have fxz808 : xz808.toInt = (0 : Int) + xz806.toInt := by rw [exz808]; exact fb_addI (x := (0 : Int32)) (y := xz806) (by show -2147483648 ≤ (0 : Int) + xz806.toInt; omega) (by show (0 : Int) + xz806.toInt < 2147483648; omega)
                    refine lv_bipush (v := 48) hx hb dX12_next_255 (by decide) ?_
                    refine lv_isub hx hb dX12_next_257 ?_
                    refine lv_topi (fun xz809 exz809 => ?_)
                    refine va_put (D := (dC, dI)) (ci := 12) (v := .int xz809) (ty := .int) (C := RX12) (T := TX12) (N := 59) hx hb hts (fun w h => List.mem_cons_of_mem _ (List.mem_append_right _ (List.mem_append_left _ h))) tyX12 tyX12_ok nmX12 hown hK hP hD hS 0 rfl rfl 10 (by decide) (hts (.fieldLink RX12 150 "SagMemoryModel" "value" "I") (wl_mem 6 rfl)) (fun _ h9 => h9) rfl (by decide +kernel) rfl rfl (Nat.le_of_ble_eq_true rfl) dX12_next_258 (fun H locs hP hD hS => ?_)
                    have hP : va_P (dC, dI) vwCl (List.flatten [(wMO qO k widthO manyO cellsO movedO (qTa 0) linesO hasO bridgeO cartO wardO frostAtO actO isKeptO loadNowO byNowO rowO memoryO whoseO deepNowO brokenByO brokenAtO goesByO comesToO sagMoreO creakOfO wipedByO deepAtO sagAtO loadAtO orderRowO oftenO lossOneO lossOtherO (va_up (va_up (va_up vO 2 (tz356 1)) 1 (2 : Int32)) 3 xz809) tz356 mO (va_up gO 0 (0 : Int64)))] ++ List.flatten [(wmTa qTa k aTa)]) H := hP
                    have hD : va_D A (List.flatten [(wMO qO k widthO manyO cellsO movedO (qTa 0) linesO hasO bridgeO cartO wardO frostAtO actO isKeptO loadNowO byNowO rowO memoryO whoseO deepNowO brokenByO brokenAtO goesByO comesToO sagMoreO creakOfO wipedByO deepAtO sagAtO loadAtO orderRowO oftenO lossOneO lossOtherO (va_up (va_up (va_up vO 2 (tz356 1)) 1 (2 : Int32)) 3 xz809) tz356 mO (va_up gO 0 (0 : Int64)))] ++ List.flatten [(wmTa qTa k aTa)]) := hD
                    refine lv_aload_n hx hb dX12_next_261 rfl (lv_at hl 0 rfl) ?_
                    refine lv_dup hx hb dX12_next_262 rfl ?_
                    refine va_get (D := (dC, dI)) (ci := 12) (v := .int (tz356 1)) (C := RX12) (T := TX12) (N := 59) hx hb hts (fun w h => List.mem_cons_of_mem _ (List.mem_append_right _ (List.mem_append_left _ h))) hown hK hP 0 rfl rfl 7 (by decide) (hts (.fieldLink RX12 140 "SagMemoryModel" "spot" "I") (wl_mem 0 rfl)) (fun _ h9 => h9) rfl dX12_next_263 ?_
                    refine lv_iconst (v := 1) hx hb dX12_next_266 (by decide) ?_
                    refine lv_iadd hx hb dX12_next_267 ?_
                    refine lv_topi (fun xz810 exz810 => ?_)
                    have fxz810 : xz810.toInt = (tz356 1).toInt + (1 : Int) := by rw [exz810]; exact fb_addI (x := (tz356 1)) (y := (1 : Int32)) (by show -2147483648 ≤ (tz356 1).toInt + (1 : Int); omega) (by show (tz356 1).toInt + (1 : Int) < 2147483648; omega)
                    refine va_put (D := (dC, dI)) (ci := 12) (v := .int xz810) (ty := .int) (C := RX12) (T := TX12) (N := 59) hx hb hts (fun w h => List.mem_cons_of_mem _ (List.mem_append_right _ (List.mem_append_left _ h))) tyX12 tyX12_ok nmX12 hown hK hP hD hS 0 rfl rfl 7 (by decide) (hts (.fieldLink RX12 140 "SagMemoryModel" "spot" "I") (wl_mem 0 rfl)) (fun _ h9 => h9) rfl (by decide +kernel) rfl rfl (Nat.le_of_ble_eq_true rfl) dX12_next_268 (fun H locs hP hD hS => ?_)
                    have hP : va_P (dC, dI) vwCl (List.flatten [(wMO qO k widthO manyO cellsO movedO (qTa 0) linesO hasO bridgeO cartO wardO frostAtO actO isKeptO loadNowO byNowO rowO memoryO whoseO deepNowO brokenByO brokenAtO goesByO comesToO sagMoreO creakOfO wipedByO deepAtO sagAtO loadAtO orderRowO oftenO lossOneO lossOtherO (va_up (va_up (va_up vO 2 (tz356 1)) 1 (2 : Int32)) 3 xz809) (va_up tz356 1 xz810) mO (va_up gO 0 (0 : Int64)))] ++ List.flatten [(wmTa qTa k aTa)]) H := hP
                    have hD : va_D A (List.flatten [(wMO qO k widthO manyO cellsO movedO (qTa 0) linesO hasO bridgeO cartO wardO frostAtO actO isKeptO loadNowO byNowO rowO memoryO whoseO deepNowO brokenByO brokenAtO goesByO comesToO sagMoreO creakOfO wipedByO deepAtO sagAtO loadAtO orderRowO oftenO lossOneO lossOtherO (va_up (va_up (va_up vO 2 (tz356 1)) 1 (2 : Int32)) 3 xz809) (va_up tz356 1 xz810) mO (va_up gO 0 (0 : Int64)))] ++ List.flatten [(wmTa qTa k aTa)]) := hD
                    refine lv_goto (tgt := 208) hx hb dX12_next_271 (by decide) ?_
                    have lp208_kz837 : ∀ (n9_208 : Nat) (H : Heap) (locs : List Loc) (ls : Array Slot) (tz835 : Nat → Int32) (vz836 : Nat → Int32), (700 - (tz835 1).toInt).toNat < n9_208 → Rg 0 700 tz835 → (tO 1).toInt < (tz835 1).toInt → (tz835 0).toInt = (tO 0).toInt → (tz835 1).toInt ≤ (tz835 0).toInt → (tO 1).toInt ≤ (tz835 1).toInt → (vz836 4).toInt = (vO 4).toInt → va_P (dC, dI) vwCl (List.flatten [(wMO qO k widthO manyO cellsO movedO (qTa 0) linesO hasO bridgeO cartO wardO frostAtO actO isKeptO loadNowO byNowO rowO memoryO whoseO deepNowO brokenByO brokenAtO goesByO comesToO sagMoreO creakOfO wipedByO deepAtO sagAtO loadAtO orderRowO oftenO lossOneO lossOtherO vz836 tz835 mO (va_up gO 0 (0 : Int64)))] ++ List.flatten [(wmTa qTa k aTa)]) H → va_D A (List.flatten [(wMO qO k widthO manyO cellsO movedO (qTa 0) linesO hasO bridgeO cartO wardO frostAtO actO isKeptO loadNowO byNowO rowO memoryO whoseO deepNowO brokenByO brokenAtO goesByO comesToO sagMoreO creakOfO wipedByO deepAtO sagAtO loadAtO orderRowO oftenO lossOneO lossOtherO vz836 tz835 mO (va_up gO 0 (0 : Int64)))] ++ List.flatten [(wmTa qTa k aTa)]) → va_S A s.heap H locs → lv_has ls 2 [(0, .ref (qO 0))] → W p l e (headSpec wk_c_X12_next ({ frames := 1, cells := 0, slots := 0, locals := 23 })).room s m ([.ref (qO 0)] : List Value).toArray below meth c H locs 0 0 Q (F0 m 208 ls []) := by
                      intro n9_208
                      induction n9_208 with
                      | zero => intro H locs ls tz835 vz836 hm; exact absurd hm (Nat.not_lt_zero _)
                      | succ n9_208 ih208 =>
                        intro H locs ls tz835 vz836 hm208 htz835 jz838 jz839 jz840 jz841 jz842 hP hD hS hl
                        refine lv_aload_n hx hb dX12_next_208 rfl (lv_at hl 0 rfl) ?_
                        refine lv_aload_n hx hb dX12_next_209 rfl (lv_at hl 0 rfl) ?_
                        refine va_get (D := (dC, dI)) (ci := 12) (v := .int (tz835 1)) (C := RX12) (T := TX12) (N := 59) hx hb hts (fun w h => List.mem_cons_of_mem _ (List.mem_append_right _ (List.mem_append_left _ h))) hown hK hP 0 rfl rfl 7 (by decide) (hts (.fieldLink RX12 140 "SagMemoryModel" "spot" "I") (wl_mem 0 rfl)) (fun _ h9 => h9) rfl dX12_next_210 ?_
                        have bz843 := htz835 1
                        refine lv_bipush (v := 48) hx hb dX12_next_213 (by decide) ?_
                        refine lv_bipush (v := 57) hx hb dX12_next_215 (by decide) ?_
                        have hPc := hP.sub (ws' := (List.flatten [(wMO qO k widthO manyO cellsO movedO (qTa 0) linesO hasO bridgeO cartO wardO frostAtO actO isKeptO loadNowO byNowO rowO memoryO whoseO deepNowO brokenByO brokenAtO goesByO comesToO sagMoreO creakOfO wipedByO deepAtO sagAtO loadAtO orderRowO oftenO lossOneO lossOtherO vz836 tz835 mO (va_up gO 0 (0 : Int64))), (wmTa qTa k aTa)])) [0, 1] rfl
                        refine vp_callSi (va_Run.run (va_runV (As := [.int (tz835 1), .int 48, .int 57]) (rest := []) ⟨hx, hb, hml, hown, hts⟩ (c_X12_isByte l dC dI k qO widthO manyO cellsO movedO linesO hasO bridgeO cartO wardO frostAtO actO isKeptO loadNowO byNowO rowO memoryO whoseO deepNowO brokenByO brokenAtO goesByO comesToO sagMoreO creakOfO wipedByO deepAtO sagAtO loadAtO orderRowO oftenO lossOneO lossOtherO vz836 tz835 mO (va_up gO 0 (0 : Int64)) qTa aTa (tz835 1) (48 : Int32) (57 : Int32) htz835 hmO (by show 0 ≤ (tz835 1).toInt; omega)) (cwV 3 hts (gk_V (wl_mem 1 rfl) (wl_mem 2 rfl) (wl_mem 3 rfl) (wl_mem 4 rfl) (fun w h => List.mem_cons_of_mem _ (List.mem_append_right _ (List.mem_append_right _ (List.mem_append_left _ h)))) wkg_c_X12_isByte) rfl rfl rfl (by decide +kernel) ⟨Nat.le_of_ble_eq_true rfl, Nat.le_of_ble_eq_true rfl⟩) ⟨fun a U g mk q => by obtain ⟨q0, qP, qK⟩ := q; exact ⟨q0, qP, va_K.moved (u := U) (U := U.calling g mk a) (Vm.Alike.refl U.vm) qK⟩, va_recv hK hPc (ci := 12) (q0 := 0) rfl rfl, fun U hU hW => ⟨rfl, by rw [hU]; exact hPc, va_K.moved hW.alike hK⟩⟩ rfl rfl hl.1 rfl (lv_room (Nat.le_of_ble_eq_true rfl)) dX12_next_217 ⟨Nat.le_of_ble_eq_true rfl, Nat.le_of_ble_eq_true rfl⟩)) (fun rz845 gz844 => ?_)
                        clear hPc
                        obtain ⟨pz846, pz847⟩ := gz844
                        have pz846 : (rz845.toInt = 1 ∧ (tz835 1).toInt < (tz835 0).toInt ∧ (48 : Int) ≤ ((aTa 0) (tz835 1).toNatClampNeg).toInt ∧ ((aTa 0) (tz835 1).toNatClampNeg).toInt ≤ (57 : Int)) ∨ (rz845.toInt = 0 ∧ ((tz835 0).toInt ≤ (tz835 1).toInt ∨ ((aTa 0) (tz835 1).toNatClampNeg).toInt < (48 : Int) ∨ (57 : Int) < ((aTa 0) (tz835 1).toNatClampNeg).toInt)) := pz846
                        have pz847 : rz845.toInt = 0 ∨ rz845.toInt = 1 := pz847
                        have bz848 := htz835 0
                        refine lv_if_eq (tgt := 307) hx hb dX12_next_220 (by decide) (fun cz849 => ?_) (fun cz849 => ?_)
                        · skip
                          have zz850 : rz845.toInt = (0 : Int) := zi_eq.mp cz849
                          rw [hQ]
                          exact W.vret hx hb hr (fun t ht hW => ⟨⟨(), rfl, trivial, vz836, tz835, mO, (va_up gO 0 (0 : Int64)), htz835, hmO, (by show (tz835 0).toInt = (tO 0).toInt; omega), (by show (tz835 1).toInt ≤ (tO 0).toInt; omega), (by show (tO 1).toInt ≤ (tz835 1).toInt; omega), (by show (vz836 1).toInt = 0 ∨ (tO 1).toInt < (tz835 1).toInt; omega), (by show (vz836 4).toInt = (vO 4).toInt; omega), by rw [ht]; exact hP⟩, hS.F ht⟩) hS.2.2 dX12_next_307
                        · skip
                          have zz851 : ¬ rz845.toInt = (0 : Int) := fun h9 => cz849 (zi_eq.mpr h9)
                          refine lv_aload_n hx hb dX12_next_223 rfl (lv_at hl 0 rfl) ?_
                          refine lv_aload_n hx hb dX12_next_224 rfl (lv_at hl 0 rfl) ?_
                          refine va_get (D := (dC, dI)) (ci := 12) (v := .int (vz836 3)) (C := RX12) (T := TX12) (N := 59) hx hb hts (fun w h => List.mem_cons_of_mem _ (List.mem_append_right _ (List.mem_append_left _ h))) hown hK hP 0 rfl rfl 10 (by decide) (hts (.fieldLink RX12 150 "SagMemoryModel" "value" "I") (wl_mem 6 rfl)) (fun _ h9 => h9) rfl dX12_next_225 ?_
                          refine lv_ldc (v := 100000) hx hb hown (hts (.constant RX12 166 (100000)) (wl_mem 11 rfl)) dX12_next_228 ?_
                          refine lv_icmp_le (tgt := 238) hx hb dX12_next_230 (by decide) (fun cz852 => ?_) (fun cz852 => ?_)
                          · skip
                            have bz853 := fb_rng (vz836 3)
                            have zz854 : (vz836 3).toInt ≤ (100000 : Int) := zi_le.mp cz852
                            refine lv_bipush (v := 10) hx hb dX12_next_238 (by decide) ?_
                            refine lv_aload_n hx hb dX12_next_240 rfl (lv_at hl 0 rfl) ?_
                            refine va_get (D := (dC, dI)) (ci := 12) (v := .int (vz836 3)) (C := RX12) (T := TX12) (N := 59) hx hb hts (fun w h => List.mem_cons_of_mem _ (List.mem_append_right _ (List.mem_append_left _ h))) hown hK hP 0 rfl rfl 10 (by decide) (hts (.fieldLink RX12 150 "SagMemoryModel" "value" "I") (wl_mem 6 rfl)) (fun _ h9 => h9) rfl dX12_next_241 ?_
                            refine lv_imul hx hb dX12_next_244 ?_
                            refine lv_topi (fun xz855 exz855 => ?_)
                            refine lv_aload_n hx hb dX12_next_245 rfl (lv_at hl 0 rfl) ?_
                            refine va_get (D := (dC, dI)) (ci := 12) (v := .ref (qTa 0)) (C := RX12) (T := TX12) (N := 59) hx hb hts (fun w h => List.mem_cons_of_mem _ (List.mem_append_right _ (List.mem_append_left _ h))) hown hK hP 0 rfl rfl 5 (by decide) (hts (.fieldLink RX12 23 "SagMemoryModel" "tape" "[B") (wl_mem 9 rfl)) (fun _ h9 => h9) rfl dX12_next_246 ?_
                            refine lv_aload_n hx hb dX12_next_249 rfl (lv_at hl 0 rfl) ?_
                            refine va_get (D := (dC, dI)) (ci := 12) (v := .int (tz835 1)) (C := RX12) (T := TX12) (N := 59) hx hb hts (fun w h => List.mem_cons_of_mem _ (List.mem_append_right _ (List.mem_append_left _ h))) hown hK hP 0 rfl rfl 7 (by decide) (hts (.fieldLink RX12 140 "SagMemoryModel" "spot" "I") (wl_mem 0 rfl)) (fun _ h9 => h9) rfl dX12_next_250 ?_
                            refine va_bald hx hb hK hP 1 2 rfl rfl (vp_in_iff.mpr ⟨by omega, by omega⟩) dX12_next_253 ?_
                            refine lv_topi (fun xz856 exz856 => ?_)
                            have gxz856 : xz856.toInt = ((aTa 0) (tz835 1).toNatClampNeg).toInt := congrArg Int32.toInt exz856
                            refine lv_iadd hx hb dX12_next_254 ?_
                            refine lv_topi (fun xz857 exz857 => ?_)
                            refine lv_bipush (v := 48) hx hb dX12_next_255 (by decide) ?_
                            refine lv_isub hx hb dX12_next_257 ?_
                            refine lv_topi (fun xz858 exz858 => ?_)
                            refine va_put (D := (dC, dI)) (ci := 12) (v := .int xz858) (ty := .int) (C := RX12) (T := TX12) (N := 59) hx hb hts (fun w h => List.mem_cons_of_mem _ (List.mem_append_right _ (List.mem_append_left _ h))) tyX12 tyX12_ok nmX12 hown hK hP hD hS 0 rfl rfl 10 (by decide) (hts (.fieldLink RX12 150 "SagMemoryModel" "value" "I") (wl_mem 6 rfl)) (fun _ h9 => h9) rfl (by decide +kernel) rfl rfl (Nat.le_of_ble_eq_true rfl) dX12_next_258 (fun H locs hP hD hS => ?_)
                            have hP : va_P (dC, dI) vwCl (List.flatten [(wMO qO k widthO manyO cellsO movedO (qTa 0) linesO hasO bridgeO cartO wardO frostAtO actO isKeptO loadNowO byNowO rowO memoryO whoseO deepNowO brokenByO brokenAtO goesByO comesToO sagMoreO creakOfO wipedByO deepAtO sagAtO loadAtO orderRowO oftenO lossOneO lossOtherO (va_up vz836 3 xz858) tz835 mO (va_up gO 0 (0 : Int64)))] ++ List.flatten [(wmTa qTa k aTa)]) H := hP
                            have hD : va_D A (List.flatten [(wMO qO k widthO manyO cellsO movedO (qTa 0) linesO hasO bridgeO cartO wardO frostAtO actO isKeptO loadNowO byNowO rowO memoryO whoseO deepNowO brokenByO brokenAtO goesByO comesToO sagMoreO creakOfO wipedByO deepAtO sagAtO loadAtO orderRowO oftenO lossOneO lossOtherO (va_up vz836 3 xz858) tz835 mO (va_up gO 0 (0 : Int64)))] ++ List.flatten [(wmTa qTa k aTa)]) := hD
                            refine lv_aload_n hx hb dX12_next_261 rfl (lv_at hl 0 rfl) ?_
                            refine lv_dup hx hb dX12_next_262 rfl ?_
                            refine va_get (D := (dC, dI)) (ci := 12) (v := .int (tz835 1)) (C := RX12) (T := TX12) (N := 59) hx hb hts (fun w h => List.mem_cons_of_mem _ (List.mem_append_right _ (List.mem_append_left _ h))) hown hK hP 0 rfl rfl 7 (by decide) (hts (.fieldLink RX12 140 "SagMemoryModel" "spot" "I") (wl_mem 0 rfl)) (fun _ h9 => h9) rfl dX12_next_263 ?_
                            refine lv_iconst (v := 1) hx hb dX12_next_266 (by decide) ?_
                            refine lv_iadd hx hb dX12_next_267 ?_
                            refine lv_topi (fun xz859 exz859 => ?_)
                            have fxz859 : xz859.toInt = (tz835 1).toInt + (1 : Int) := by rw [exz859]; exact fb_addI (x := (tz835 1)) (y := (1 : Int32)) (by show -2147483648 ≤ (tz835 1).toInt + (1 : Int); omega) (by show (tz835 1).toInt + (1 : Int) < 2147483648; omega)
                            refine va_put (D := (dC, dI)) (ci := 12) (v := .int xz859) (ty := .int) (C := RX12) (T := TX12) (N := 59) hx hb hts (fun w h => List.mem_cons_of_mem _ (List.mem_append_right _ (List.mem_append_left _ h))) tyX12 tyX12_ok nmX12 hown hK hP hD hS 0 rfl rfl 7 (by decide) (hts (.fieldLink RX12 140 "SagMemoryModel" "spot" "I") (wl_mem 0 rfl)) (fun _ h9 => h9) rfl (by decide +kernel) rfl rfl (Nat.le_of_ble_eq_true rfl) dX12_next_268 (fun H locs hP hD hS => ?_)
                            have hP : va_P (dC, dI) vwCl (List.flatten [(wMO qO k widthO manyO cellsO movedO (qTa 0) linesO hasO bridgeO cartO wardO frostAtO actO isKeptO loadNowO byNowO rowO memoryO whoseO deepNowO brokenByO brokenAtO goesByO comesToO sagMoreO creakOfO wipedByO deepAtO sagAtO loadAtO orderRowO oftenO lossOneO lossOtherO (va_up vz836 3 xz858) (va_up tz835 1 xz859) mO (va_up gO 0 (0 : Int64)))] ++ List.flatten [(wmTa qTa k aTa)]) H := hP
                            have hD : va_D A (List.flatten [(wMO qO k widthO manyO cellsO movedO (qTa 0) linesO hasO bridgeO cartO wardO frostAtO actO isKeptO loadNowO byNowO rowO memoryO whoseO deepNowO brokenByO brokenAtO goesByO comesToO sagMoreO creakOfO wipedByO deepAtO sagAtO loadAtO orderRowO oftenO lossOneO lossOtherO (va_up vz836 3 xz858) (va_up tz835 1 xz859) mO (va_up gO 0 (0 : Int64)))] ++ List.flatten [(wmTa qTa k aTa)]) := hD
                            refine lv_goto (tgt := 208) hx hb dX12_next_271 (by decide) ?_
                            exact ih208 H locs ls (va_up tz835 1 xz859) (va_up vz836 3 xz858) (by show (700 - xz859.toInt).toNat < n9_208; omega) (rg_up htz835 (by show 0 ≤ xz859.toInt ∧ xz859.toInt ≤ 700; omega)) (by show (tO 1).toInt < xz859.toInt; omega) (by show (tz835 0).toInt = (tO 0).toInt; omega) (by show xz859.toInt ≤ (tz835 0).toInt; omega) (by show (tO 1).toInt ≤ xz859.toInt; omega) (by show (vz836 4).toInt = (vO 4).toInt; omega) hP hD hS (lv_sub hl [0] rfl)
                          · skip
                            have bz860 := fb_rng (vz836 3)
                            have zz861 : ¬ (vz836 3).toInt ≤ (100000 : Int) := fun h9 => cz852 (zi_le.mpr h9)
                            refine lv_ldc (v := 1000000) hx hb hown (hts (.constant RX12 167 (1000000)) (wl_mem 12 rfl)) dX12_next_233 ?_
                            refine lv_goto (tgt := 258) hx hb dX12_next_235 (by decide) ?_
                            refine va_put (D := (dC, dI)) (ci := 12) (v := .int 1000000) (ty := .int) (C := RX12) (T := TX12) (N := 59) hx hb hts (fun w h => List.mem_cons_of_mem _ (List.mem_append_right _ (List.mem_append_left _ h))) tyX12 tyX12_ok nmX12 hown hK hP hD hS 0 rfl rfl 10 (by decide) (hts (.fieldLink RX12 150 "SagMemoryModel" "value" "I") (wl_mem 6 rfl)) (fun _ h9 => h9) rfl (by decide +kernel) rfl rfl (Nat.le_of_ble_eq_true rfl) dX12_next_258 (fun H locs hP hD hS => ?_)
                            have hP : va_P (dC, dI) vwCl (List.flatten [(wMO qO k widthO manyO cellsO movedO (qTa 0) linesO hasO bridgeO cartO wardO frostAtO actO isKeptO loadNowO byNowO rowO memoryO whoseO deepNowO brokenByO brokenAtO goesByO comesToO sagMoreO creakOfO wipedByO deepAtO sagAtO loadAtO orderRowO oftenO lossOneO lossOtherO (va_up vz836 3 (1000000 : Int32)) tz835 mO (va_up gO 0 (0 : Int64)))] ++ List.flatten [(wmTa qTa k aTa)]) H := hP
                            have hD : va_D A (List.flatten [(wMO qO k widthO manyO cellsO movedO (qTa 0) linesO hasO bridgeO cartO wardO frostAtO actO isKeptO loadNowO byNowO rowO memoryO whoseO deepNowO brokenByO brokenAtO goesByO comesToO sagMoreO creakOfO wipedByO deepAtO sagAtO loadAtO orderRowO oftenO lossOneO lossOtherO (va_up vz836 3 (1000000 : Int32)) tz835 mO (va_up gO 0 (0 : Int64)))] ++ List.flatten [(wmTa qTa k aTa)]) := hD
                            refine lv_aload_n hx hb dX12_next_261 rfl (lv_at hl 0 rfl) ?_
                            refine lv_dup hx hb dX12_next_262 rfl ?_
                            refine va_get (D := (dC, dI)) (ci := 12) (v := .int (tz835 1)) (C := RX12) (T := TX12) (N := 59) hx hb hts (fun w h => List.mem_cons_of_mem _ (List.mem_append_right _ (List.mem_append_left _ h))) hown hK hP 0 rfl rfl 7 (by decide) (hts (.fieldLink RX12 140 "SagMemoryModel" "spot" "I") (wl_mem 0 rfl)) (fun _ h9 => h9) rfl dX12_next_263 ?_
                            refine lv_iconst (v := 1) hx hb dX12_next_266 (by decide) ?_
                            refine lv_iadd hx hb dX12_next_267 ?_
                            refine lv_topi (fun xz862 exz862 => ?_)
                            have fxz862 : xz862.toInt = (tz835 1).toInt + (1 : Int) := by rw [exz862]; exact fb_addI (x := (tz835 1)) (y := (1 : Int32)) (by show -2147483648 ≤ (tz835 1).toInt + (1 : Int); omega) (by show (tz835 1).toInt + (1 : Int) < 2147483648; omega)
                            refine va_put (D := (dC, dI)) (ci := 12) (v := .int xz862) (ty := .int) (C := RX12) (T := TX12) (N := 59) hx hb hts (fun w h => List.mem_cons_of_mem _ (List.mem_append_right _ (List.mem_append_left _ h))) tyX12 tyX12_ok nmX12 hown hK hP hD hS 0 rfl rfl 7 (by decide) (hts (.fieldLink RX12 140 "SagMemoryModel" "spot" "I") (wl_mem 0 rfl)) (fun _ h9 => h9) rfl (by decide +kernel) rfl rfl (Nat.le_of_ble_eq_true rfl) dX12_next_268 (fun H locs hP hD hS => ?_)
                            have hP : va_P (dC, dI) vwCl (List.flatten [(wMO qO k widthO manyO cellsO movedO (qTa 0) linesO hasO bridgeO cartO wardO frostAtO actO isKeptO loadNowO byNowO rowO memoryO whoseO deepNowO brokenByO brokenAtO goesByO comesToO sagMoreO creakOfO wipedByO deepAtO sagAtO loadAtO orderRowO oftenO lossOneO lossOtherO (va_up vz836 3 (1000000 : Int32)) (va_up tz835 1 xz862) mO (va_up gO 0 (0 : Int64)))] ++ List.flatten [(wmTa qTa k aTa)]) H := hP
                            have hD : va_D A (List.flatten [(wMO qO k widthO manyO cellsO movedO (qTa 0) linesO hasO bridgeO cartO wardO frostAtO actO isKeptO loadNowO byNowO rowO memoryO whoseO deepNowO brokenByO brokenAtO goesByO comesToO sagMoreO creakOfO wipedByO deepAtO sagAtO loadAtO orderRowO oftenO lossOneO lossOtherO (va_up vz836 3 (1000000 : Int32)) (va_up tz835 1 xz862) mO (va_up gO 0 (0 : Int64)))] ++ List.flatten [(wmTa qTa k aTa)]) := hD
                            refine lv_goto (tgt := 208) hx hb dX12_next_271 (by decide) ?_
                            exact ih208 H locs ls (va_up tz835 1 xz862) (va_up vz836 3 (1000000 : Int32)) (by show (700 - xz862.toInt).toNat < n9_208; omega) (rg_up htz835 (by show 0 ≤ xz862.toInt ∧ xz862.toInt ≤ 700; omega)) (by show (tO 1).toInt < xz862.toInt; omega) (by show (tz835 0).toInt = (tO 0).toInt; omega) (by show xz862.toInt ≤ (tz835 0).toInt; omega) (by show (tO 1).toInt ≤ xz862.toInt; omega) (by show (vz836 4).toInt = (vO 4).toInt; omega) hP hD hS (lv_sub hl [0] rfl)
                    exact lp208_kz837 _ H locs ls (va_up tz356 1 xz810) (va_up (va_up (va_up vO 2 (tz356 1)) 1 (2 : Int32)) 3 xz809) (Nat.lt_succ_self _) (rg_up htz356 (by show 0 ≤ xz810.toInt ∧ xz810.toInt ≤ 700; omega)) (by show (tO 1).toInt < xz810.toInt; omega) (by show (tz356 0).toInt = (tO 0).toInt; omega) (by show xz810.toInt ≤ (tz356 0).toInt; omega) (by show (tO 1).toInt ≤ xz810.toInt; omega) (by show (vO 4).toInt = (vO 4).toInt; omega) hP hD hS (lv_sub hl [0] rfl)
                  · skip
                    exact absurd cz804 (by decide)
            · skip
              have zz863 : ¬ rz715.toInt = (0 : Int) := fun h9 => cz718 (zi_eq.mpr h9)
              refine lv_aload_n hx hb dX12_next_95 rfl (lv_at hl 0 rfl) ?_
              refine lv_iconst (v := 1) hx hb dX12_next_96 (by decide) ?_
              refine va_put (D := (dC, dI)) (ci := 12) (v := .int 1) (ty := .int) (C := RX12) (T := TX12) (N := 59) hx hb hts (fun w h => List.mem_cons_of_mem _ (List.mem_append_right _ (List.mem_append_left _ h))) tyX12 tyX12_ok nmX12 hown hK hP hD hS 0 rfl rfl 8 (by decide) (hts (.fieldLink RX12 157 "SagMemoryModel" "token" "I") (wl_mem 10 rfl)) (fun _ h9 => h9) rfl (by decide +kernel) rfl rfl (Nat.le_of_ble_eq_true rfl) dX12_next_97 (fun H locs hP hD hS => ?_)
              have hP : va_P (dC, dI) vwCl (List.flatten [(wMO qO k widthO manyO cellsO movedO (qTa 0) linesO hasO bridgeO cartO wardO frostAtO actO isKeptO loadNowO byNowO rowO memoryO whoseO deepNowO brokenByO brokenAtO goesByO comesToO sagMoreO creakOfO wipedByO deepAtO sagAtO loadAtO orderRowO oftenO lossOneO lossOtherO (va_up (va_up (va_up vO 2 (tz356 1)) 3 (0 : Int32)) 1 (1 : Int32)) tz356 mO (va_up gO 0 (0 : Int64)))] ++ List.flatten [(wmTa qTa k aTa)]) H := hP
              have hD : va_D A (List.flatten [(wMO qO k widthO manyO cellsO movedO (qTa 0) linesO hasO bridgeO cartO wardO frostAtO actO isKeptO loadNowO byNowO rowO memoryO whoseO deepNowO brokenByO brokenAtO goesByO comesToO sagMoreO creakOfO wipedByO deepAtO sagAtO loadAtO orderRowO oftenO lossOneO lossOtherO (va_up (va_up (va_up vO 2 (tz356 1)) 3 (0 : Int32)) 1 (1 : Int32)) tz356 mO (va_up gO 0 (0 : Int64)))] ++ List.flatten [(wmTa qTa k aTa)]) := hD
              refine lv_iconst (v := 0) hx hb dX12_next_100 (by decide) ?_
              refine lv_istore_n (lv' := [(1, .int 0), (0, .ref (qO 0))]) hx hb dX12_next_101 rfl hl (by decide) rfl (fun ls hl => ?_)
              refine lv_aload_n hx hb dX12_next_102 rfl (lv_at hl 1 rfl) ?_
              refine lv_aload_n hx hb dX12_next_103 rfl (lv_at hl 1 rfl) ?_
              refine va_get (D := (dC, dI)) (ci := 12) (v := .int (tz356 1)) (C := RX12) (T := TX12) (N := 59) hx hb hts (fun w h => List.mem_cons_of_mem _ (List.mem_append_right _ (List.mem_append_left _ h))) hown hK hP 0 rfl rfl 7 (by decide) (hts (.fieldLink RX12 140 "SagMemoryModel" "spot" "I") (wl_mem 0 rfl)) (fun _ h9 => h9) rfl dX12_next_104 ?_
              refine lv_bipush (v := 97) hx hb dX12_next_107 (by decide) ?_
              refine lv_bipush (v := 122) hx hb dX12_next_109 (by decide) ?_
              have hPc := hP.sub (ws' := (List.flatten [(wMO qO k widthO manyO cellsO movedO (qTa 0) linesO hasO bridgeO cartO wardO frostAtO actO isKeptO loadNowO byNowO rowO memoryO whoseO deepNowO brokenByO brokenAtO goesByO comesToO sagMoreO creakOfO wipedByO deepAtO sagAtO loadAtO orderRowO oftenO lossOneO lossOtherO (va_up (va_up (va_up vO 2 (tz356 1)) 3 (0 : Int32)) 1 (1 : Int32)) tz356 mO (va_up gO 0 (0 : Int64))), (wmTa qTa k aTa)])) [0, 1] rfl
              refine vp_callSi (va_Run.run (va_runV (As := [.int (tz356 1), .int 97, .int 122]) (rest := []) ⟨hx, hb, hml, hown, hts⟩ (c_X12_isByte l dC dI k qO widthO manyO cellsO movedO linesO hasO bridgeO cartO wardO frostAtO actO isKeptO loadNowO byNowO rowO memoryO whoseO deepNowO brokenByO brokenAtO goesByO comesToO sagMoreO creakOfO wipedByO deepAtO sagAtO loadAtO orderRowO oftenO lossOneO lossOtherO (va_up (va_up (va_up vO 2 (tz356 1)) 3 (0 : Int32)) 1 (1 : Int32)) tz356 mO (va_up gO 0 (0 : Int64)) qTa aTa (tz356 1) (97 : Int32) (122 : Int32) htz356 hmO (by show 0 ≤ (tz356 1).toInt; omega)) (cwV 3 hts (gk_V (wl_mem 1 rfl) (wl_mem 2 rfl) (wl_mem 3 rfl) (wl_mem 4 rfl) (fun w h => List.mem_cons_of_mem _ (List.mem_append_right _ (List.mem_append_right _ (List.mem_append_left _ h)))) wkg_c_X12_isByte) rfl rfl rfl (by decide +kernel) ⟨Nat.le_of_ble_eq_true rfl, Nat.le_of_ble_eq_true rfl⟩) ⟨fun a U g mk q => by obtain ⟨q0, qP, qK⟩ := q; exact ⟨q0, qP, va_K.moved (u := U) (U := U.calling g mk a) (Vm.Alike.refl U.vm) qK⟩, va_recv hK hPc (ci := 12) (q0 := 0) rfl rfl, fun U hU hW => ⟨rfl, by rw [hU]; exact hPc, va_K.moved hW.alike hK⟩⟩ rfl rfl hl.1 rfl (lv_room (Nat.le_of_ble_eq_true rfl)) dX12_next_111 ⟨Nat.le_of_ble_eq_true rfl, Nat.le_of_ble_eq_true rfl⟩)) (fun rz865 gz864 => ?_)
              clear hPc
              obtain ⟨pz866, pz867⟩ := gz864
              have pz866 : (rz865.toInt = 1 ∧ (tz356 1).toInt < (tz356 0).toInt ∧ (97 : Int) ≤ ((aTa 0) (tz356 1).toNatClampNeg).toInt ∧ ((aTa 0) (tz356 1).toNatClampNeg).toInt ≤ (122 : Int)) ∨ (rz865.toInt = 0 ∧ ((tz356 0).toInt ≤ (tz356 1).toInt ∨ ((aTa 0) (tz356 1).toNatClampNeg).toInt < (97 : Int) ∨ (122 : Int) < ((aTa 0) (tz356 1).toNatClampNeg).toInt)) := pz866
              have pz867 : rz865.toInt = 0 ∨ rz865.toInt = 1 := pz867
              refine lv_if_eq (tgt := 185) hx hb dX12_next_114 (by decide) (fun cz868 => ?_) (fun cz868 => ?_)
              · skip
                have zz869 : rz865.toInt = (0 : Int) := zi_eq.mp cz868
                refine lv_goto (tgt := 307) hx hb dX12_next_185 (by decide) ?_
                rw [hQ]
                exact W.vret hx hb hr (fun t ht hW => ⟨⟨(), rfl, trivial, (va_up (va_up (va_up vO 2 (tz356 1)) 3 (0 : Int32)) 1 (1 : Int32)), tz356, mO, (va_up gO 0 (0 : Int64)), htz356, hmO, (by show (tz356 0).toInt = (tO 0).toInt; omega), (by show (tz356 1).toInt ≤ (tO 0).toInt; omega), (by show (tO 1).toInt ≤ (tz356 1).toInt; omega), (by show (1 : Int) = 0 ∨ (tO 1).toInt < (tz356 1).toInt; omega), (by show (vO 4).toInt = (vO 4).toInt; omega), by rw [ht]; exact hP⟩, hS.F ht⟩) hS.2.2 dX12_next_307
              · skip
                have zz870 : ¬ rz865.toInt = (0 : Int) := fun h9 => cz868 (zi_eq.mpr h9)
                refine lv_aload_n hx hb dX12_next_117 rfl (lv_at hl 1 rfl) ?_
                refine lv_iload_n hx hb dX12_next_118 rfl (lv_at hl 0 rfl) ?_
                refine lv_bipush (v := 11) hx hb dX12_next_119 (by decide) ?_
                refine lv_icmp_le (tgt := 130) hx hb dX12_next_121 (by decide) (fun cz950 => ?_) (fun cz950 => ?_)
                · skip
                  refine lv_ldc2 (v := 27) hx hb hown (hts (.constantLong RX12 162 (27)) (wl_mem 13 rfl)) dX12_next_130 ?_
                  refine lv_aload_n hx hb dX12_next_133 rfl (lv_at hl 1 rfl) ?_
                  refine va_get (D := (dC, dI)) (ci := 12) (v := .long 0) (C := RX12) (T := TX12) (N := 59) hx hb hts (fun w h => List.mem_cons_of_mem _ (List.mem_append_right _ (List.mem_append_left _ h))) hown hK hP 0 rfl rfl 11 (by decide) (hts (.fieldLink RX12 153 "SagMemoryModel" "word" "J") (wl_mem 7 rfl)) (fun _ h9 => h9) rfl dX12_next_134 ?_
                  refine lv_lmul hx hb dX12_next_137 ?_
                  refine lv_topl (fun xz951 exz951 => ?_)
                  obtain rfl : xz951 = 0 := exz951.trans (by decide)
                  refine lv_aload_n hx hb dX12_next_138 rfl (lv_at hl 1 rfl) ?_
                  refine va_get (D := (dC, dI)) (ci := 12) (v := .ref (qTa 0)) (C := RX12) (T := TX12) (N := 59) hx hb hts (fun w h => List.mem_cons_of_mem _ (List.mem_append_right _ (List.mem_append_left _ h))) hown hK hP 0 rfl rfl 5 (by decide) (hts (.fieldLink RX12 23 "SagMemoryModel" "tape" "[B") (wl_mem 9 rfl)) (fun _ h9 => h9) rfl dX12_next_139 ?_
                  refine lv_aload_n hx hb dX12_next_142 rfl (lv_at hl 1 rfl) ?_
                  refine va_get (D := (dC, dI)) (ci := 12) (v := .int (tz356 1)) (C := RX12) (T := TX12) (N := 59) hx hb hts (fun w h => List.mem_cons_of_mem _ (List.mem_append_right _ (List.mem_append_left _ h))) hown hK hP 0 rfl rfl 7 (by decide) (hts (.fieldLink RX12 140 "SagMemoryModel" "spot" "I") (wl_mem 0 rfl)) (fun _ h9 => h9) rfl dX12_next_143 ?_
                  refine va_bald hx hb hK hP 1 2 rfl rfl (vp_in_iff.mpr ⟨by omega, by omega⟩) dX12_next_146 ?_
                  refine lv_topi (fun xz952 exz952 => ?_)
                  have gxz952 : xz952.toInt = ((aTa 0) (tz356 1).toNatClampNeg).toInt := congrArg Int32.toInt exz952
                  refine lv_i2l hx hb dX12_next_147 rfl ?_
                  refine lv_ladd hx hb dX12_next_148 ?_
                  have bz953 := fb_rng xz952
                  refine lv_topl (fun xz954 exz954 => ?_)
                  have fxz954 : xz954.toInt = (0 : Int) + xz952.toInt := by rw [exz954]; exact (by have h8 := fb_addL (x := (0 : Int64)) (y := xz952.toInt64) (by simp only [Int32.toInt_toInt64]; show -9223372036854775808 ≤ (0 : Int) + xz952.toInt; omega) (by simp only [Int32.toInt_toInt64]; show (0 : Int) + xz952.toInt < 9223372036854775808; omega); simp only [Int32.toInt_toInt64] at h8; exact h8)
                  refine lv_ldc2 (v := 96) hx hb hown (hts (.constantLong RX12 164 (96)) (wl_mem 14 rfl)) dX12_next_149 ?_
                  refine lv_lsub hx hb dX12_next_152 ?_
                  refine lv_topl (fun xz955 exz955 => ?_)
                  have fxz955 : xz955.toInt = xz954.toInt - (96 : Int) := by rw [exz955]; exact fb_subL (x := xz954) (y := (96 : Int64)) (by show -9223372036854775808 ≤ xz954.toInt - (96 : Int); omega) (by show xz954.toInt - (96 : Int) < 9223372036854775808; omega)
                  refine va_put (D := (dC, dI)) (ci := 12) (v := .long xz955) (ty := .long) (C := RX12) (T := TX12) (N := 59) hx hb hts (fun w h => List.mem_cons_of_mem _ (List.mem_append_right _ (List.mem_append_left _ h))) tyX12 tyX12_ok nmX12 hown hK hP hD hS 0 rfl rfl 11 (by decide) (hts (.fieldLink RX12 153 "SagMemoryModel" "word" "J") (wl_mem 7 rfl)) (fun _ h9 => h9) rfl (by decide +kernel) rfl rfl (Nat.le_of_ble_eq_true rfl) dX12_next_153 (fun H locs hP hD hS => ?_)
                  have hP : va_P (dC, dI) vwCl (List.flatten [(wMO qO k widthO manyO cellsO movedO (qTa 0) linesO hasO bridgeO cartO wardO frostAtO actO isKeptO loadNowO byNowO rowO memoryO whoseO deepNowO brokenByO brokenAtO goesByO comesToO sagMoreO creakOfO wipedByO deepAtO sagAtO loadAtO orderRowO oftenO lossOneO lossOtherO (va_up (va_up (va_up vO 2 (tz356 1)) 3 (0 : Int32)) 1 (1 : Int32)) tz356 mO (va_up gO 0 xz955))] ++ List.flatten [(wmTa qTa k aTa)]) H := hP
                  have hD : va_D A (List.flatten [(wMO qO k widthO manyO cellsO movedO (qTa 0) linesO hasO bridgeO cartO wardO frostAtO actO isKeptO loadNowO byNowO rowO memoryO whoseO deepNowO brokenByO brokenAtO goesByO comesToO sagMoreO creakOfO wipedByO deepAtO sagAtO loadAtO orderRowO oftenO lossOneO lossOtherO (va_up (va_up (va_up vO 2 (tz356 1)) 3 (0 : Int32)) 1 (1 : Int32)) tz356 mO (va_up gO 0 xz955))] ++ List.flatten [(wmTa qTa k aTa)]) := hD
                  refine lv_iload_n hx hb dX12_next_156 rfl (lv_at hl 0 rfl) ?_
                  refine lv_bipush (v := 11) hx hb dX12_next_157 (by decide) ?_
                  refine lv_icmp_le (tgt := 169) hx hb dX12_next_159 (by decide) (fun cz957 => ?_) (fun cz957 => ?_)
                  · skip
                    refine lv_aload_n hx hb dX12_next_169 rfl (lv_at hl 1 rfl) ?_
                    refine lv_dup hx hb dX12_next_170 rfl ?_
                    refine va_get (D := (dC, dI)) (ci := 12) (v := .int (tz356 1)) (C := RX12) (T := TX12) (N := 59) hx hb hts (fun w h => List.mem_cons_of_mem _ (List.mem_append_right _ (List.mem_append_left _ h))) hown hK hP 0 rfl rfl 7 (by decide) (hts (.fieldLink RX12 140 "SagMemoryModel" "spot" "I") (wl_mem 0 rfl)) (fun _ h9 => h9) rfl dX12_next_171 ?_
                    refine lv_iconst (v := 1) hx hb dX12_next_174 (by decide) ?_
                    refine lv_iadd hx hb dX12_next_175 ?_
                    refine lv_topi (fun xz958 exz958 => ?_)
                    have fxz958 : xz958.toInt = (tz356 1).toInt + (1 : Int) := by rw [exz958]; exact fb_addI (x := (tz356 1)) (y := (1 : Int32)) (by show -2147483648 ≤ (tz356 1).toInt + (1 : Int); omega) (by show (tz356 1).toInt + (1 : Int) < 2147483648; omega)
                    refine va_put (D := (dC, dI)) (ci := 12) (v := .int xz958) (ty := .int) (C := RX12) (T := TX12) (N := 59) hx hb hts (fun w h => List.mem_cons_of_mem _ (List.mem_append_right _ (List.mem_append_left _ h))) tyX12 tyX12_ok nmX12 hown hK hP hD hS 0 rfl rfl 7 (by decide) (hts (.fieldLink RX12 140 "SagMemoryModel" "spot" "I") (wl_mem 0 rfl)) (fun _ h9 => h9) rfl (by decide +kernel) rfl rfl (Nat.le_of_ble_eq_true rfl) dX12_next_176 (fun H locs hP hD hS => ?_)
                    have hP : va_P (dC, dI) vwCl (List.flatten [(wMO qO k widthO manyO cellsO movedO (qTa 0) linesO hasO bridgeO cartO wardO frostAtO actO isKeptO loadNowO byNowO rowO memoryO whoseO deepNowO brokenByO brokenAtO goesByO comesToO sagMoreO creakOfO wipedByO deepAtO sagAtO loadAtO orderRowO oftenO lossOneO lossOtherO (va_up (va_up (va_up vO 2 (tz356 1)) 3 (0 : Int32)) 1 (1 : Int32)) (va_up tz356 1 xz958) mO (va_up gO 0 xz955))] ++ List.flatten [(wmTa qTa k aTa)]) H := hP
                    have hD : va_D A (List.flatten [(wMO qO k widthO manyO cellsO movedO (qTa 0) linesO hasO bridgeO cartO wardO frostAtO actO isKeptO loadNowO byNowO rowO memoryO whoseO deepNowO brokenByO brokenAtO goesByO comesToO sagMoreO creakOfO wipedByO deepAtO sagAtO loadAtO orderRowO oftenO lossOneO lossOtherO (va_up (va_up (va_up vO 2 (tz356 1)) 3 (0 : Int32)) 1 (1 : Int32)) (va_up tz356 1 xz958) mO (va_up gO 0 xz955))] ++ List.flatten [(wmTa qTa k aTa)]) := hD
                    refine lv_iinc (v := 1) (lv' := [(1, .int 1), (0, .ref (qO 0))]) hx hb dX12_next_179 hl (k := 0) rfl (by decide) (by decide) rfl (fun ls hl => ?_)
                    refine lv_goto (tgt := 102) hx hb dX12_next_182 (by decide) ?_
                    have lp102_kz995 : ∀ (n9_102 : Nat) (H : Heap) (locs : List Loc) (ls : Array Slot) (gz992 : Nat → Int64) (tz993 : Nat → Int32) (xz994 : Int32), (700 - (tz993 1).toInt).toNat < n9_102 → Rg 0 700 tz993 → (tO 1).toInt < (tz993 1).toInt → (tz993 0).toInt = (tO 0).toInt → (tz993 1).toInt ≤ (tz993 0).toInt → (tO 1).toInt ≤ (tz993 1).toInt → (vO 4).toInt = (vO 4).toInt → va_P (dC, dI) vwCl (List.flatten [(wMO qO k widthO manyO cellsO movedO (qTa 0) linesO hasO bridgeO cartO wardO frostAtO actO isKeptO loadNowO byNowO rowO memoryO whoseO deepNowO brokenByO brokenAtO goesByO comesToO sagMoreO creakOfO wipedByO deepAtO sagAtO loadAtO orderRowO oftenO lossOneO lossOtherO (va_up (va_up (va_up vO 2 (tz356 1)) 3 (0 : Int32)) 1 (1 : Int32)) tz993 mO gz992)] ++ List.flatten [(wmTa qTa k aTa)]) H → va_D A (List.flatten [(wMO qO k widthO manyO cellsO movedO (qTa 0) linesO hasO bridgeO cartO wardO frostAtO actO isKeptO loadNowO byNowO rowO memoryO whoseO deepNowO brokenByO brokenAtO goesByO comesToO sagMoreO creakOfO wipedByO deepAtO sagAtO loadAtO orderRowO oftenO lossOneO lossOtherO (va_up (va_up (va_up vO 2 (tz356 1)) 3 (0 : Int32)) 1 (1 : Int32)) tz993 mO gz992)] ++ List.flatten [(wmTa qTa k aTa)]) → va_S A s.heap H locs → lv_has ls 2 [(0, .ref (qO 0)), (1, .int xz994)] → W p l e (headSpec wk_c_X12_next ({ frames := 1, cells := 0, slots := 0, locals := 23 })).room s m ([.ref (qO 0)] : List Value).toArray below meth c H locs 0 0 Q (F0 m 102 ls []) := by
                      intro n9_102
                      induction n9_102 with
                      | zero => intro H locs ls gz992 tz993 xz994 hm; exact absurd hm (Nat.not_lt_zero _)
                      | succ n9_102 ih102 =>
                        intro H locs ls gz992 tz993 xz994 hm102 htz993 jz996 jz997 jz998 jz999 jz1000 hP hD hS hl
                        refine lv_aload_n hx hb dX12_next_102 rfl (lv_at hl 0 rfl) ?_
                        refine lv_aload_n hx hb dX12_next_103 rfl (lv_at hl 0 rfl) ?_
                        refine va_get (D := (dC, dI)) (ci := 12) (v := .int (tz993 1)) (C := RX12) (T := TX12) (N := 59) hx hb hts (fun w h => List.mem_cons_of_mem _ (List.mem_append_right _ (List.mem_append_left _ h))) hown hK hP 0 rfl rfl 7 (by decide) (hts (.fieldLink RX12 140 "SagMemoryModel" "spot" "I") (wl_mem 0 rfl)) (fun _ h9 => h9) rfl dX12_next_104 ?_
                        have bz1001 := htz993 1
                        refine lv_bipush (v := 97) hx hb dX12_next_107 (by decide) ?_
                        refine lv_bipush (v := 122) hx hb dX12_next_109 (by decide) ?_
                        have hPc := hP.sub (ws' := (List.flatten [(wMO qO k widthO manyO cellsO movedO (qTa 0) linesO hasO bridgeO cartO wardO frostAtO actO isKeptO loadNowO byNowO rowO memoryO whoseO deepNowO brokenByO brokenAtO goesByO comesToO sagMoreO creakOfO wipedByO deepAtO sagAtO loadAtO orderRowO oftenO lossOneO lossOtherO (va_up (va_up (va_up vO 2 (tz356 1)) 3 (0 : Int32)) 1 (1 : Int32)) tz993 mO gz992), (wmTa qTa k aTa)])) [0, 1] rfl
                        refine vp_callSi (va_Run.run (va_runV (As := [.int (tz993 1), .int 97, .int 122]) (rest := []) ⟨hx, hb, hml, hown, hts⟩ (c_X12_isByte l dC dI k qO widthO manyO cellsO movedO linesO hasO bridgeO cartO wardO frostAtO actO isKeptO loadNowO byNowO rowO memoryO whoseO deepNowO brokenByO brokenAtO goesByO comesToO sagMoreO creakOfO wipedByO deepAtO sagAtO loadAtO orderRowO oftenO lossOneO lossOtherO (va_up (va_up (va_up vO 2 (tz356 1)) 3 (0 : Int32)) 1 (1 : Int32)) tz993 mO gz992 qTa aTa (tz993 1) (97 : Int32) (122 : Int32) htz993 hmO (by show 0 ≤ (tz993 1).toInt; omega)) (cwV 3 hts (gk_V (wl_mem 1 rfl) (wl_mem 2 rfl) (wl_mem 3 rfl) (wl_mem 4 rfl) (fun w h => List.mem_cons_of_mem _ (List.mem_append_right _ (List.mem_append_right _ (List.mem_append_left _ h)))) wkg_c_X12_isByte) rfl rfl rfl (by decide +kernel) ⟨Nat.le_of_ble_eq_true rfl, Nat.le_of_ble_eq_true rfl⟩) ⟨fun a U g mk q => by obtain ⟨q0, qP, qK⟩ := q; exact ⟨q0, qP, va_K.moved (u := U) (U := U.calling g mk a) (Vm.Alike.refl U.vm) qK⟩, va_recv hK hPc (ci := 12) (q0 := 0) rfl rfl, fun U hU hW => ⟨rfl, by rw [hU]; exact hPc, va_K.moved hW.alike hK⟩⟩ rfl rfl hl.1 rfl (lv_room (Nat.le_of_ble_eq_true rfl)) dX12_next_111 ⟨Nat.le_of_ble_eq_true rfl, Nat.le_of_ble_eq_true rfl⟩)) (fun rz1003 gz1002 => ?_)
                        clear hPc
                        obtain ⟨pz1004, pz1005⟩ := gz1002
                        have pz1004 : (rz1003.toInt = 1 ∧ (tz993 1).toInt < (tz993 0).toInt ∧ (97 : Int) ≤ ((aTa 0) (tz993 1).toNatClampNeg).toInt ∧ ((aTa 0) (tz993 1).toNatClampNeg).toInt ≤ (122 : Int)) ∨ (rz1003.toInt = 0 ∧ ((tz993 0).toInt ≤ (tz993 1).toInt ∨ ((aTa 0) (tz993 1).toNatClampNeg).toInt < (97 : Int) ∨ (122 : Int) < ((aTa 0) (tz993 1).toNatClampNeg).toInt)) := pz1004
                        have pz1005 : rz1003.toInt = 0 ∨ rz1003.toInt = 1 := pz1005
                        have bz1006 := htz993 0
                        refine lv_if_eq (tgt := 185) hx hb dX12_next_114 (by decide) (fun cz1007 => ?_) (fun cz1007 => ?_)
                        · skip
                          have zz1008 : rz1003.toInt = (0 : Int) := zi_eq.mp cz1007
                          refine lv_goto (tgt := 307) hx hb dX12_next_185 (by decide) ?_
                          rw [hQ]
                          exact W.vret hx hb hr (fun t ht hW => ⟨⟨(), rfl, trivial, (va_up (va_up (va_up vO 2 (tz356 1)) 3 (0 : Int32)) 1 (1 : Int32)), tz993, mO, gz992, htz993, hmO, (by show (tz993 0).toInt = (tO 0).toInt; omega), (by show (tz993 1).toInt ≤ (tO 0).toInt; omega), (by show (tO 1).toInt ≤ (tz993 1).toInt; omega), (by show (1 : Int) = 0 ∨ (tO 1).toInt < (tz993 1).toInt; omega), (by show (vO 4).toInt = (vO 4).toInt; omega), by rw [ht]; exact hP⟩, hS.F ht⟩) hS.2.2 dX12_next_307
                        · skip
                          have zz1009 : ¬ rz1003.toInt = (0 : Int) := fun h9 => cz1007 (zi_eq.mpr h9)
                          refine lv_aload_n hx hb dX12_next_117 rfl (lv_at hl 0 rfl) ?_
                          refine lv_iload_n hx hb dX12_next_118 rfl (lv_at hl 1 rfl) ?_
                          refine lv_bipush (v := 11) hx hb dX12_next_119 (by decide) ?_
                          refine lv_icmp_le (tgt := 130) hx hb dX12_next_121 (by decide) (fun cz1010 => ?_) (fun cz1010 => ?_)
                          · skip
                            have bz1011 := fb_rng xz994
                            have zz1012 : xz994.toInt ≤ (11 : Int) := zi_le.mp cz1010
                            refine lv_ldc2 (v := 27) hx hb hown (hts (.constantLong RX12 162 (27)) (wl_mem 13 rfl)) dX12_next_130 ?_
                            refine lv_aload_n hx hb dX12_next_133 rfl (lv_at hl 0 rfl) ?_
                            refine va_get (D := (dC, dI)) (ci := 12) (v := .long (gz992 0)) (C := RX12) (T := TX12) (N := 59) hx hb hts (fun w h => List.mem_cons_of_mem _ (List.mem_append_right _ (List.mem_append_left _ h))) hown hK hP 0 rfl rfl 11 (by decide) (hts (.fieldLink RX12 153 "SagMemoryModel" "word" "J") (wl_mem 7 rfl)) (fun _ h9 => h9) rfl dX12_next_134 ?_
                            refine lv_lmul hx hb dX12_next_137 ?_
                            refine lv_topl (fun xz1013 exz1013 => ?_)
                            refine lv_aload_n hx hb dX12_next_138 rfl (lv_at hl 0 rfl) ?_
                            refine va_get (D := (dC, dI)) (ci := 12) (v := .ref (qTa 0)) (C := RX12) (T := TX12) (N := 59) hx hb hts (fun w h => List.mem_cons_of_mem _ (List.mem_append_right _ (List.mem_append_left _ h))) hown hK hP 0 rfl rfl 5 (by decide) (hts (.fieldLink RX12 23 "SagMemoryModel" "tape" "[B") (wl_mem 9 rfl)) (fun _ h9 => h9) rfl dX12_next_139 ?_
                            refine lv_aload_n hx hb dX12_next_142 rfl (lv_at hl 0 rfl) ?_
                            refine va_get (D := (dC, dI)) (ci := 12) (v := .int (tz993 1)) (C := RX12) (T := TX12) (N := 59) hx hb hts (fun w h => List.mem_cons_of_mem _ (List.mem_append_right _ (List.mem_append_left _ h))) hown hK hP 0 rfl rfl 7 (by decide) (hts (.fieldLink RX12 140 "SagMemoryModel" "spot" "I") (wl_mem 0 rfl)) (fun _ h9 => h9) rfl dX12_next_143 ?_
                            refine va_bald hx hb hK hP 1 2 rfl rfl (vp_in_iff.mpr ⟨by omega, by omega⟩) dX12_next_146 ?_
                            refine lv_topi (fun xz1014 exz1014 => ?_)
                            have gxz1014 : xz1014.toInt = ((aTa 0) (tz993 1).toNatClampNeg).toInt := congrArg Int32.toInt exz1014
                            refine lv_i2l hx hb dX12_next_147 rfl ?_
                            refine lv_ladd hx hb dX12_next_148 ?_
                            refine lv_topl (fun xz1015 exz1015 => ?_)
                            refine lv_ldc2 (v := 96) hx hb hown (hts (.constantLong RX12 164 (96)) (wl_mem 14 rfl)) dX12_next_149 ?_
                            refine lv_lsub hx hb dX12_next_152 ?_
                            refine lv_topl (fun xz1016 exz1016 => ?_)
                            refine va_put (D := (dC, dI)) (ci := 12) (v := .long xz1016) (ty := .long) (C := RX12) (T := TX12) (N := 59) hx hb hts (fun w h => List.mem_cons_of_mem _ (List.mem_append_right _ (List.mem_append_left _ h))) tyX12 tyX12_ok nmX12 hown hK hP hD hS 0 rfl rfl 11 (by decide) (hts (.fieldLink RX12 153 "SagMemoryModel" "word" "J") (wl_mem 7 rfl)) (fun _ h9 => h9) rfl (by decide +kernel) rfl rfl (Nat.le_of_ble_eq_true rfl) dX12_next_153 (fun H locs hP hD hS => ?_)
                            have hP : va_P (dC, dI) vwCl (List.flatten [(wMO qO k widthO manyO cellsO movedO (qTa 0) linesO hasO bridgeO cartO wardO frostAtO actO isKeptO loadNowO byNowO rowO memoryO whoseO deepNowO brokenByO brokenAtO goesByO comesToO sagMoreO creakOfO wipedByO deepAtO sagAtO loadAtO orderRowO oftenO lossOneO lossOtherO (va_up (va_up (va_up vO 2 (tz356 1)) 3 (0 : Int32)) 1 (1 : Int32)) tz993 mO (va_up gz992 0 xz1016))] ++ List.flatten [(wmTa qTa k aTa)]) H := hP
                            have hD : va_D A (List.flatten [(wMO qO k widthO manyO cellsO movedO (qTa 0) linesO hasO bridgeO cartO wardO frostAtO actO isKeptO loadNowO byNowO rowO memoryO whoseO deepNowO brokenByO brokenAtO goesByO comesToO sagMoreO creakOfO wipedByO deepAtO sagAtO loadAtO orderRowO oftenO lossOneO lossOtherO (va_up (va_up (va_up vO 2 (tz356 1)) 3 (0 : Int32)) 1 (1 : Int32)) tz993 mO (va_up gz992 0 xz1016))] ++ List.flatten [(wmTa qTa k aTa)]) := hD
                            refine lv_iload_n hx hb dX12_next_156 rfl (lv_at hl 1 rfl) ?_
                            refine lv_bipush (v := 11) hx hb dX12_next_157 (by decide) ?_
                            refine lv_icmp_le (tgt := 169) hx hb dX12_next_159 (by decide) (fun cz1017 => ?_) (fun cz1017 => ?_)
                            · skip
                              have zz1018 : xz994.toInt ≤ (11 : Int) := zi_le.mp cz1017
                              refine lv_aload_n hx hb dX12_next_169 rfl (lv_at hl 0 rfl) ?_
                              refine lv_dup hx hb dX12_next_170 rfl ?_
                              refine va_get (D := (dC, dI)) (ci := 12) (v := .int (tz993 1)) (C := RX12) (T := TX12) (N := 59) hx hb hts (fun w h => List.mem_cons_of_mem _ (List.mem_append_right _ (List.mem_append_left _ h))) hown hK hP 0 rfl rfl 7 (by decide) (hts (.fieldLink RX12 140 "SagMemoryModel" "spot" "I") (wl_mem 0 rfl)) (fun _ h9 => h9) rfl dX12_next_171 ?_
                              refine lv_iconst (v := 1) hx hb dX12_next_174 (by decide) ?_
                              refine lv_iadd hx hb dX12_next_175 ?_
                              refine lv_topi (fun xz1019 exz1019 => ?_)
                              have fxz1019 : xz1019.toInt = (tz993 1).toInt + (1 : Int) := by rw [exz1019]; exact fb_addI (x := (tz993 1)) (y := (1 : Int32)) (by show -2147483648 ≤ (tz993 1).toInt + (1 : Int); omega) (by show (tz993 1).toInt + (1 : Int) < 2147483648; omega)
                              refine va_put (D := (dC, dI)) (ci := 12) (v := .int xz1019) (ty := .int) (C := RX12) (T := TX12) (N := 59) hx hb hts (fun w h => List.mem_cons_of_mem _ (List.mem_append_right _ (List.mem_append_left _ h))) tyX12 tyX12_ok nmX12 hown hK hP hD hS 0 rfl rfl 7 (by decide) (hts (.fieldLink RX12 140 "SagMemoryModel" "spot" "I") (wl_mem 0 rfl)) (fun _ h9 => h9) rfl (by decide +kernel) rfl rfl (Nat.le_of_ble_eq_true rfl) dX12_next_176 (fun H locs hP hD hS => ?_)
                              have hP : va_P (dC, dI) vwCl (List.flatten [(wMO qO k widthO manyO cellsO movedO (qTa 0) linesO hasO bridgeO cartO wardO frostAtO actO isKeptO loadNowO byNowO rowO memoryO whoseO deepNowO brokenByO brokenAtO goesByO comesToO sagMoreO creakOfO wipedByO deepAtO sagAtO loadAtO orderRowO oftenO lossOneO lossOtherO (va_up (va_up (va_up vO 2 (tz356 1)) 3 (0 : Int32)) 1 (1 : Int32)) (va_up tz993 1 xz1019) mO (va_up gz992 0 xz1016))] ++ List.flatten [(wmTa qTa k aTa)]) H := hP
                              have hD : va_D A (List.flatten [(wMO qO k widthO manyO cellsO movedO (qTa 0) linesO hasO bridgeO cartO wardO frostAtO actO isKeptO loadNowO byNowO rowO memoryO whoseO deepNowO brokenByO brokenAtO goesByO comesToO sagMoreO creakOfO wipedByO deepAtO sagAtO loadAtO orderRowO oftenO lossOneO lossOtherO (va_up (va_up (va_up vO 2 (tz356 1)) 3 (0 : Int32)) 1 (1 : Int32)) (va_up tz993 1 xz1019) mO (va_up gz992 0 xz1016))] ++ List.flatten [(wmTa qTa k aTa)]) := hD
                              obtain ⟨xz1020, exz1020⟩ : ∃ y : Int32, y = xz994 + Int32.ofInt (1) := ⟨_, rfl⟩
                              have fxz1020 : xz1020.toInt = xz994.toInt + (1) := by rw [exz1020]; exact fb_addI (y := Int32.ofInt (1)) (by show -2147483648 ≤ xz994.toInt + (1); omega) (by show xz994.toInt + (1) < 2147483648; omega)
                              refine lv_iinc (v := xz1020) (lv' := [(1, .int xz1020), (0, .ref (qO 0))]) hx hb dX12_next_179 hl (k := 1) rfl exz1020.symm (by decide) rfl (fun ls hl => ?_)
                              refine lv_goto (tgt := 102) hx hb dX12_next_182 (by decide) ?_
                              exact ih102 H locs ls (va_up gz992 0 xz1016) (va_up tz993 1 xz1019) xz1020 (by show (700 - xz1019.toInt).toNat < n9_102; omega) (rg_up htz993 (by show 0 ≤ xz1019.toInt ∧ xz1019.toInt ≤ 700; omega)) (by show (tO 1).toInt < xz1019.toInt; omega) (by show (tz993 0).toInt = (tO 0).toInt; omega) (by show xz1019.toInt ≤ (tz993 0).toInt; omega) (by show (tO 1).toInt ≤ xz1019.toInt; omega) (by show (vO 4).toInt = (vO 4).toInt; omega) hP hD hS (lv_sub hl [1, 0] rfl)
                            · skip
                              have zz1021 : ¬ xz994.toInt ≤ (11 : Int) := fun h9 => cz1017 (zi_le.mpr h9)
                              omega
                          · skip
                            have bz1022 := fb_rng xz994
                            have zz1023 : ¬ xz994.toInt ≤ (11 : Int) := fun h9 => cz1010 (zi_le.mpr h9)
                            refine lv_ldc2 (v := (-1)) hx hb hown (hts (.constantLong RX12 160 (-1)) (wl_mem 15 rfl)) dX12_next_124 ?_
                            refine lv_goto (tgt := 153) hx hb dX12_next_127 (by decide) ?_
                            refine va_put (D := (dC, dI)) (ci := 12) (v := .long (-1)) (ty := .long) (C := RX12) (T := TX12) (N := 59) hx hb hts (fun w h => List.mem_cons_of_mem _ (List.mem_append_right _ (List.mem_append_left _ h))) tyX12 tyX12_ok nmX12 hown hK hP hD hS 0 rfl rfl 11 (by decide) (hts (.fieldLink RX12 153 "SagMemoryModel" "word" "J") (wl_mem 7 rfl)) (fun _ h9 => h9) rfl (by decide +kernel) rfl rfl (Nat.le_of_ble_eq_true rfl) dX12_next_153 (fun H locs hP hD hS => ?_)
                            have hP : va_P (dC, dI) vwCl (List.flatten [(wMO qO k widthO manyO cellsO movedO (qTa 0) linesO hasO bridgeO cartO wardO frostAtO actO isKeptO loadNowO byNowO rowO memoryO whoseO deepNowO brokenByO brokenAtO goesByO comesToO sagMoreO creakOfO wipedByO deepAtO sagAtO loadAtO orderRowO oftenO lossOneO lossOtherO (va_up (va_up (va_up vO 2 (tz356 1)) 3 (0 : Int32)) 1 (1 : Int32)) tz993 mO (va_up gz992 0 (-1 : Int64)))] ++ List.flatten [(wmTa qTa k aTa)]) H := hP
                            have hD : va_D A (List.flatten [(wMO qO k widthO manyO cellsO movedO (qTa 0) linesO hasO bridgeO cartO wardO frostAtO actO isKeptO loadNowO byNowO rowO memoryO whoseO deepNowO brokenByO brokenAtO goesByO comesToO sagMoreO creakOfO wipedByO deepAtO sagAtO loadAtO orderRowO oftenO lossOneO lossOtherO (va_up (va_up (va_up vO 2 (tz356 1)) 3 (0 : Int32)) 1 (1 : Int32)) tz993 mO (va_up gz992 0 (-1 : Int64)))] ++ List.flatten [(wmTa qTa k aTa)]) := hD
                            refine lv_iload_n hx hb dX12_next_156 rfl (lv_at hl 1 rfl) ?_
                            refine lv_bipush (v := 11) hx hb dX12_next_157 (by decide) ?_
                            refine lv_icmp_le (tgt := 169) hx hb dX12_next_159 (by decide) (fun cz1024 => ?_) (fun cz1024 => ?_)
                            · skip
                              have zz1025 : xz994.toInt ≤ (11 : Int) := zi_le.mp cz1024
                              omega
                            · skip
                              have zz1026 : ¬ xz994.toInt ≤ (11 : Int) := fun h9 => cz1024 (zi_le.mpr h9)
                              refine lv_aload_n hx hb dX12_next_162 rfl (lv_at hl 0 rfl) ?_
                              refine lv_ldc2 (v := (-1)) hx hb hown (hts (.constantLong RX12 160 (-1)) (wl_mem 15 rfl)) dX12_next_163 ?_
                              refine va_put (D := (dC, dI)) (ci := 12) (v := .long (-1)) (ty := .long) (C := RX12) (T := TX12) (N := 59) hx hb hts (fun w h => List.mem_cons_of_mem _ (List.mem_append_right _ (List.mem_append_left _ h))) tyX12 tyX12_ok nmX12 hown hK hP hD hS 0 rfl rfl 11 (by decide) (hts (.fieldLink RX12 153 "SagMemoryModel" "word" "J") (wl_mem 7 rfl)) (fun _ h9 => h9) rfl (by decide +kernel) rfl rfl (Nat.le_of_ble_eq_true rfl) dX12_next_166 (fun H locs hP hD hS => ?_)
                              have hP : va_P (dC, dI) vwCl (List.flatten [(wMO qO k widthO manyO cellsO movedO (qTa 0) linesO hasO bridgeO cartO wardO frostAtO actO isKeptO loadNowO byNowO rowO memoryO whoseO deepNowO brokenByO brokenAtO goesByO comesToO sagMoreO creakOfO wipedByO deepAtO sagAtO loadAtO orderRowO oftenO lossOneO lossOtherO (va_up (va_up (va_up vO 2 (tz356 1)) 3 (0 : Int32)) 1 (1 : Int32)) tz993 mO (va_up gz992 0 (-1 : Int64)))] ++ List.flatten [(wmTa qTa k aTa)]) H := hP
                              have hD : va_D A (List.flatten [(wMO qO k widthO manyO cellsO movedO (qTa 0) linesO hasO bridgeO cartO wardO frostAtO actO isKeptO loadNowO byNowO rowO memoryO whoseO deepNowO brokenByO brokenAtO goesByO comesToO sagMoreO creakOfO wipedByO deepAtO sagAtO loadAtO orderRowO oftenO lossOneO lossOtherO (va_up (va_up (va_up vO 2 (tz356 1)) 3 (0 : Int32)) 1 (1 : Int32)) tz993 mO (va_up gz992 0 (-1 : Int64)))] ++ List.flatten [(wmTa qTa k aTa)]) := hD
                              refine lv_aload_n hx hb dX12_next_169 rfl (lv_at hl 0 rfl) ?_
                              refine lv_dup hx hb dX12_next_170 rfl ?_
                              refine va_get (D := (dC, dI)) (ci := 12) (v := .int (tz993 1)) (C := RX12) (T := TX12) (N := 59) hx hb hts (fun w h => List.mem_cons_of_mem _ (List.mem_append_right _ (List.mem_append_left _ h))) hown hK hP 0 rfl rfl 7 (by decide) (hts (.fieldLink RX12 140 "SagMemoryModel" "spot" "I") (wl_mem 0 rfl)) (fun _ h9 => h9) rfl dX12_next_171 ?_
                              refine lv_iconst (v := 1) hx hb dX12_next_174 (by decide) ?_
                              refine lv_iadd hx hb dX12_next_175 ?_
                              refine lv_topi (fun xz1027 exz1027 => ?_)
                              have fxz1027 : xz1027.toInt = (tz993 1).toInt + (1 : Int) := by rw [exz1027]; exact fb_addI (x := (tz993 1)) (y := (1 : Int32)) (by show -2147483648 ≤ (tz993 1).toInt + (1 : Int); omega) (by show (tz993 1).toInt + (1 : Int) < 2147483648; omega)
                              refine va_put (D := (dC, dI)) (ci := 12) (v := .int xz1027) (ty := .int) (C := RX12) (T := TX12) (N := 59) hx hb hts (fun w h => List.mem_cons_of_mem _ (List.mem_append_right _ (List.mem_append_left _ h))) tyX12 tyX12_ok nmX12 hown hK hP hD hS 0 rfl rfl 7 (by decide) (hts (.fieldLink RX12 140 "SagMemoryModel" "spot" "I") (wl_mem 0 rfl)) (fun _ h9 => h9) rfl (by decide +kernel) rfl rfl (Nat.le_of_ble_eq_true rfl) dX12_next_176 (fun H locs hP hD hS => ?_)
                              have hP : va_P (dC, dI) vwCl (List.flatten [(wMO qO k widthO manyO cellsO movedO (qTa 0) linesO hasO bridgeO cartO wardO frostAtO actO isKeptO loadNowO byNowO rowO memoryO whoseO deepNowO brokenByO brokenAtO goesByO comesToO sagMoreO creakOfO wipedByO deepAtO sagAtO loadAtO orderRowO oftenO lossOneO lossOtherO (va_up (va_up (va_up vO 2 (tz356 1)) 3 (0 : Int32)) 1 (1 : Int32)) (va_up tz993 1 xz1027) mO (va_up gz992 0 (-1 : Int64)))] ++ List.flatten [(wmTa qTa k aTa)]) H := hP
                              have hD : va_D A (List.flatten [(wMO qO k widthO manyO cellsO movedO (qTa 0) linesO hasO bridgeO cartO wardO frostAtO actO isKeptO loadNowO byNowO rowO memoryO whoseO deepNowO brokenByO brokenAtO goesByO comesToO sagMoreO creakOfO wipedByO deepAtO sagAtO loadAtO orderRowO oftenO lossOneO lossOtherO (va_up (va_up (va_up vO 2 (tz356 1)) 3 (0 : Int32)) 1 (1 : Int32)) (va_up tz993 1 xz1027) mO (va_up gz992 0 (-1 : Int64)))] ++ List.flatten [(wmTa qTa k aTa)]) := hD
                              obtain ⟨xz1028, exz1028⟩ : ∃ y : Int32, y = xz994 + Int32.ofInt (1) := ⟨_, rfl⟩
                              refine lv_iinc (v := xz1028) (lv' := [(1, .int xz1028), (0, .ref (qO 0))]) hx hb dX12_next_179 hl (k := 1) rfl exz1028.symm (by decide) rfl (fun ls hl => ?_)
                              refine lv_goto (tgt := 102) hx hb dX12_next_182 (by decide) ?_
                              exact ih102 H locs ls (va_up gz992 0 (-1 : Int64)) (va_up tz993 1 xz1027) xz1028 (by show (700 - xz1027.toInt).toNat < n9_102; omega) (rg_up htz993 (by show 0 ≤ xz1027.toInt ∧ xz1027.toInt ≤ 700; omega)) (by show (tO 1).toInt < xz1027.toInt; omega) (by show (tz993 0).toInt = (tO 0).toInt; omega) (by show xz1027.toInt ≤ (tz993 0).toInt; omega) (by show (tO 1).toInt ≤ xz1027.toInt; omega) (by show (vO 4).toInt = (vO 4).toInt; omega) hP hD hS (lv_sub hl [1, 0] rfl)
                    exact lp102_kz995 _ H locs ls (va_up gO 0 xz955) (va_up tz356 1 xz958) (1 : Int32) (Nat.lt_succ_self _) (rg_up htz356 (by show 0 ≤ xz958.toInt ∧ xz958.toInt ≤ 700; omega)) (by show (tO 1).toInt < xz958.toInt; omega) (by show (tz356 0).toInt = (tO 0).toInt; omega) (by show xz958.toInt ≤ (tz356 0).toInt; omega) (by show (tO 1).toInt ≤ xz958.toInt; omega) (by show (vO 4).toInt = (vO 4).toInt; omega) hP hD hS (lv_sub hl [1, 0] rfl)
                  · skip
                    exact absurd cz957 (by decide)
                · skip
                  exact absurd cz950 (by decide)
          · skip
            have zz1029 : (tz356 1).toInt = (tz356 0).toInt := zi_eq.mp cz712
            refine lv_aload_n hx hb dX12_next_72 rfl (lv_at hl 0 rfl) ?_
            refine lv_iconst (v := 0) hx hb dX12_next_73 (by decide) ?_
            refine va_put (D := (dC, dI)) (ci := 12) (v := .int 0) (ty := .int) (C := RX12) (T := TX12) (N := 59) hx hb hts (fun w h => List.mem_cons_of_mem _ (List.mem_append_right _ (List.mem_append_left _ h))) tyX12 tyX12_ok nmX12 hown hK hP hD hS 0 rfl rfl 8 (by decide) (hts (.fieldLink RX12 157 "SagMemoryModel" "token" "I") (wl_mem 10 rfl)) (fun _ h9 => h9) rfl (by decide +kernel) rfl rfl (Nat.le_of_ble_eq_true rfl) dX12_next_74 (fun H locs hP hD hS => ?_)
            have hP : va_P (dC, dI) vwCl (List.flatten [(wMO qO k widthO manyO cellsO movedO (qTa 0) linesO hasO bridgeO cartO wardO frostAtO actO isKeptO loadNowO byNowO rowO memoryO whoseO deepNowO brokenByO brokenAtO goesByO comesToO sagMoreO creakOfO wipedByO deepAtO sagAtO loadAtO orderRowO oftenO lossOneO lossOtherO (va_up (va_up (va_up vO 2 (tz356 1)) 3 (0 : Int32)) 1 (0 : Int32)) tz356 mO (va_up gO 0 (0 : Int64)))] ++ List.flatten [(wmTa qTa k aTa)]) H := hP
            have hD : va_D A (List.flatten [(wMO qO k widthO manyO cellsO movedO (qTa 0) linesO hasO bridgeO cartO wardO frostAtO actO isKeptO loadNowO byNowO rowO memoryO whoseO deepNowO brokenByO brokenAtO goesByO comesToO sagMoreO creakOfO wipedByO deepAtO sagAtO loadAtO orderRowO oftenO lossOneO lossOtherO (va_up (va_up (va_up vO 2 (tz356 1)) 3 (0 : Int32)) 1 (0 : Int32)) tz356 mO (va_up gO 0 (0 : Int64)))] ++ List.flatten [(wmTa qTa k aTa)]) := hD
            refine lv_goto (tgt := 307) hx hb dX12_next_77 (by decide) ?_
            rw [hQ]
            exact W.vret hx hb hr (fun t ht hW => ⟨⟨(), rfl, trivial, (va_up (va_up (va_up vO 2 (tz356 1)) 3 (0 : Int32)) 1 (0 : Int32)), tz356, mO, (va_up gO 0 (0 : Int64)), htz356, hmO, (by show (tz356 0).toInt = (tO 0).toInt; omega), (by show (tz356 1).toInt ≤ (tO 0).toInt; omega), (by show (tO 1).toInt ≤ (tz356 1).toInt; omega), (by show (0 : Int) = 0 ∨ (tO 1).toInt < (tz356 1).toInt; omega), (by show (vO 4).toInt = (vO 4).toInt; omega), by rw [ht]; exact hP⟩, hS.F ht⟩) hS.2.2 dX12_next_307
        · skip
          have zz1030 : ¬ rz707.toInt = (0 : Int) := fun h9 => cz710 (zi_eq.mpr h9)
          exact ct30_kz696 H locs ls  (by show (tz356 1).toInt < (tz356 0).toInt; omega) (by show (tz356 0).toInt = (tO 0).toInt; omega) (by show (tz356 1).toInt ≤ (tz356 0).toInt; omega) (by show (tO 1).toInt ≤ (tz356 1).toInt; omega) (by show (vO 4).toInt = (vO 4).toInt; omega) hP hD hS (lv_sub hl [0] rfl)
  exact lp0_kz357 _ s.heap [] ls tO (Nat.lt_succ_self _) htO (by show (tO 0).toInt = (tO 0).toInt; omega) (by show (tO 1).toInt ≤ (tO 0).toInt; omega) (by show (tO 1).toInt ≤ (tO 1).toInt; omega) (by show (vO 4).toInt = (vO 4).toInt; omega) hP hD hS (lv_sub hl [0] rfl)
